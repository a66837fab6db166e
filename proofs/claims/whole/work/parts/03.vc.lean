/-! part 03: one instruction's weakest precondition, over the abstract memory -/
def b01 (x : Int32) : Prop := x = 0 ∨ x = 1
def isBo : FieldType → Bool
  | .boolean => true
  | _ => false
def lg (L : List Value) (i : Nat) : Value := L.getD i (.float 0)
def pv (L : List Value) : Nat → Bool
  | 0 => true
  | k + 1 => nl (lg L k)
def jok (pc : Nat) (off : Int) : Bool := decide (0 ≤ (pc : Int) + off)
def jmp (pc : Nat) (off : Int) : Nat := ((pc : Int) + off).toNat
theorem jmp_ok {pc : Nat} {off : Int} (h : jok pc off = true) : (pc : Int) + off = (jmp pc off : Int) := by
  have : 0 ≤ (pc : Int) + off := by simpa [jok] using h
  unfold jmp
  omega
def cs : List Value → Nat
  | [] => 0
  | v :: l => v.category + cs l
theorem cs_map (B : Nat) : ∀ l : List Value, ((l.map (cv B)).map fun v => v.category).sum = cs l
  | [] => rfl
  | v :: l => by
    simp only [List.map_cons, List.sum_cons, cs, cv_cat]
    rw [← cs_map B l]
def takeA : Nat → List Value → List Value → Option (List Value × List Value)
  | 0, acc, st => some (acc, st)
  | k + 1, acc, v :: st => takeA k (v :: acc) st
  | _ + 1, _, [] => none
theorem takeA_ok : ∀ (k : Nat) (acc st as rest : List Value), takeA k acc st = some (as, rest) → ∃ t, st = t ++ rest ∧ as = t.reverse ++ acc ∧ t.length = k
  | 0, acc, st, as, rest, h => by
    cases h
    exact ⟨[], rfl, rfl, rfl⟩
  | k + 1, acc, [], as, rest, h => by cases h
  | k + 1, acc, v :: st, as, rest, h => by
    obtain ⟨t, h1, h2, h3⟩ := takeA_ok k (v :: acc) st as rest h
    exact ⟨v :: t, by rw [h1]; rfl, by rw [h2]; simp, by simp [h3]⟩
def lenI : Instr → Nat
  | .iload _ => 2
  | .aload _ => 2
  | .lload _ => 2
  | .istore _ => 2
  | .astore _ => 2
  | .lstore _ => 2
  | .bipush _ => 2
  | .ldc _ => 2
  | .newarray _ => 2
  | .sipush _ => 3
  | .ldc_w _ => 3
  | .ldc2_w _ => 3
  | .iinc _ _ => 3
  | .goto _ => 3
  | .ifCond _ _ => 3
  | .if_icmp _ _ => 3
  | .ifnull _ => 3
  | .ifnonnull _ => 3
  | .getfield _ => 3
  | .putfield _ => 3
  | .getstatic _ => 3
  | .invokevirtual _ => 3
  | .invokespecial _ => 3
  | .invokestatic _ => 3
  | .new _ => 3
  | .anewarray _ => 3
  | _ => 1
def isSw : Instr → Bool
  | .tableswitch _ _ _ _ => true
  | _ => false
def dk (cc : ByteArray) (pc : Nat) : Option Instr := match decode cc pc with
  | .ok (ins, len) => if isSw ins = true ∨ len = lenI ins then some ins else none
  | _ => none
theorem dk_ok {cc : ByteArray} {pc : Nat} {ins : Instr} (h : dk cc pc = some ins) : ∃ len, decode cc pc = .ok (ins, len) ∧ (isSw ins = true ∨ len = lenI ins) := by
  unfold dk at h
  cases hd : decode cc pc with
  | error e => rw [hd] at h; cases h
  | ok q =>
    obtain ⟨i, len⟩ := q
    rw [hd] at h
    simp only at h
    split at h
    · next hc =>
      cases h
      exact ⟨len, rfl, hc⟩
    · cases h
theorem dk_1 {cc : ByteArray} {pc : Nat} {ins : Instr} (h : dk cc pc = some ins) (hs : isSw ins = false) : decode cc pc = .ok (ins, lenI ins) := by
  obtain ⟨len, h1, h2⟩ := dk_ok h
  rcases h2 with h2 | h2
  · rw [hs] at h2; cases h2
  · rw [h1, h2]
/-- the kind of what is returned -/
def rtOk : Option FieldType → Option Value → Prop
  | some .int, some (.int _) => True
  | some .boolean, some (.int x) => b01 x
  | some .long, some (.long _) => True
  | some (.object _), some (.ref _) => True
  | some (.object _), some .null => True
  | none, none => True
  | _, _ => False
/-- a method's contract, with what is to hold behind it -/
def aPre (D : va_G) (dA : Nat → ClassId) (B n : Nat) (mu : aM) (ro : aR) (sg : aS) (U : State) : Prop := aP D dA B n mu ro sg U.heap ∧ aK D dA U ∧ aZ B U ∧ U.heap.size = B + n
def aQ (D : va_G) (dA : Nat → ClassId) (B : Nat) (K : Option Value → Nat → aM → aR → aS → Prop) : Array Value → State → Outcome → State → Prop := fun _ st oc t =>
  (∃ (r : Option Value) (n' : Nat) (mu' : aM) (ro' : aR) (sg' : aS), oc = .returned (r.map (cv B)) ∧ K r n' mu' ro' sg' ∧ aP D dA B n' mu' ro' sg' t.heap ∧ t.heap.size = B + n') ∧ va_F (fun q => B ≤ q) st t
def aCallA (mc ms d k : Nat) (av : List Value) (n : Nat) (mu : aM) (ro : aR) (sg : aS) (K : Option Value → Nat → aM → aR → aS → Prop) : Prop :=
  ∀ (l : Launch) (D : va_G) (dA : Nat → ClassId) (B : Nat), Met l (yM k) (Cond.code (yM k) (cM k) (lM k) (rM k) :: tgw) { frames := d, cells := mc, slots := ms, locals := 64 * d } (va_Pc (av.map (cv B)) (aPre D dA B n mu ro sg)) (aQ D dA B (fun r n' mu' ro' sg' => rtOk (rM k) r ∧ K r n' mu' ro' sg')) mc ms (fun q => B ≤ q)
def aCall (d k : Nat) (av : List Value) (n : Nat) (mu : aM) (ro : aR) (sg : aS) (K : Option Value → aS → Prop) : Prop := aCallA 0 0 d k av n mu ro sg (fun r n' mu' ro' sg' => n' = n ∧ mu' = mu ∧ ro' = ro ∧ K r sg')
def swL (K : Nat → Prop) (pc : Nat) (x : Int32) : List Int → Int → Prop
  | [], _ => True
  | off :: os, lo => (x.toInt = lo → jok pc off = true ∧ K (jmp pc off)) ∧ swL K pc x os (lo + 1)
def gtF (K : Value → Prop) (mu : aM) (ro : aR) (sg : aS) (a : Nat) : Option (Nat × Nat × Nat × Bool) → Prop
  | some (ci, k, 1, _) => (mu a).1 = 10 + ci ∧ K (.int (sg a k))
  | some (ci, k, 0, _) => (mu a).1 = 10 + ci ∧ K (va_rf (ro a k))
  | some (ci, k, 2, _) => (mu a).1 = 10 + ci ∧ K (.long (jl (sg a (100 + k)) (sg a (200 + k))))
  | _ => False
def ptF (K : aS → Prop) (mu : aM) (sg : aS) (a : Nat) (x : Int32) : Option (Nat × Nat × Nat × Bool) → Prop
  | some (ci, k, 1, false) => (mu a).1 = 10 + ci ∧ (isBo (tyN ci k) = true → b01 x) ∧ K (s2 sg a k x)
  | _ => False
def ptL (K : aS → Prop) (mu : aM) (sg : aS) (a : Nat) (x : Int64) : Option (Nat × Nat × Nat × Bool) → Prop
  | some (ci, k, 2, false) => (mu a).1 = 10 + ci ∧ K (s2l sg a k x)
  | _ => False
def inS (K : Option Value → List Value → aS → Prop) (d n : Nat) (mu : aM) (ro : aR) (sg : aS) (st : List Value) : Option Nat → Prop
  | some k => match takeA (pM k) [] st with
    | some (av, rest) => sM k = true ∧ cs rest ≤ 8 ∧ 1 ≤ d ∧ aCall (d - 1) k av n mu ro sg (fun r sg' => K r rest sg')
    | none => False
  | none => False
def inV (K : Option Value → List Value → aS → Prop) (d n : Nat) (mu : aM) (ro : aR) (sg : aS) (st : List Value) : Option Nat → Prop
  | some k => match takeA (pM k + 1) [] st with
    | some (.ref b :: av, rest) => sM k = false ∧ (yM k).name ≠ "<init>" ∧ cs rest ≤ 8 ∧ 1 ≤ d ∧ (mu b).1 = 10 + oM k ∧ aCall (d - 1) k (.ref b :: av) n mu ro sg (fun r sg' => K r rest sg')
    | _ => False
  | none => False
def lsq (L : List Value) (i : Nat) (v : Value) (K : List Value → Prop) : Prop := pv L i = true ∧ i < L.length ∧ K (L.set i v)
def lsl (L : List Value) (i : Nat) (x : Int64) (K : List Value → Prop) : Prop := pv L i = true ∧ i + 1 < L.length ∧ K ((L.set i (.long x)).set (i + 1) (.float 0))
def vcI (K : Nat → List Value → List Value → aS → Prop) (Rt : Option Value → aS → Prop) (o d n : Nat) (mu : aM) (ro : aR) (pc : Nat) (L st : List Value) (sg : aS) : Instr → Prop
  | .iconst c => K (pc + 1) L (.int (Int32.ofInt c) :: st) sg
  | .bipush c => K (pc + 2) L (.int (Int8.ofInt c).toInt32 :: st) sg
  | .sipush c => K (pc + 3) L (.int (Int16.ofInt c).toInt32 :: st) sg
  | .lconst c => K (pc + 1) L (.long (Int64.ofNat (c : Nat)) :: st) sg
  | .aconst_null => K (pc + 1) L (.null :: st) sg
  | .ldc i => match kres o i with
    | some v => K (pc + 2) L (.int v :: st) sg
    | none => False
  | .ldc_w i => match kres o i with
    | some v => K (pc + 3) L (.int v :: st) sg
    | none => False
  | .ldc2_w i => match lres o i with
    | some v => K (pc + 3) L (.long v :: st) sg
    | none => False
  | .iload_n i => match lg L (i : Nat) with
    | .int x => K (pc + 1) L (.int x :: st) sg
    | _ => False
  | .iload i => match lg L i with
    | .int x => K (pc + 2) L (.int x :: st) sg
    | _ => False
  | .lload_n i => match lg L (i : Nat) with
    | .long x => K (pc + 1) L (.long x :: st) sg
    | _ => False
  | .lload i => match lg L i with
    | .long x => K (pc + 2) L (.long x :: st) sg
    | _ => False
  | .aload_n i => match lg L (i : Nat) with
    | .ref x => K (pc + 1) L (.ref x :: st) sg
    | .null => K (pc + 1) L (.null :: st) sg
    | _ => False
  | .aload i => match lg L i with
    | .ref x => K (pc + 2) L (.ref x :: st) sg
    | .null => K (pc + 2) L (.null :: st) sg
    | _ => False
  | .istore_n i => match st with
    | .int x :: st => lsq L (i : Nat) (.int x) (fun L => K (pc + 1) L st sg)
    | _ => False
  | .istore i => match st with
    | .int x :: st => lsq L i (.int x) (fun L => K (pc + 2) L st sg)
    | _ => False
  | .lstore_n i => match st with
    | .long x :: st => lsl L (i : Nat) x (fun L => K (pc + 1) L st sg)
    | _ => False
  | .lstore i => match st with
    | .long x :: st => lsl L i x (fun L => K (pc + 2) L st sg)
    | _ => False
  | .astore_n i => match st with
    | .ref x :: st => lsq L (i : Nat) (.ref x) (fun L => K (pc + 1) L st sg)
    | .null :: st => lsq L (i : Nat) .null (fun L => K (pc + 1) L st sg)
    | _ => False
  | .astore i => match st with
    | .ref x :: st => lsq L i (.ref x) (fun L => K (pc + 2) L st sg)
    | .null :: st => lsq L i .null (fun L => K (pc + 2) L st sg)
    | _ => False
  | .iinc i c => match lg L i with
    | .int x => lsq L i (.int (x + Int32.ofInt c)) (fun L => K (pc + 3) L st sg)
    | _ => False
  | .iadd => match st with
    | .int y :: .int x :: st => K (pc + 1) L (.int (x + y) :: st) sg
    | _ => False
  | .isub => match st with
    | .int y :: .int x :: st => K (pc + 1) L (.int (x - y) :: st) sg
    | _ => False
  | .imul => match st with
    | .int y :: .int x :: st => K (pc + 1) L (.int (x * y) :: st) sg
    | _ => False
  | .iand => match st with
    | .int y :: .int x :: st => K (pc + 1) L (.int (x &&& y) :: st) sg
    | _ => False
  | .ior => match st with
    | .int y :: .int x :: st => K (pc + 1) L (.int (x ||| y) :: st) sg
    | _ => False
  | .ixor => match st with
    | .int y :: .int x :: st => K (pc + 1) L (.int (x ^^^ y) :: st) sg
    | _ => False
  | .ishl => match st with
    | .int y :: .int x :: st => K (pc + 1) L (.int (x <<< (y &&& 31)) :: st) sg
    | _ => False
  | .ishr => match st with
    | .int y :: .int x :: st => K (pc + 1) L (.int (x >>> (y &&& 31)) :: st) sg
    | _ => False
  | .iushr => match st with
    | .int y :: .int x :: st => K (pc + 1) L (.int ((x.toUInt32 >>> (y.toUInt32 &&& Int32.toUInt32 31)).toInt32) :: st) sg
    | _ => False
  | .idiv => match st with
    | .int y :: .int x :: st => ¬ y = 0 ∧ K (pc + 1) L (.int (x / y) :: st) sg
    | _ => False
  | .irem => match st with
    | .int y :: .int x :: st => ¬ y = 0 ∧ K (pc + 1) L (.int (x - x / y * y) :: st) sg
    | _ => False
  | .ladd => match st with
    | .long y :: .long x :: st => K (pc + 1) L (.long (x + y) :: st) sg
    | _ => False
  | .lsub => match st with
    | .long y :: .long x :: st => K (pc + 1) L (.long (x - y) :: st) sg
    | _ => False
  | .land => match st with
    | .long y :: .long x :: st => K (pc + 1) L (.long (x &&& y) :: st) sg
    | _ => False
  | .lor => match st with
    | .long y :: .long x :: st => K (pc + 1) L (.long (x ||| y) :: st) sg
    | _ => False
  | .ldiv => match st with
    | .long y :: .long x :: st => ¬ y = 0 ∧ K (pc + 1) L (.long (x / y) :: st) sg
    | _ => False
  | .lrem => match st with
    | .long y :: .long x :: st => ¬ y = 0 ∧ K (pc + 1) L (.long (x - x / y * y) :: st) sg
    | _ => False
  | .lshl => match st with
    | .int y :: .long x :: st => K (pc + 1) L (.long (x <<< (y.toInt64 &&& 63)) :: st) sg
    | _ => False
  | .lshr => match st with
    | .int y :: .long x :: st => K (pc + 1) L (.long (x >>> (y.toInt64 &&& 63)) :: st) sg
    | _ => False
  | .lcmp => match st with
    | .long y :: .long x :: st => K (pc + 1) L (.int (lg_cmp x y) :: st) sg
    | _ => False
  | .i2l => match st with
    | .int x :: st => K (pc + 1) L (.long x.toInt64 :: st) sg
    | _ => False
  | .i2b => match st with
    | .int x :: st => K (pc + 1) L (.int x.toInt8.toInt32 :: st) sg
    | _ => False
  | .i2s => match st with
    | .int x :: st => K (pc + 1) L (.int x.toInt16.toInt32 :: st) sg
    | _ => False
  | .dup => match st with
    | .int x :: st => K (pc + 1) L (.int x :: .int x :: st) sg
    | .ref x :: st => K (pc + 1) L (.ref x :: .ref x :: st) sg
    | _ => False
  | .dup2 => match st with
    | .int x :: .ref y :: st => K (pc + 1) L (.int x :: .ref y :: .int x :: .ref y :: st) sg
    | .int x :: .int y :: st => K (pc + 1) L (.int x :: .int y :: .int x :: .int y :: st) sg
    | _ => False
  | .pop => match st with
    | .int _ :: st => K (pc + 1) L st sg
    | _ => False
  | .goto off => jok pc off = true ∧ K (jmp pc off) L st sg
  | .ifCond .eq off => match st with
    | .int x :: st => jok pc off = true ∧ (x = 0 → K (jmp pc off) L st sg) ∧ (¬ x = 0 → K (pc + 3) L st sg)
    | _ => False
  | .ifCond .ne off => match st with
    | .int x :: st => jok pc off = true ∧ (¬ x = 0 → K (jmp pc off) L st sg) ∧ (x = 0 → K (pc + 3) L st sg)
    | _ => False
  | .ifCond .lt off => match st with
    | .int x :: st => jok pc off = true ∧ (x < 0 → K (jmp pc off) L st sg) ∧ (¬ x < 0 → K (pc + 3) L st sg)
    | _ => False
  | .ifCond .ge off => match st with
    | .int x :: st => jok pc off = true ∧ (0 ≤ x → K (jmp pc off) L st sg) ∧ (¬ 0 ≤ x → K (pc + 3) L st sg)
    | _ => False
  | .ifCond .gt off => match st with
    | .int x :: st => jok pc off = true ∧ (0 < x → K (jmp pc off) L st sg) ∧ (¬ 0 < x → K (pc + 3) L st sg)
    | _ => False
  | .ifCond .le off => match st with
    | .int x :: st => jok pc off = true ∧ (x ≤ 0 → K (jmp pc off) L st sg) ∧ (¬ x ≤ 0 → K (pc + 3) L st sg)
    | _ => False
  | .if_icmp .eq off => match st with
    | .int y :: .int x :: st => jok pc off = true ∧ (x = y → K (jmp pc off) L st sg) ∧ (¬ x = y → K (pc + 3) L st sg)
    | _ => False
  | .if_icmp .ne off => match st with
    | .int y :: .int x :: st => jok pc off = true ∧ (¬ x = y → K (jmp pc off) L st sg) ∧ (x = y → K (pc + 3) L st sg)
    | _ => False
  | .if_icmp .lt off => match st with
    | .int y :: .int x :: st => jok pc off = true ∧ (x < y → K (jmp pc off) L st sg) ∧ (¬ x < y → K (pc + 3) L st sg)
    | _ => False
  | .if_icmp .ge off => match st with
    | .int y :: .int x :: st => jok pc off = true ∧ (y ≤ x → K (jmp pc off) L st sg) ∧ (¬ y ≤ x → K (pc + 3) L st sg)
    | _ => False
  | .if_icmp .gt off => match st with
    | .int y :: .int x :: st => jok pc off = true ∧ (y < x → K (jmp pc off) L st sg) ∧ (¬ y < x → K (pc + 3) L st sg)
    | _ => False
  | .if_icmp .le off => match st with
    | .int y :: .int x :: st => jok pc off = true ∧ (x ≤ y → K (jmp pc off) L st sg) ∧ (¬ x ≤ y → K (pc + 3) L st sg)
    | _ => False
  | .ifnull off => match st with
    | .ref _ :: st => K (pc + 3) L st sg
    | .null :: st => jok pc off = true ∧ K (jmp pc off) L st sg
    | _ => False
  | .ifnonnull off => match st with
    | .ref _ :: st => jok pc off = true ∧ K (jmp pc off) L st sg
    | .null :: st => K (pc + 3) L st sg
    | _ => False
  | .tableswitch dflt lo hi offs => match st with
    | .int x :: st => jok pc dflt = true ∧ offs.size = (hi - lo + 1).toNat ∧ lo ≤ hi ∧ (x.toInt < lo ∨ hi < x.toInt → K (jmp pc dflt) L st sg) ∧ swL (fun t => K t L st sg) pc x offs.toList lo
    | _ => False
  | .getfield i => match st with
    | .ref a :: st => gtF (fun v => K (pc + 3) L (v :: st) sg) mu ro sg a (fres o i)
    | _ => False
  | .putfield i => match st with
    | .int x :: .ref a :: st => ptF (fun sg => K (pc + 3) L st sg) mu sg a x (fres o i)
    | .long x :: .ref a :: st => ptL (fun sg => K (pc + 3) L st sg) mu sg a x (fres o i)
    | _ => False
  | .iaload => match st with
    | .int i :: .ref a :: st => (mu a).1 = 1 ∧ vp_in i (mu a).2 ∧ K (pc + 1) L (.int (sg a i.toNatClampNeg) :: st) sg
    | _ => False
  | .iastore => match st with
    | .int x :: .int i :: .ref a :: st => (mu a).1 = 1 ∧ vp_in i (mu a).2 ∧ K (pc + 1) L st (s2 sg a i.toNatClampNeg x)
    | _ => False
  | .baload => match st with
    | .int i :: .ref a :: st => (mu a).1 = 2 ∧ vp_in i (mu a).2 ∧ K (pc + 1) L (.int (sg a i.toNatClampNeg) :: st) sg
    | _ => False
  | .bastore => match st with
    | .int x :: .int i :: .ref a :: st => (mu a).1 = 2 ∧ vp_in i (mu a).2 ∧ b01 x ∧ K (pc + 1) L st (s2 sg a i.toNatClampNeg x)
    | _ => False
  | .aaload => match st with
    | .int i :: .ref a :: st => 3 ≤ (mu a).1 ∧ (mu a).1 ≤ 5 ∧ vp_in i (mu a).2 ∧ K (pc + 1) L (va_rf (ro a i.toNatClampNeg) :: st) sg
    | _ => False
  | .arraylength => match st with
    | .ref a :: st => (mu a).1 = 1 ∧ K (pc + 1) L (.int (Int32.ofNat (mu a).2) :: st) sg
    | _ => False
  | .invokestatic i => inS (fun r rest sg => K (pc + 3) L (r.toList ++ rest) sg) d n mu ro sg st (cres o i)
  | .invokevirtual i => inV (fun r rest sg => K (pc + 3) L (r.toList ++ rest) sg) d n mu ro sg st (cres o i)
  | .ireturn => match st with
    | [.int x] => Rt (some (.int x)) sg
    | _ => False
  | .lreturn => match st with
    | [.long x] => Rt (some (.long x)) sg
    | _ => False
  | .areturn => match st with
    | [.ref x] => Rt (some (.ref x)) sg
    | [.null] => Rt (some .null) sg
    | _ => False
  | .return_ => match st with
    | [] => Rt none sg
    | _ => False
  | _ => False
