/-! part 09: small rows that evaluate -/
theorem CST1 : ((Int8.ofInt (-100)).toInt32 = (-100) ∧ (Int8.ofInt (-10)).toInt32 = (-10) ∧ (Int8.ofInt (-9)).toInt32 = (-9) ∧ (Int8.ofInt (-4)).toInt32 = (-4) ∧ (Int8.ofInt (-3)).toInt32 = (-3) ∧ (Int8.ofInt (-2)).toInt32 = (-2) ∧ (Int8.ofInt 6).toInt32 = 6 ∧ (Int8.ofInt 7).toInt32 = 7 ∧ (Int8.ofInt 8).toInt32 = 8 ∧ (Int8.ofInt 9).toInt32 = 9 ∧ (Int8.ofInt 10).toInt32 = 10 ∧ (Int8.ofInt 13).toInt32 = 13) ∧ ((Int8.ofInt 14).toInt32 = 14 ∧ (Int8.ofInt 16).toInt32 = 16 ∧ (Int8.ofInt 19).toInt32 = 19 ∧ (Int8.ofInt 20).toInt32 = 20 ∧ (Int8.ofInt 31).toInt32 = 31 ∧ (Int8.ofInt 40).toInt32 = 40 ∧ (Int8.ofInt 44).toInt32 = 44 ∧ (Int8.ofInt 48).toInt32 = 48 ∧ (Int8.ofInt 57).toInt32 = 57 ∧ (Int8.ofInt 59).toInt32 = 59 ∧ (Int8.ofInt 60).toInt32 = 60 ∧ (Int8.ofInt 63).toInt32 = 63) ∧ ((Int8.ofInt 64).toInt32 = 64 ∧ (Int8.ofInt 77).toInt32 = 77 ∧ (Int8.ofInt 78).toInt32 = 78 ∧ (Int8.ofInt 79).toInt32 = 79 ∧ (Int8.ofInt 80).toInt32 = 80 ∧ (Int8.ofInt 83).toInt32 = 83 ∧ (Int8.ofInt 97).toInt32 = 97 ∧ (Int8.ofInt 99).toInt32 = 99 ∧ (Int8.ofInt 100).toInt32 = 100 ∧ (Int8.ofInt 127).toInt32 = 127 ∧ Int32.ofInt (-1) = (-1) ∧ Int32.ofInt 0 = 0) ∧ (Int32.ofInt 1 = 1 ∧ Int32.ofInt 2 = 2 ∧ Int32.ofInt 3 = 3 ∧ Int32.ofInt 4 = 4 ∧ Int32.ofInt 5 = 5 ∧ Int32.ofInt 8 = 8 ∧ (Int16.ofInt 140).toInt32 = 140 ∧ (Int16.ofInt 200).toInt32 = 200 ∧ (Int16.ofInt 240).toInt32 = 240 ∧ (Int16.ofInt 640).toInt32 = 640 ∧ (Int16.ofInt 999).toInt32 = 999 ∧ (Int16.ofInt 1000).toInt32 = 1000) ∧ ((Int16.ofInt 1023).toInt32 = 1023 ∧ (Int16.ofInt 9999).toInt32 = 9999 ∧ (Int16.ofInt 16383).toInt32 = 16383 ∧ (Int16.ofInt 16384).toInt32 = 16384) := ⟨by decide +kernel, by decide +kernel, by decide +kernel, by decide +kernel, by decide +kernel⟩
theorem fv0 : ((0 : Fin 4) : Nat) = 0 := rfl
theorem fv1 : ((1 : Fin 4) : Nat) = 1 := rfl
theorem fv2 : ((2 : Fin 4) : Nat) = 2 := rfl
theorem fv3 : ((3 : Fin 4) : Nat) = 3 := rfl
theorem fw0 : Int64.ofNat ((0 : Fin 2) : Nat) = 0 := rfl
theorem fw1 : Int64.ofNat ((1 : Fin 2) : Nat) = 1 := rfl
theorem lg_0 {a0 : Value} {L : List Value} : lg (a0 :: L) 0 = a0 := rfl
theorem lsq_0 {a0 v : Value} {L : List Value} {K : List Value → Prop} : lsq (a0 :: L) 0 v K = (K (v :: L)) := by simp [lsq, pv, lg]
theorem lsl_0 {a0 a1 : Value} {x : Int64} {L : List Value} {K : List Value → Prop} : lsl (a0 :: a1 :: L) 0 x K = (K (.long x :: .float 0 :: L)) := by simp [lsl, pv, lg]
theorem lg_1 {a0 a1 : Value} {L : List Value} : lg (a0 :: a1 :: L) 1 = a1 := rfl
theorem lsq_1 {a0 a1 v : Value} {L : List Value} {K : List Value → Prop} : lsq (a0 :: a1 :: L) 1 v K = (nl a0 = true ∧ K (a0 :: v :: L)) := by simp [lsq, pv, lg]
theorem lsl_1 {a0 a1 a2 : Value} {x : Int64} {L : List Value} {K : List Value → Prop} : lsl (a0 :: a1 :: a2 :: L) 1 x K = (nl a0 = true ∧ K (a0 :: .long x :: .float 0 :: L)) := by simp [lsl, pv, lg]
theorem lg_2 {a0 a1 a2 : Value} {L : List Value} : lg (a0 :: a1 :: a2 :: L) 2 = a2 := rfl
theorem lsq_2 {a0 a1 a2 v : Value} {L : List Value} {K : List Value → Prop} : lsq (a0 :: a1 :: a2 :: L) 2 v K = (nl a1 = true ∧ K (a0 :: a1 :: v :: L)) := by simp [lsq, pv, lg]
theorem lsl_2 {a0 a1 a2 a3 : Value} {x : Int64} {L : List Value} {K : List Value → Prop} : lsl (a0 :: a1 :: a2 :: a3 :: L) 2 x K = (nl a1 = true ∧ K (a0 :: a1 :: .long x :: .float 0 :: L)) := by simp [lsl, pv, lg]
theorem lg_3 {a0 a1 a2 a3 : Value} {L : List Value} : lg (a0 :: a1 :: a2 :: a3 :: L) 3 = a3 := rfl
theorem lsq_3 {a0 a1 a2 a3 v : Value} {L : List Value} {K : List Value → Prop} : lsq (a0 :: a1 :: a2 :: a3 :: L) 3 v K = (nl a2 = true ∧ K (a0 :: a1 :: a2 :: v :: L)) := by simp [lsq, pv, lg]
theorem lsl_3 {a0 a1 a2 a3 a4 : Value} {x : Int64} {L : List Value} {K : List Value → Prop} : lsl (a0 :: a1 :: a2 :: a3 :: a4 :: L) 3 x K = (nl a2 = true ∧ K (a0 :: a1 :: a2 :: .long x :: .float 0 :: L)) := by simp [lsl, pv, lg]
theorem lg_4 {a0 a1 a2 a3 a4 : Value} {L : List Value} : lg (a0 :: a1 :: a2 :: a3 :: a4 :: L) 4 = a4 := rfl
theorem lsq_4 {a0 a1 a2 a3 a4 v : Value} {L : List Value} {K : List Value → Prop} : lsq (a0 :: a1 :: a2 :: a3 :: a4 :: L) 4 v K = (nl a3 = true ∧ K (a0 :: a1 :: a2 :: a3 :: v :: L)) := by simp [lsq, pv, lg]
theorem lsl_4 {a0 a1 a2 a3 a4 a5 : Value} {x : Int64} {L : List Value} {K : List Value → Prop} : lsl (a0 :: a1 :: a2 :: a3 :: a4 :: a5 :: L) 4 x K = (nl a3 = true ∧ K (a0 :: a1 :: a2 :: a3 :: .long x :: .float 0 :: L)) := by simp [lsl, pv, lg]
theorem lg_5 {a0 a1 a2 a3 a4 a5 : Value} {L : List Value} : lg (a0 :: a1 :: a2 :: a3 :: a4 :: a5 :: L) 5 = a5 := rfl
theorem lsq_5 {a0 a1 a2 a3 a4 a5 v : Value} {L : List Value} {K : List Value → Prop} : lsq (a0 :: a1 :: a2 :: a3 :: a4 :: a5 :: L) 5 v K = (nl a4 = true ∧ K (a0 :: a1 :: a2 :: a3 :: a4 :: v :: L)) := by simp [lsq, pv, lg]
theorem lsl_5 {a0 a1 a2 a3 a4 a5 a6 : Value} {x : Int64} {L : List Value} {K : List Value → Prop} : lsl (a0 :: a1 :: a2 :: a3 :: a4 :: a5 :: a6 :: L) 5 x K = (nl a4 = true ∧ K (a0 :: a1 :: a2 :: a3 :: a4 :: .long x :: .float 0 :: L)) := by simp [lsl, pv, lg]
theorem lg_6 {a0 a1 a2 a3 a4 a5 a6 : Value} {L : List Value} : lg (a0 :: a1 :: a2 :: a3 :: a4 :: a5 :: a6 :: L) 6 = a6 := rfl
theorem lsq_6 {a0 a1 a2 a3 a4 a5 a6 v : Value} {L : List Value} {K : List Value → Prop} : lsq (a0 :: a1 :: a2 :: a3 :: a4 :: a5 :: a6 :: L) 6 v K = (nl a5 = true ∧ K (a0 :: a1 :: a2 :: a3 :: a4 :: a5 :: v :: L)) := by simp [lsq, pv, lg]
theorem lsl_6 {a0 a1 a2 a3 a4 a5 a6 a7 : Value} {x : Int64} {L : List Value} {K : List Value → Prop} : lsl (a0 :: a1 :: a2 :: a3 :: a4 :: a5 :: a6 :: a7 :: L) 6 x K = (nl a5 = true ∧ K (a0 :: a1 :: a2 :: a3 :: a4 :: a5 :: .long x :: .float 0 :: L)) := by simp [lsl, pv, lg]
theorem lg_7 {a0 a1 a2 a3 a4 a5 a6 a7 : Value} {L : List Value} : lg (a0 :: a1 :: a2 :: a3 :: a4 :: a5 :: a6 :: a7 :: L) 7 = a7 := rfl
theorem lsq_7 {a0 a1 a2 a3 a4 a5 a6 a7 v : Value} {L : List Value} {K : List Value → Prop} : lsq (a0 :: a1 :: a2 :: a3 :: a4 :: a5 :: a6 :: a7 :: L) 7 v K = (nl a6 = true ∧ K (a0 :: a1 :: a2 :: a3 :: a4 :: a5 :: a6 :: v :: L)) := by simp [lsq, pv, lg]
theorem lsl_7 {a0 a1 a2 a3 a4 a5 a6 a7 a8 : Value} {x : Int64} {L : List Value} {K : List Value → Prop} : lsl (a0 :: a1 :: a2 :: a3 :: a4 :: a5 :: a6 :: a7 :: a8 :: L) 7 x K = (nl a6 = true ∧ K (a0 :: a1 :: a2 :: a3 :: a4 :: a5 :: a6 :: .long x :: .float 0 :: L)) := by simp [lsl, pv, lg]
theorem lg_8 {a0 a1 a2 a3 a4 a5 a6 a7 a8 : Value} {L : List Value} : lg (a0 :: a1 :: a2 :: a3 :: a4 :: a5 :: a6 :: a7 :: a8 :: L) 8 = a8 := rfl
theorem lsq_8 {a0 a1 a2 a3 a4 a5 a6 a7 a8 v : Value} {L : List Value} {K : List Value → Prop} : lsq (a0 :: a1 :: a2 :: a3 :: a4 :: a5 :: a6 :: a7 :: a8 :: L) 8 v K = (nl a7 = true ∧ K (a0 :: a1 :: a2 :: a3 :: a4 :: a5 :: a6 :: a7 :: v :: L)) := by simp [lsq, pv, lg]
theorem lsl_8 {a0 a1 a2 a3 a4 a5 a6 a7 a8 a9 : Value} {x : Int64} {L : List Value} {K : List Value → Prop} : lsl (a0 :: a1 :: a2 :: a3 :: a4 :: a5 :: a6 :: a7 :: a8 :: a9 :: L) 8 x K = (nl a7 = true ∧ K (a0 :: a1 :: a2 :: a3 :: a4 :: a5 :: a6 :: a7 :: .long x :: .float 0 :: L)) := by simp [lsl, pv, lg]
theorem lg_9 {a0 a1 a2 a3 a4 a5 a6 a7 a8 a9 : Value} {L : List Value} : lg (a0 :: a1 :: a2 :: a3 :: a4 :: a5 :: a6 :: a7 :: a8 :: a9 :: L) 9 = a9 := rfl
theorem lsq_9 {a0 a1 a2 a3 a4 a5 a6 a7 a8 a9 v : Value} {L : List Value} {K : List Value → Prop} : lsq (a0 :: a1 :: a2 :: a3 :: a4 :: a5 :: a6 :: a7 :: a8 :: a9 :: L) 9 v K = (nl a8 = true ∧ K (a0 :: a1 :: a2 :: a3 :: a4 :: a5 :: a6 :: a7 :: a8 :: v :: L)) := by simp [lsq, pv, lg]
theorem lsl_9 {a0 a1 a2 a3 a4 a5 a6 a7 a8 a9 a10 : Value} {x : Int64} {L : List Value} {K : List Value → Prop} : lsl (a0 :: a1 :: a2 :: a3 :: a4 :: a5 :: a6 :: a7 :: a8 :: a9 :: a10 :: L) 9 x K = (nl a8 = true ∧ K (a0 :: a1 :: a2 :: a3 :: a4 :: a5 :: a6 :: a7 :: a8 :: .long x :: .float 0 :: L)) := by simp [lsl, pv, lg]
theorem lg_10 {a0 a1 a2 a3 a4 a5 a6 a7 a8 a9 a10 : Value} {L : List Value} : lg (a0 :: a1 :: a2 :: a3 :: a4 :: a5 :: a6 :: a7 :: a8 :: a9 :: a10 :: L) 10 = a10 := rfl
theorem lsq_10 {a0 a1 a2 a3 a4 a5 a6 a7 a8 a9 a10 v : Value} {L : List Value} {K : List Value → Prop} : lsq (a0 :: a1 :: a2 :: a3 :: a4 :: a5 :: a6 :: a7 :: a8 :: a9 :: a10 :: L) 10 v K = (nl a9 = true ∧ K (a0 :: a1 :: a2 :: a3 :: a4 :: a5 :: a6 :: a7 :: a8 :: a9 :: v :: L)) := by simp [lsq, pv, lg]
theorem lsl_10 {a0 a1 a2 a3 a4 a5 a6 a7 a8 a9 a10 a11 : Value} {x : Int64} {L : List Value} {K : List Value → Prop} : lsl (a0 :: a1 :: a2 :: a3 :: a4 :: a5 :: a6 :: a7 :: a8 :: a9 :: a10 :: a11 :: L) 10 x K = (nl a9 = true ∧ K (a0 :: a1 :: a2 :: a3 :: a4 :: a5 :: a6 :: a7 :: a8 :: a9 :: .long x :: .float 0 :: L)) := by simp [lsl, pv, lg]
theorem lg_11 {a0 a1 a2 a3 a4 a5 a6 a7 a8 a9 a10 a11 : Value} {L : List Value} : lg (a0 :: a1 :: a2 :: a3 :: a4 :: a5 :: a6 :: a7 :: a8 :: a9 :: a10 :: a11 :: L) 11 = a11 := rfl
theorem lsq_11 {a0 a1 a2 a3 a4 a5 a6 a7 a8 a9 a10 a11 v : Value} {L : List Value} {K : List Value → Prop} : lsq (a0 :: a1 :: a2 :: a3 :: a4 :: a5 :: a6 :: a7 :: a8 :: a9 :: a10 :: a11 :: L) 11 v K = (nl a10 = true ∧ K (a0 :: a1 :: a2 :: a3 :: a4 :: a5 :: a6 :: a7 :: a8 :: a9 :: a10 :: v :: L)) := by simp [lsq, pv, lg]
theorem lsl_11 {a0 a1 a2 a3 a4 a5 a6 a7 a8 a9 a10 a11 a12 : Value} {x : Int64} {L : List Value} {K : List Value → Prop} : lsl (a0 :: a1 :: a2 :: a3 :: a4 :: a5 :: a6 :: a7 :: a8 :: a9 :: a10 :: a11 :: a12 :: L) 11 x K = (nl a10 = true ∧ K (a0 :: a1 :: a2 :: a3 :: a4 :: a5 :: a6 :: a7 :: a8 :: a9 :: a10 :: .long x :: .float 0 :: L)) := by simp [lsl, pv, lg]
theorem lg_12 {a0 a1 a2 a3 a4 a5 a6 a7 a8 a9 a10 a11 a12 : Value} {L : List Value} : lg (a0 :: a1 :: a2 :: a3 :: a4 :: a5 :: a6 :: a7 :: a8 :: a9 :: a10 :: a11 :: a12 :: L) 12 = a12 := rfl
theorem lsq_12 {a0 a1 a2 a3 a4 a5 a6 a7 a8 a9 a10 a11 a12 v : Value} {L : List Value} {K : List Value → Prop} : lsq (a0 :: a1 :: a2 :: a3 :: a4 :: a5 :: a6 :: a7 :: a8 :: a9 :: a10 :: a11 :: a12 :: L) 12 v K = (nl a11 = true ∧ K (a0 :: a1 :: a2 :: a3 :: a4 :: a5 :: a6 :: a7 :: a8 :: a9 :: a10 :: a11 :: v :: L)) := by simp [lsq, pv, lg]
theorem lsl_12 {a0 a1 a2 a3 a4 a5 a6 a7 a8 a9 a10 a11 a12 a13 : Value} {x : Int64} {L : List Value} {K : List Value → Prop} : lsl (a0 :: a1 :: a2 :: a3 :: a4 :: a5 :: a6 :: a7 :: a8 :: a9 :: a10 :: a11 :: a12 :: a13 :: L) 12 x K = (nl a11 = true ∧ K (a0 :: a1 :: a2 :: a3 :: a4 :: a5 :: a6 :: a7 :: a8 :: a9 :: a10 :: a11 :: .long x :: .float 0 :: L)) := by simp [lsl, pv, lg]
theorem lg_13 {a0 a1 a2 a3 a4 a5 a6 a7 a8 a9 a10 a11 a12 a13 : Value} {L : List Value} : lg (a0 :: a1 :: a2 :: a3 :: a4 :: a5 :: a6 :: a7 :: a8 :: a9 :: a10 :: a11 :: a12 :: a13 :: L) 13 = a13 := rfl
theorem lsq_13 {a0 a1 a2 a3 a4 a5 a6 a7 a8 a9 a10 a11 a12 a13 v : Value} {L : List Value} {K : List Value → Prop} : lsq (a0 :: a1 :: a2 :: a3 :: a4 :: a5 :: a6 :: a7 :: a8 :: a9 :: a10 :: a11 :: a12 :: a13 :: L) 13 v K = (nl a12 = true ∧ K (a0 :: a1 :: a2 :: a3 :: a4 :: a5 :: a6 :: a7 :: a8 :: a9 :: a10 :: a11 :: a12 :: v :: L)) := by simp [lsq, pv, lg]
theorem lsl_13 {a0 a1 a2 a3 a4 a5 a6 a7 a8 a9 a10 a11 a12 a13 a14 : Value} {x : Int64} {L : List Value} {K : List Value → Prop} : lsl (a0 :: a1 :: a2 :: a3 :: a4 :: a5 :: a6 :: a7 :: a8 :: a9 :: a10 :: a11 :: a12 :: a13 :: a14 :: L) 13 x K = (nl a12 = true ∧ K (a0 :: a1 :: a2 :: a3 :: a4 :: a5 :: a6 :: a7 :: a8 :: a9 :: a10 :: a11 :: a12 :: .long x :: .float 0 :: L)) := by simp [lsl, pv, lg]
theorem lg_14 {a0 a1 a2 a3 a4 a5 a6 a7 a8 a9 a10 a11 a12 a13 a14 : Value} {L : List Value} : lg (a0 :: a1 :: a2 :: a3 :: a4 :: a5 :: a6 :: a7 :: a8 :: a9 :: a10 :: a11 :: a12 :: a13 :: a14 :: L) 14 = a14 := rfl
theorem lsq_14 {a0 a1 a2 a3 a4 a5 a6 a7 a8 a9 a10 a11 a12 a13 a14 v : Value} {L : List Value} {K : List Value → Prop} : lsq (a0 :: a1 :: a2 :: a3 :: a4 :: a5 :: a6 :: a7 :: a8 :: a9 :: a10 :: a11 :: a12 :: a13 :: a14 :: L) 14 v K = (nl a13 = true ∧ K (a0 :: a1 :: a2 :: a3 :: a4 :: a5 :: a6 :: a7 :: a8 :: a9 :: a10 :: a11 :: a12 :: a13 :: v :: L)) := by simp [lsq, pv, lg]
theorem lsl_14 {a0 a1 a2 a3 a4 a5 a6 a7 a8 a9 a10 a11 a12 a13 a14 a15 : Value} {x : Int64} {L : List Value} {K : List Value → Prop} : lsl (a0 :: a1 :: a2 :: a3 :: a4 :: a5 :: a6 :: a7 :: a8 :: a9 :: a10 :: a11 :: a12 :: a13 :: a14 :: a15 :: L) 14 x K = (nl a13 = true ∧ K (a0 :: a1 :: a2 :: a3 :: a4 :: a5 :: a6 :: a7 :: a8 :: a9 :: a10 :: a11 :: a12 :: a13 :: .long x :: .float 0 :: L)) := by simp [lsl, pv, lg]
theorem rp_0 {v : Value} : List.replicate 0 v = [] := rfl
theorem rp_1 {v : Value} : List.replicate 1 v = [v] := rfl
theorem rp_2 {v : Value} : List.replicate 2 v = [v, v] := rfl
theorem rp_3 {v : Value} : List.replicate 3 v = [v, v, v] := rfl
theorem rp_4 {v : Value} : List.replicate 4 v = [v, v, v, v] := rfl
theorem rp_5 {v : Value} : List.replicate 5 v = [v, v, v, v, v] := rfl
theorem rp_6 {v : Value} : List.replicate 6 v = [v, v, v, v, v, v] := rfl
theorem rp_7 {v : Value} : List.replicate 7 v = [v, v, v, v, v, v, v] := rfl
theorem rp_8 {v : Value} : List.replicate 8 v = [v, v, v, v, v, v, v, v] := rfl
theorem rp_9 {v : Value} : List.replicate 9 v = [v, v, v, v, v, v, v, v, v] := rfl
theorem rp_10 {v : Value} : List.replicate 10 v = [v, v, v, v, v, v, v, v, v, v] := rfl
theorem rp_11 {v : Value} : List.replicate 11 v = [v, v, v, v, v, v, v, v, v, v, v] := rfl
theorem tk_0 {st : List Value} : takeA 0 [] (st) = some ([], st) := rfl
theorem tk_1 {a0 : Value} {st : List Value} : takeA 1 [] (a0 :: st) = some ([a0], st) := rfl
theorem tk_2 {a0 a1 : Value} {st : List Value} : takeA 2 [] (a1 :: a0 :: st) = some ([a0, a1], st) := rfl
theorem tk_3 {a0 a1 a2 : Value} {st : List Value} : takeA 3 [] (a2 :: a1 :: a0 :: st) = some ([a0, a1, a2], st) := rfl
theorem tk_4 {a0 a1 a2 a3 : Value} {st : List Value} : takeA 4 [] (a3 :: a2 :: a1 :: a0 :: st) = some ([a0, a1, a2, a3], st) := rfl
theorem tk_5 {a0 a1 a2 a3 a4 : Value} {st : List Value} : takeA 5 [] (a4 :: a3 :: a2 :: a1 :: a0 :: st) = some ([a0, a1, a2, a3, a4], st) := rfl
theorem tk_6 {a0 a1 a2 a3 a4 a5 : Value} {st : List Value} : takeA 6 [] (a5 :: a4 :: a3 :: a2 :: a1 :: a0 :: st) = some ([a0, a1, a2, a3, a4, a5], st) := rfl
theorem tk_7 {a0 a1 a2 a3 a4 a5 a6 : Value} {st : List Value} : takeA 7 [] (a6 :: a5 :: a4 :: a3 :: a2 :: a1 :: a0 :: st) = some ([a0, a1, a2, a3, a4, a5, a6], st) := rfl
theorem tk_8 {a0 a1 a2 a3 a4 a5 a6 a7 : Value} {st : List Value} : takeA 8 [] (a7 :: a6 :: a5 :: a4 :: a3 :: a2 :: a1 :: a0 :: st) = some ([a0, a1, a2, a3, a4, a5, a6, a7], st) := rfl
theorem LIT1 : ((-100 : Int32).toInt = -100 ∧ (-10 : Int32).toInt = -10 ∧ (-9 : Int32).toInt = -9 ∧ (-8 : Int32).toInt = -8 ∧ (-7 : Int32).toInt = -7 ∧ (-6 : Int32).toInt = -6 ∧ (-5 : Int32).toInt = -5 ∧ (-4 : Int32).toInt = -4 ∧ (-3 : Int32).toInt = -3 ∧ (-2 : Int32).toInt = -2) ∧ ((-1 : Int32).toInt = -1 ∧ (0 : Int32).toInt = 0 ∧ (1 : Int32).toInt = 1 ∧ (2 : Int32).toInt = 2 ∧ (3 : Int32).toInt = 3 ∧ (4 : Int32).toInt = 4 ∧ (5 : Int32).toInt = 5 ∧ (6 : Int32).toInt = 6 ∧ (7 : Int32).toInt = 7 ∧ (8 : Int32).toInt = 8) ∧ ((9 : Int32).toInt = 9 ∧ (10 : Int32).toInt = 10 ∧ (13 : Int32).toInt = 13 ∧ (14 : Int32).toInt = 14 ∧ (16 : Int32).toInt = 16 ∧ (19 : Int32).toInt = 19 ∧ (20 : Int32).toInt = 20 ∧ (31 : Int32).toInt = 31 ∧ (40 : Int32).toInt = 40 ∧ (44 : Int32).toInt = 44) ∧ ((48 : Int32).toInt = 48 ∧ (57 : Int32).toInt = 57 ∧ (59 : Int32).toInt = 59 ∧ (60 : Int32).toInt = 60 ∧ (63 : Int32).toInt = 63 ∧ (64 : Int32).toInt = 64 ∧ (77 : Int32).toInt = 77 ∧ (78 : Int32).toInt = 78 ∧ (79 : Int32).toInt = 79 ∧ (80 : Int32).toInt = 80) ∧ ((83 : Int32).toInt = 83 ∧ (97 : Int32).toInt = 97 ∧ (99 : Int32).toInt = 99 ∧ (100 : Int32).toInt = 100 ∧ (127 : Int32).toInt = 127 ∧ (140 : Int32).toInt = 140 ∧ (200 : Int32).toInt = 200 ∧ (240 : Int32).toInt = 240 ∧ (639 : Int32).toInt = 639 ∧ (640 : Int32).toInt = 640) ∧ ((999 : Int32).toInt = 999 ∧ (1000 : Int32).toInt = 1000 ∧ (1023 : Int32).toInt = 1023 ∧ (9999 : Int32).toInt = 9999 ∧ (16383 : Int32).toInt = 16383 ∧ (16384 : Int32).toInt = 16384) := ⟨by decide +kernel, by decide +kernel, by decide +kernel, by decide +kernel, by decide +kernel, by decide +kernel⟩
theorem LIT2 : ((-100 : Int64).toInt = -100 ∧ (-10 : Int64).toInt = -10 ∧ (-9 : Int64).toInt = -9 ∧ (-8 : Int64).toInt = -8 ∧ (-7 : Int64).toInt = -7 ∧ (-6 : Int64).toInt = -6 ∧ (-5 : Int64).toInt = -5 ∧ (-4 : Int64).toInt = -4 ∧ (-3 : Int64).toInt = -3 ∧ (-2 : Int64).toInt = -2) ∧ ((-1 : Int64).toInt = -1 ∧ (0 : Int64).toInt = 0 ∧ (1 : Int64).toInt = 1 ∧ (2 : Int64).toInt = 2 ∧ (3 : Int64).toInt = 3 ∧ (4 : Int64).toInt = 4 ∧ (5 : Int64).toInt = 5 ∧ (6 : Int64).toInt = 6 ∧ (7 : Int64).toInt = 7 ∧ (8 : Int64).toInt = 8) ∧ ((9 : Int64).toInt = 9 ∧ (10 : Int64).toInt = 10 ∧ (13 : Int64).toInt = 13 ∧ (14 : Int64).toInt = 14 ∧ (16 : Int64).toInt = 16 ∧ (19 : Int64).toInt = 19 ∧ (20 : Int64).toInt = 20 ∧ (31 : Int64).toInt = 31 ∧ (40 : Int64).toInt = 40 ∧ (44 : Int64).toInt = 44) ∧ ((48 : Int64).toInt = 48 ∧ (57 : Int64).toInt = 57 ∧ (59 : Int64).toInt = 59 ∧ (60 : Int64).toInt = 60 ∧ (63 : Int64).toInt = 63 ∧ (64 : Int64).toInt = 64 ∧ (77 : Int64).toInt = 77 ∧ (78 : Int64).toInt = 78 ∧ (79 : Int64).toInt = 79 ∧ (80 : Int64).toInt = 80) ∧ ((83 : Int64).toInt = 83 ∧ (97 : Int64).toInt = 97 ∧ (99 : Int64).toInt = 99 ∧ (100 : Int64).toInt = 100 ∧ (127 : Int64).toInt = 127 ∧ (140 : Int64).toInt = 140 ∧ (200 : Int64).toInt = 200 ∧ (240 : Int64).toInt = 240 ∧ (639 : Int64).toInt = 639 ∧ (640 : Int64).toInt = 640) ∧ ((999 : Int64).toInt = 999 ∧ (1000 : Int64).toInt = 1000 ∧ (1023 : Int64).toInt = 1023 ∧ (9999 : Int64).toInt = 9999 ∧ (16383 : Int64).toInt = 16383 ∧ (16384 : Int64).toInt = 16384) := ⟨by decide +kernel, by decide +kernel, by decide +kernel, by decide +kernel, by decide +kernel, by decide +kernel⟩
theorem i_le {a b : Int32} : a ≤ b ↔ a.toInt ≤ b.toInt := Int32.le_iff_toInt_le
theorem i_lt {a b : Int32} : a < b ↔ a.toInt < b.toInt := Int32.lt_iff_toInt_lt
theorem i_eq {a b : Int32} : a = b ↔ a.toInt = b.toInt := Int32.toInt_inj.symm
theorem i_ne {a b : Int32} : a ≠ b ↔ a.toInt ≠ b.toInt := by rw [Ne, i_eq]
theorem l_le {a b : Int64} : a ≤ b ↔ a.toInt ≤ b.toInt := Int64.le_iff_toInt_le
theorem l_lt {a b : Int64} : a < b ↔ a.toInt < b.toInt := Int64.lt_iff_toInt_lt
theorem l_eq {a b : Int64} : a = b ↔ a.toInt = b.toInt := Int64.toInt_inj.symm
theorem l_ne {a b : Int64} : a ≠ b ↔ a.toInt ≠ b.toInt := by rw [Ne, l_eq]
theorem toL {a : Int32} : a.toInt64.toInt = a.toInt := Int32.toInt_toInt64 a
theorem cs_n : cs [] = 0 := rfl
theorem cs_i {x : Int32} {l : List Value} : cs (.int x :: l) = 1 + cs l := rfl
theorem cs_l {x : Int64} {l : List Value} : cs (.long x :: l) = 2 + cs l := rfl
theorem cs_r {x : Nat} {l : List Value} : cs (.ref x :: l) = 1 + cs l := rfl
theorem cs_u {l : List Value} : cs (.null :: l) = 1 + cs l := rfl
theorem rt_s {v : Value} {l : List Value} : (some v).toList ++ l = v :: l := rfl
theorem rt_n {l : List Value} : (none : Option Value).toList ++ l = l := rfl
theorem if1_0 {p : Prop} [Decidable p] : ((if p then (1 : Int32) else 0) = 0) = ¬ p := by by_cases h : p <;> simp [h]
theorem if1_1 {p : Prop} [Decidable p] : ((if p then (1 : Int32) else 0) = 1) = p := by by_cases h : p <;> simp [h]
theorem if1_01 {p : Prop} [Decidable p] : b01 (if p then (1 : Int32) else 0) = True := by by_cases h : p <;> simp [h, b01]
theorem one_01 : b01 1 = True := by simp [b01]
theorem zer_01 : b01 0 = True := by simp [b01]
theorem i_rng (x : Int32) : -2147483648 ≤ x.toInt ∧ x.toInt ≤ 2147483647 := ⟨Int32.minValue_le_toInt x, Int32.toInt_le x⟩
theorem l_add {a b : Int32} : (a.toInt64 + b.toInt64).toInt = a.toInt + b.toInt := by
  have := i_rng a
  have := i_rng b
  rw [Int64.toInt_add, toL, toL]
  simp only [Int64.size, Int.bmod_def]
  omega
theorem i_sub {a b : Int32} (h1 : -2147483648 ≤ a.toInt - b.toInt) (h2 : a.toInt - b.toInt ≤ 2147483647) : (a - b).toInt = a.toInt - b.toInt := by
  rw [Int32.toInt_sub]
  simp only [Int32.size, Int.bmod_def]
  omega
theorem i_add {a b : Int32} (h1 : -2147483648 ≤ a.toInt + b.toInt) (h2 : a.toInt + b.toInt ≤ 2147483647) : (a + b).toInt = a.toInt + b.toInt := by
  rw [Int32.toInt_add]
  simp only [Int32.size, Int.bmod_def]
  omega
theorem i_mul {a b : Int32} (h1 : -2147483648 ≤ a.toInt * b.toInt) (h2 : a.toInt * b.toInt ≤ 2147483647) : (a * b).toInt = a.toInt * b.toInt := by
  rw [Int32.toInt_mul]
  simp only [Int32.size, Int.bmod_def]
  omega
theorem l_sub1 {a : Int32} : (a.toInt64 - 1).toInt = a.toInt - 1 := by
  have := i_rng a
  rw [Int64.toInt_sub, toL]
  simp only [Int64.size, Int.bmod_def, show (1 : Int64).toInt = 1 from rfl]
  omega
theorem i_cl {x : Int32} (h : 0 ≤ x.toInt) : (x.toNatClampNeg : Int) = x.toInt := by
  show ((x.toInt.toNat : Nat) : Int) = x.toInt
  omega
theorem ix_4 {k m : Int32} (h1 : 0 ≤ k.toInt ∧ k.toInt ≤ 200) (h2 : 0 ≤ m.toInt ∧ m.toInt ≤ 1000) : (4 * k + m).toInt = 4 * k.toInt + m.toInt ∧ (4 * k + m).toNatClampNeg = 4 * k.toNatClampNeg + m.toNatClampNeg ∧ k * 4 + m = 4 * k + m := by
  have e0 : (4 : Int32).toInt = 4 := by decide
  have e1 : (4 * k).toInt = 4 * k.toInt := by rw [i_mul (by rw [e0]; omega) (by rw [e0]; omega), e0]
  have e2 : (4 * k + m).toInt = 4 * k.toInt + m.toInt := by rw [i_add (by rw [e1]; omega) (by rw [e1]; omega), e1]
  refine ⟨e2, ?_, by rw [Int32.mul_comm]⟩
  have q1 := i_cl (x := 4 * k + m) (by omega)
  have q2 := i_cl h1.1
  have q3 := i_cl h2.1
  omega
theorem ix_5 {k m : Int32} (h1 : 0 ≤ k.toInt ∧ k.toInt ≤ 200) (h2 : 0 ≤ m.toInt ∧ m.toInt ≤ 1000) : (5 * k + m).toInt = 5 * k.toInt + m.toInt ∧ (5 * k + m).toNatClampNeg = 5 * k.toNatClampNeg + m.toNatClampNeg ∧ k * 5 + m = 5 * k + m := by
  have e0 : (5 : Int32).toInt = 5 := by decide
  have e1 : (5 * k).toInt = 5 * k.toInt := by rw [i_mul (by rw [e0]; omega) (by rw [e0]; omega), e0]
  have e2 : (5 * k + m).toInt = 5 * k.toInt + m.toInt := by rw [i_add (by rw [e1]; omega) (by rw [e1]; omega), e1]
  refine ⟨e2, ?_, by rw [Int32.mul_comm]⟩
  have q1 := i_cl (x := 5 * k + m) (by omega)
  have q2 := i_cl h1.1
  have q3 := i_cl h2.1
  omega
theorem ix_6 {k m : Int32} (h1 : 0 ≤ k.toInt ∧ k.toInt ≤ 200) (h2 : 0 ≤ m.toInt ∧ m.toInt ≤ 1000) : (6 * k + m).toInt = 6 * k.toInt + m.toInt ∧ (6 * k + m).toNatClampNeg = 6 * k.toNatClampNeg + m.toNatClampNeg ∧ k * 6 + m = 6 * k + m := by
  have e0 : (6 : Int32).toInt = 6 := by decide
  have e1 : (6 * k).toInt = 6 * k.toInt := by rw [i_mul (by rw [e0]; omega) (by rw [e0]; omega), e0]
  have e2 : (6 * k + m).toInt = 6 * k.toInt + m.toInt := by rw [i_add (by rw [e1]; omega) (by rw [e1]; omega), e1]
  refine ⟨e2, ?_, by rw [Int32.mul_comm]⟩
  have q1 := i_cl (x := 6 * k + m) (by omega)
  have q2 := i_cl h1.1
  have q3 := i_cl h2.1
  omega
theorem ix_10 {k m : Int32} (h1 : 0 ≤ k.toInt ∧ k.toInt ≤ 200) (h2 : 0 ≤ m.toInt ∧ m.toInt ≤ 1000) : (10 * k + m).toInt = 10 * k.toInt + m.toInt ∧ (10 * k + m).toNatClampNeg = 10 * k.toNatClampNeg + m.toNatClampNeg ∧ k * 10 + m = 10 * k + m := by
  have e0 : (10 : Int32).toInt = 10 := by decide
  have e1 : (10 * k).toInt = 10 * k.toInt := by rw [i_mul (by rw [e0]; omega) (by rw [e0]; omega), e0]
  have e2 : (10 * k + m).toInt = 10 * k.toInt + m.toInt := by rw [i_add (by rw [e1]; omega) (by rw [e1]; omega), e1]
  refine ⟨e2, ?_, by rw [Int32.mul_comm]⟩
  have q1 := i_cl (x := 10 * k + m) (by omega)
  have q2 := i_cl h1.1
  have q3 := i_cl h2.1
  omega
theorem ix_14 {k m : Int32} (h1 : 0 ≤ k.toInt ∧ k.toInt ≤ 200) (h2 : 0 ≤ m.toInt ∧ m.toInt ≤ 1000) : (14 * k + m).toInt = 14 * k.toInt + m.toInt ∧ (14 * k + m).toNatClampNeg = 14 * k.toNatClampNeg + m.toNatClampNeg ∧ k * 14 + m = 14 * k + m := by
  have e0 : (14 : Int32).toInt = 14 := by decide
  have e1 : (14 * k).toInt = 14 * k.toInt := by rw [i_mul (by rw [e0]; omega) (by rw [e0]; omega), e0]
  have e2 : (14 * k + m).toInt = 14 * k.toInt + m.toInt := by rw [i_add (by rw [e1]; omega) (by rw [e1]; omega), e1]
  refine ⟨e2, ?_, by rw [Int32.mul_comm]⟩
  have q1 := i_cl (x := 14 * k + m) (by omega)
  have q2 := i_cl h1.1
  have q3 := i_cl h2.1
  omega
theorem ix_16 {k m : Int32} (h1 : 0 ≤ k.toInt ∧ k.toInt ≤ 200) (h2 : 0 ≤ m.toInt ∧ m.toInt ≤ 1000) : (16 * k + m).toInt = 16 * k.toInt + m.toInt ∧ (16 * k + m).toNatClampNeg = 16 * k.toNatClampNeg + m.toNatClampNeg ∧ k * 16 + m = 16 * k + m := by
  have e0 : (16 : Int32).toInt = 16 := by decide
  have e1 : (16 * k).toInt = 16 * k.toInt := by rw [i_mul (by rw [e0]; omega) (by rw [e0]; omega), e0]
  have e2 : (16 * k + m).toInt = 16 * k.toInt + m.toInt := by rw [i_add (by rw [e1]; omega) (by rw [e1]; omega), e1]
  refine ⟨e2, ?_, by rw [Int32.mul_comm]⟩
  have q1 := i_cl (x := 16 * k + m) (by omega)
  have q2 := i_cl h1.1
  have q3 := i_cl h2.1
  omega
theorem ix_60 {k m : Int32} (h1 : 0 ≤ k.toInt ∧ k.toInt ≤ 200) (h2 : 0 ≤ m.toInt ∧ m.toInt ≤ 1000) : (60 * k + m).toInt = 60 * k.toInt + m.toInt ∧ (60 * k + m).toNatClampNeg = 60 * k.toNatClampNeg + m.toNatClampNeg ∧ k * 60 + m = 60 * k + m := by
  have e0 : (60 : Int32).toInt = 60 := by decide
  have e1 : (60 * k).toInt = 60 * k.toInt := by rw [i_mul (by rw [e0]; omega) (by rw [e0]; omega), e0]
  have e2 : (60 * k + m).toInt = 60 * k.toInt + m.toInt := by rw [i_add (by rw [e1]; omega) (by rw [e1]; omega), e1]
  refine ⟨e2, ?_, by rw [Int32.mul_comm]⟩
  have q1 := i_cl (x := 60 * k + m) (by omega)
  have q2 := i_cl h1.1
  have q3 := i_cl h2.1
  omega
theorem ix_80 {k m : Int32} (h1 : 0 ≤ k.toInt ∧ k.toInt ≤ 200) (h2 : 0 ≤ m.toInt ∧ m.toInt ≤ 1000) : (80 * k + m).toInt = 80 * k.toInt + m.toInt ∧ (80 * k + m).toNatClampNeg = 80 * k.toNatClampNeg + m.toNatClampNeg ∧ k * 80 + m = 80 * k + m := by
  have e0 : (80 : Int32).toInt = 80 := by decide
  have e1 : (80 * k).toInt = 80 * k.toInt := by rw [i_mul (by rw [e0]; omega) (by rw [e0]; omega), e0]
  have e2 : (80 * k + m).toInt = 80 * k.toInt + m.toInt := by rw [i_add (by rw [e1]; omega) (by rw [e1]; omega), e1]
  refine ⟨e2, ?_, by rw [Int32.mul_comm]⟩
  have q1 := i_cl (x := 80 * k + m) (by omega)
  have q2 := i_cl h1.1
  have q3 := i_cl h2.1
  omega
