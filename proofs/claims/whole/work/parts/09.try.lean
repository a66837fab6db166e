theorem fv0 : ((0 : Fin 4) : Nat) = 0 := rfl
theorem fv1 : ((1 : Fin 4) : Nat) = 1 := rfl
theorem fv2 : ((2 : Fin 4) : Nat) = 2 := rfl
theorem fv3 : ((3 : Fin 4) : Nat) = 3 := rfl
theorem lg_0 {a : Value} {L : List Value} : lg (a :: L) 0 = a := rfl
theorem lg_1 {a b : Value} {L : List Value} : lg (a :: b :: L) 1 = b := rfl
theorem lg_2 {a b c : Value} {L : List Value} : lg (a :: b :: c :: L) 2 = c := rfl
theorem e_hasRoad {d n : Nat} {mu : aM} {ro : aR} {sg : aS} {K : Option Value → aS → Prop} {a b : Int32} (h1 : mu 1 = (14, 11)) (h2 : ro 1 0 = some 2) (h3 : mu 2 = (1, 10)) (ha : vp_in a 10) (hk : K (some (.int (if (sg 2 a.toNatClampNeg >>> (b &&& 31)) &&& 1 = 0 then 0 else 1))) sg) : aCall d 21 [.ref 1, .int a, .int b] n mu ro sg K := by
  refine aCall_start (mL := 3) (cc := cX4_hasRoad) (o := 4) (ret := some .boolean) 0 (by decide) (by decide +kernel) rfl rfl rfl rfl (Nat.le_of_ble_eq_true rfl) (fun G hG => ?_)
  refine hG (fun _ => false) 40 0 _ _ _ (Nat.le_of_ble_eq_true rfl) ?_
  simp only [exL, vcS, vcC, vcI, D_X4_hasRoad, fv0, fv1, fv2, fv3, lg_0, lg_1, lg_2, Nat.reduceAdd, List.replicate, List.append_nil, gtF, h1, h2, h3, va_rf, Bool.false_eq_true, if_false, true_and]
  trace_state
  sorry
