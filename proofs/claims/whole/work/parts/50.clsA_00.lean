abbrev DW (E : GG) (r : Nat → Nat) (v : Nat → Int32) (f : Nat → Nat → Int32) : va_W := [(r 4, .inr (0, [.ref (r 1), .ref (r 2), .ref (r 3), .ref (r 18), .ref (r 19), .ref (r 20), .ref (r 21), .ref (r 22), .ref (r 23)])), (r 1, .inr (1, [.int (v 0), .int (v 1), .int (v 2), .int (v 3), .int (v 4), .int (v 5), .ref (r 13), .ref (r 14), .ref (r 15)])), (r 2, .inr (2, [.int (v 10), .int (v 11), .int (v 12), .int (v 13), .int (v 14), .int (v 15), .int (v 16), .ref (r 16)])), (r 3, .inr (2, [.int (v 20), .int (v 21), .int (v 22), .int (v 23), .int (v 24), .int (v 25), .int (v 26), .ref (r 17)])), (r 13, .inl (E.2 0, 24, .inl (f 13))), (r 14, .inl (E.2 0, 24, .inl (f 14))), (r 15, .inl (E.2 0, 24, .inl (f 15))), (r 16, .inl (E.2 1, 24, .inl (f 16))), (r 17, .inl (E.2 1, 24, .inl (f 17))), (r 18, .inl (E.2 0, 216, .inl (f 18))), (r 19, .inl (E.2 0, 216, .inl (f 19))), (r 20, .inl (E.2 0, 216, .inl (f 20))), (r 21, .inl (E.2 0, 216, .inl (f 21))), (r 22, .inl (E.2 0, 216, .inl (f 22))), (r 23, .inl (E.2 0, 81, .inl (f 23)))]
abbrev CW (E : GG) (r : Nat → Nat) (v : Nat → Int32) (f : Nat → Nat → Int32) : va_W := [(r 4, .inr (0, [.ref (r 1), .ref (r 2), .ref (r 3), .ref (r 18), .ref (r 19), .ref (r 20), .ref (r 21), .ref (r 22), .ref (r 23)])), (r 1, .inr (1, [.int (v 0), .int (v 1), .int (v 2), .int (v 3), .int (v 4), .int (v 5), .ref (r 13), .ref (r 14), .ref (r 15)])), (r 2, .inr (2, [.int (v 10), .int (v 11), .int (v 12), .int (v 13), .int (v 14), .int (v 15), .int (v 16), .ref (r 16)])), (r 3, .inr (2, [.int (v 20), .int (v 21), .int (v 22), .int (v 23), .int (v 24), .int (v 25), .int (v 26), .ref (r 17)])), (r 13, .inl (E.2 0, 24, .inl (f 13))), (r 14, .inl (E.2 0, 24, .inl (f 14))), (r 15, .inl (E.2 0, 24, .inl (f 15))), (r 16, .inl (E.2 1, 24, .inl (f 16))), (r 17, .inl (E.2 1, 24, .inl (f 17))), (r 18, .inl (E.2 0, 216, .inl (f 18))), (r 19, .inl (E.2 0, 216, .inl (f 19))), (r 20, .inl (E.2 0, 216, .inl (f 20))), (r 21, .inl (E.2 0, 216, .inl (f 21))), (r 22, .inl (E.2 0, 216, .inl (f 22))), (r 23, .inl (E.2 0, 81, .inl (f 23))), (r 0, .inr (4, [.ref (r 1), .ref (r 2), .ref (r 3), .ref (r 4), .ref (r 9), .ref (r 8), .ref (r 10), .ref (r 11), .ref (r 12), .int (v 30), .int (v 31), .int (v 32), .int (v 33)])), (r 9, .inl (E.2 2, 3, .inr (.inr (.inr (.inr (va_up (va_up (va_up (fun _ => none) 0 (some (r 5))) 1 (some (r 6))) 2 (some (r 7)))))))), (r 10, .inl (E.2 0, 3, .inl (f 10))), (r 11, .inl (E.2 0, 41, .inl (f 11))), (r 12, .inl (E.2 0, 3, .inl (f 12))), (r 5, .inr (3, [.ref (r 24), .int (v 40), .ref (r 28), .ref (r 32), .ref (r 36)])), (r 24, .inl (E.2 0, 24, .inl (f 24))), (r 28, .inl (E.2 0, 369, .inl (f 28))), (r 32, .inl (E.2 0, 369, .inl (f 32))), (r 36, .inl (E.2 0, 369, .inl (f 36))), (r 6, .inr (3, [.ref (r 25), .int (v 41), .ref (r 29), .ref (r 33), .ref (r 37)])), (r 25, .inl (E.2 0, 24, .inl (f 25))), (r 29, .inl (E.2 0, 369, .inl (f 29))), (r 33, .inl (E.2 0, 369, .inl (f 33))), (r 37, .inl (E.2 0, 369, .inl (f 37))), (r 7, .inr (3, [.ref (r 26), .int (v 42), .ref (r 30), .ref (r 34), .ref (r 38)])), (r 26, .inl (E.2 0, 24, .inl (f 26))), (r 30, .inl (E.2 0, 369, .inl (f 30))), (r 34, .inl (E.2 0, 369, .inl (f 34))), (r 38, .inl (E.2 0, 369, .inl (f 38))), (r 8, .inr (3, [.ref (r 27), .int (v 43), .ref (r 31), .ref (r 35), .ref (r 39)])), (r 27, .inl (E.2 0, 24, .inl (f 27))), (r 31, .inl (E.2 0, 369, .inl (f 31))), (r 35, .inl (E.2 0, 369, .inl (f 35))), (r 39, .inl (E.2 0, 369, .inl (f 39)))]
abbrev KW (E : GG) (h q : Nat) (v : Nat → Int32) (o : Nat → Int32) : va_W := [(h, .inr (2, [.int (v 0), .int (v 1), .int (v 2), .int (v 3), .int (v 4), .int (v 5), .int (v 6), .ref q])), (q, .inl (E.2 1, 24, .inl o))]
abbrev LW (E : GG) (r : Nat → Nat) (v : Nat → Int32) : va_W := [(r 1, .inr (1, [.int (v 0), .int (v 1), .int (v 2), .int (v 3), .int (v 4), .int (v 5), .ref (r 13), .ref (r 14), .ref (r 15)]))]
def i_max (x y : Int32) : Int32 := if x < y then y else x
def i_min (x y : Int32) : Int32 := if y < x then y else x
def i_abs (x : Int32) : Int32 := if 0 ≤ x then x else 0 - x
def k_letDown (v : Nat → Int32) (a : Int32) : Int32 := if a = 1 then v 0 else if a = 2 then -(v 2) else 0
def k_energy (v : Nat → Int32) (a : Int32) : Int32 := if a = 1 then v 1 else if a = 2 then -(v 3) else 0
def k_canBe (o : Nat → Int32) (a : Int32) (h : Nat) : Prop := a = 0 ∨ o h = 0
def k_backup (v o : Nat → Int32) (a : Int32) (h : Nat) : Int32 := if a = 2 then v 3 else if a = 0 ∧ o h = 0 then v 1 else 0
def k_units (v o : Nat → Int32) (a : Int32) (h : Nat) : Int32 := if a = 1 ∨ (a = 0 ∧ o h = 0) then v 0 else 0
def k_start (p a : Int32) : Prop := p = 0 ∧ ¬ a = 0
def k_follow (p a : Int32) : Prop := p = 0 ∨ a = 0 ∨ p = a
set_option maxHeartbeats 4000000 in
set_option maxRecDepth 100000 in
theorem c_X1_leastUpper (l : Launch) (E : GG) (r : Nat → Nat) (v : Nat → Int32) (t : Int32)  : Met l yX1_leastUpper wsX1_leastUpper (Rm 1 0 0) (pR E [.ref (r 1), .int t] (LW E r v)) (QcRead (i_max 0 (t - v 1))) 0 0 (fun _ => False) := by
  refine ofR (by decide) rfl (Nat.le_of_ble_eq_true rfl) ?_
  intro p e s m below meth c hx hb hr hlocks hml hown hts hK hP ls hl
  have hl : lv_has ls 2 [(0, .ref (r 1)), (1, .int t)] := hl
  refine lv_iconst (v := 0) hx hb dX1_leastUpper_0 (by decide) ?_
  refine lv_iload_n hx hb dX1_leastUpper_1 rfl (lv_at hl 1 rfl) ?_
  refine lv_aload_n hx hb dX1_leastUpper_2 rfl (lv_at hl 0 rfl) ?_
  refine va_get (D := E.1) (ci := 1) (v := .int (v 1)) (C := RX1) (T := TX1) (N := 9) hx hb hts (fun _ h => (List.mem_cons_of_mem _ (List.mem_append_right _ h))) hown hK.1 hP 0 rfl rfl 1 (by decide) (hts _ (List.mem_of_getElem? (i := 1) rfl)) (fun _ h9 => h9) rfl dX1_leastUpper_3 ?_
  refine lv_isub hx hb dX1_leastUpper_6 ?_
  refine va_mmax hx hb (hml.trans hl.1.symm) hown (hts _ (List.mem_of_getElem? (i := 2) rfl)) (hts _ (List.mem_of_getElem? (i := 3) rfl)) (hts _ (List.mem_of_getElem? (i := 4) rfl)) (hts _ (List.mem_of_getElem? (i := 5) rfl)) (Nat.le_of_ble_eq_true rfl) (Nat.le_of_ble_eq_true rfl) (Nat.le_of_ble_eq_true rfl) (Nat.le_of_ble_eq_true rfl) dX1_leastUpper_7 ?_
  exact r_ret hx hb hr hlocks (by first | rfl | (simp [i_max]; done) | (simp only [i_max, if_true, if_false, reduceIte, not_true_eq_false, not_false_eq_true]; done) | (simp only [i_max]; split <;> first | rfl | (simp_all; done) | omega) | (simp_all [i_max]; done)) dX1_leastUpper_10
set_option maxHeartbeats 4000000 in
set_option maxRecDepth 100000 in
theorem c_X1_mostUpper (l : Launch) (E : GG) (r : Nat → Nat) (v : Nat → Int32) (t : Int32)  : Met l yX1_mostUpper wsX1_mostUpper (Rm 1 0 0) (pR E [.ref (r 1), .int t] (LW E r v)) (QcRead (i_min (v 0) t)) 0 0 (fun _ => False) := by
  refine ofR (by decide) rfl (Nat.le_of_ble_eq_true rfl) ?_
  intro p e s m below meth c hx hb hr hlocks hml hown hts hK hP ls hl
  have hl : lv_has ls 2 [(0, .ref (r 1)), (1, .int t)] := hl
  refine lv_aload_n hx hb dX1_mostUpper_0 rfl (lv_at hl 0 rfl) ?_
  refine va_get (D := E.1) (ci := 1) (v := .int (v 0)) (C := RX1) (T := TX1) (N := 9) hx hb hts (fun _ h => (List.mem_cons_of_mem _ (List.mem_append_right _ h))) hown hK.1 hP 0 rfl rfl 0 (by decide) (hts _ (List.mem_of_getElem? (i := 1) rfl)) (fun _ h9 => h9) rfl dX1_mostUpper_1 ?_
  refine lv_iload_n hx hb dX1_mostUpper_4 rfl (lv_at hl 1 rfl) ?_
  refine va_mmin hx hb (hml.trans hl.1.symm) hown (hts _ (List.mem_of_getElem? (i := 2) rfl)) (hts _ (List.mem_of_getElem? (i := 3) rfl)) (hts _ (List.mem_of_getElem? (i := 4) rfl)) (hts _ (List.mem_of_getElem? (i := 5) rfl)) (Nat.le_of_ble_eq_true rfl) (Nat.le_of_ble_eq_true rfl) (Nat.le_of_ble_eq_true rfl) (Nat.le_of_ble_eq_true rfl) dX1_mostUpper_5 ?_
  exact r_ret hx hb hr hlocks (by first | rfl | (simp [i_min]; done) | (simp only [i_min, if_true, if_false, reduceIte, not_true_eq_false, not_false_eq_true]; done) | (simp only [i_min]; split <;> first | rfl | (simp_all; done) | omega) | (simp_all [i_min]; done)) dX1_mostUpper_8
set_option maxHeartbeats 4000000 in
set_option maxRecDepth 100000 in
theorem c_X2_canBe (l : Launch) (E : GG) (h q : Nat) (v : Nat → Int32) (o : Nat → Int32) (a : Int32) (hr0 : Nat) (hh : hr0 < 24) : Met l yX2_canBe wsX2_canBe (Rm 0 0 0) (pR E [.ref h, .int a, .int (nI hr0)] (KW E h q v o)) (QcRead (bI (k_canBe o a hr0))) 0 0 (fun _ => False) := by
  refine ofR (by decide) rfl (Nat.le_of_ble_eq_true rfl) ?_
  intro p e s m below meth c hx hb hr hlocks hml hown hts hK hP ls hl
  have hl : lv_has ls 3 [(0, .ref h), (1, .int a), (2, .int (nI hr0))] := hl
  refine lv_iload_n hx hb dX2_canBe_0 rfl (lv_at hl 1 rfl) ?_
  refine lv_if_eq (tgt := 13) hx hb dX2_canBe_1 (by decide) (fun c_1 => ?_) (fun c_1 => ?_)
  · skip
    refine lv_iconst (v := 1) hx hb dX2_canBe_13 (by decide) ?_
    refine lv_goto (tgt := 18) hx hb dX2_canBe_14 (by decide) ?_
    exact z_ret hx hb hr hlocks rfl (by first | rfl | (simp [bI, k_canBe, c_1]; done) | (simp only [bI, k_canBe, c_1, if_true, if_false, reduceIte, not_true_eq_false, not_false_eq_true]; done) | (simp only [bI, k_canBe]; split <;> first | rfl | (simp_all; done) | omega) | (simp_all [bI, k_canBe]; done)) dX2_canBe_18
  · skip
    refine lv_aload_n hx hb dX2_canBe_4 rfl (lv_at hl 0 rfl) ?_
    refine va_get (D := E.1) (ci := 2) (v := .ref q) (C := RX2) (T := TX2) (N := 8) hx hb hts (fun _ h => (List.mem_cons_of_mem _ (List.mem_append_right _ h))) hown hK.1 hP 0 rfl rfl 7 (by decide) (hts _ (List.mem_of_getElem? (i := 1) rfl)) (fun _ h9 => h9) rfl dX2_canBe_5 ?_
    refine lv_iload_n hx hb dX2_canBe_8 rfl (lv_at hl 2 rfl) ?_
    refine n_zald (f := o) hx hb hK.1 hP 1 1 rfl rfl (i := hr0) (by omega) (by decide) dX2_canBe_9 ?_
    refine lv_if_ne (tgt := 17) hx hb dX2_canBe_10 (by decide) (fun c_2 => ?_) (fun c_2 => ?_)
    · skip
      refine lv_iconst (v := 0) hx hb dX2_canBe_17 (by decide) ?_
      exact z_ret hx hb hr hlocks rfl (by first | rfl | (simp [bI, k_canBe, c_1, c_2]; done) | (simp only [bI, k_canBe, c_1, c_2, if_true, if_false, reduceIte, not_true_eq_false, not_false_eq_true]; done) | (simp only [bI, k_canBe]; split <;> first | rfl | (simp_all; done) | omega) | (simp_all [bI, k_canBe]; done)) dX2_canBe_18
    · skip
      refine lv_iconst (v := 1) hx hb dX2_canBe_13 (by decide) ?_
      refine lv_goto (tgt := 18) hx hb dX2_canBe_14 (by decide) ?_
      exact z_ret hx hb hr hlocks rfl (by first | rfl | (simp [bI, k_canBe, c_1, c_2]; done) | (simp only [bI, k_canBe, c_1, c_2, if_true, if_false, reduceIte, not_true_eq_false, not_false_eq_true]; done) | (simp only [bI, k_canBe]; split <;> first | rfl | (simp_all; done) | omega) | (simp_all [bI, k_canBe]; done)) dX2_canBe_18
set_option maxHeartbeats 4000000 in
set_option maxRecDepth 100000 in
theorem c_X2_letDown (l : Launch) (E : GG) (h q : Nat) (v : Nat → Int32) (o : Nat → Int32) (a : Int32)  : Met l yX2_letDown wsX2_letDown (Rm 0 0 0) (pR E [.ref h, .int a] (KW E h q v o)) (QcRead (k_letDown v a)) 0 0 (fun _ => False) := by
  refine ofR (by decide) rfl (Nat.le_of_ble_eq_true rfl) ?_
  intro p e s m below meth c hx hb hr hlocks hml hown hts hK hP ls hl
  have hl : lv_has ls 2 [(0, .ref h), (1, .int a)] := hl
  refine lv_iload_n hx hb dX2_letDown_0 rfl (lv_at hl 1 rfl) ?_
  refine lv_iconst (v := 1) hx hb dX2_letDown_1 (by decide) ?_
  refine lv_icmp_ne (tgt := 12) hx hb dX2_letDown_2 (by decide) (fun c_1 => ?_) (fun c_1 => ?_)
  · skip
    refine lv_iload_n hx hb dX2_letDown_12 rfl (lv_at hl 1 rfl) ?_
    refine lv_iconst (v := 2) hx hb dX2_letDown_13 (by decide) ?_
    refine lv_icmp_ne (tgt := 25) hx hb dX2_letDown_14 (by decide) (fun c_2 => ?_) (fun c_2 => ?_)
    · skip
      refine lv_iconst (v := 0) hx hb dX2_letDown_25 (by decide) ?_
      exact r_ret hx hb hr hlocks (by first | rfl | (simp [k_letDown, c_1, c_2]; done) | (simp only [k_letDown, c_1, c_2, if_true, if_false, reduceIte, not_true_eq_false, not_false_eq_true]; done) | (simp only [k_letDown]; split <;> first | rfl | (simp_all; done) | omega) | (simp_all [k_letDown]; done)) dX2_letDown_26
    · skip
      refine lv_aload_n hx hb dX2_letDown_17 rfl (lv_at hl 0 rfl) ?_
      refine va_get (D := E.1) (ci := 2) (v := .int (v 2)) (C := RX2) (T := TX2) (N := 8) hx hb hts (fun _ h => (List.mem_cons_of_mem _ (List.mem_append_right _ h))) hown hK.1 hP 0 rfl rfl 2 (by decide) (hts _ (List.mem_of_getElem? (i := 2) rfl)) (fun _ h9 => h9) rfl dX2_letDown_18 ?_
      refine lv_ineg hx hb dX2_letDown_21 ?_
      refine lv_goto (tgt := 26) hx hb dX2_letDown_22 (by decide) ?_
      exact r_ret hx hb hr hlocks (by first | rfl | (simp [k_letDown, c_1, c_2]; done) | (simp only [k_letDown, c_1, c_2, if_true, if_false, reduceIte, not_true_eq_false, not_false_eq_true]; done) | (simp only [k_letDown]; split <;> first | rfl | (simp_all; done) | omega) | (simp_all [k_letDown]; done)) dX2_letDown_26
  · skip
    refine lv_aload_n hx hb dX2_letDown_5 rfl (lv_at hl 0 rfl) ?_
    refine va_get (D := E.1) (ci := 2) (v := .int (v 0)) (C := RX2) (T := TX2) (N := 8) hx hb hts (fun _ h => (List.mem_cons_of_mem _ (List.mem_append_right _ h))) hown hK.1 hP 0 rfl rfl 0 (by decide) (hts _ (List.mem_of_getElem? (i := 1) rfl)) (fun _ h9 => h9) rfl dX2_letDown_6 ?_
    refine lv_goto (tgt := 26) hx hb dX2_letDown_9 (by decide) ?_
    exact r_ret hx hb hr hlocks (by first | rfl | (simp [k_letDown, c_1]; done) | (simp only [k_letDown, c_1, if_true, if_false, reduceIte, not_true_eq_false, not_false_eq_true]; done) | (simp only [k_letDown]; split <;> first | rfl | (simp_all; done) | omega) | (simp_all [k_letDown]; done)) dX2_letDown_26
set_option maxHeartbeats 4000000 in
set_option maxRecDepth 100000 in
theorem c_X2_energyOf (l : Launch) (E : GG) (h q : Nat) (v : Nat → Int32) (o : Nat → Int32) (a : Int32)  : Met l yX2_energyOf wsX2_energyOf (Rm 0 0 0) (pR E [.ref h, .int a] (KW E h q v o)) (QcRead (k_energy v a)) 0 0 (fun _ => False) := by
  refine ofR (by decide) rfl (Nat.le_of_ble_eq_true rfl) ?_
  intro p e s m below meth c hx hb hr hlocks hml hown hts hK hP ls hl
  have hl : lv_has ls 2 [(0, .ref h), (1, .int a)] := hl
  refine lv_iload_n hx hb dX2_energyOf_0 rfl (lv_at hl 1 rfl) ?_
  refine lv_iconst (v := 1) hx hb dX2_energyOf_1 (by decide) ?_
  refine lv_icmp_ne (tgt := 12) hx hb dX2_energyOf_2 (by decide) (fun c_1 => ?_) (fun c_1 => ?_)
  · skip
    refine lv_iload_n hx hb dX2_energyOf_12 rfl (lv_at hl 1 rfl) ?_
    refine lv_iconst (v := 2) hx hb dX2_energyOf_13 (by decide) ?_
    refine lv_icmp_ne (tgt := 25) hx hb dX2_energyOf_14 (by decide) (fun c_2 => ?_) (fun c_2 => ?_)
    · skip
      refine lv_iconst (v := 0) hx hb dX2_energyOf_25 (by decide) ?_
      exact r_ret hx hb hr hlocks (by first | rfl | (simp [k_energy, c_1, c_2]; done) | (simp only [k_energy, c_1, c_2, if_true, if_false, reduceIte, not_true_eq_false, not_false_eq_true]; done) | (simp only [k_energy]; split <;> first | rfl | (simp_all; done) | omega) | (simp_all [k_energy]; done)) dX2_energyOf_26
    · skip
      refine lv_aload_n hx hb dX2_energyOf_17 rfl (lv_at hl 0 rfl) ?_
      refine va_get (D := E.1) (ci := 2) (v := .int (v 3)) (C := RX2) (T := TX2) (N := 8) hx hb hts (fun _ h => (List.mem_cons_of_mem _ (List.mem_append_right _ h))) hown hK.1 hP 0 rfl rfl 3 (by decide) (hts _ (List.mem_of_getElem? (i := 2) rfl)) (fun _ h9 => h9) rfl dX2_energyOf_18 ?_
      refine lv_ineg hx hb dX2_energyOf_21 ?_
      refine lv_goto (tgt := 26) hx hb dX2_energyOf_22 (by decide) ?_
      exact r_ret hx hb hr hlocks (by first | rfl | (simp [k_energy, c_1, c_2]; done) | (simp only [k_energy, c_1, c_2, if_true, if_false, reduceIte, not_true_eq_false, not_false_eq_true]; done) | (simp only [k_energy]; split <;> first | rfl | (simp_all; done) | omega) | (simp_all [k_energy]; done)) dX2_energyOf_26
  · skip
    refine lv_aload_n hx hb dX2_energyOf_5 rfl (lv_at hl 0 rfl) ?_
    refine va_get (D := E.1) (ci := 2) (v := .int (v 1)) (C := RX2) (T := TX2) (N := 8) hx hb hts (fun _ h => (List.mem_cons_of_mem _ (List.mem_append_right _ h))) hown hK.1 hP 0 rfl rfl 1 (by decide) (hts _ (List.mem_of_getElem? (i := 1) rfl)) (fun _ h9 => h9) rfl dX2_energyOf_6 ?_
    refine lv_goto (tgt := 26) hx hb dX2_energyOf_9 (by decide) ?_
    exact r_ret hx hb hr hlocks (by first | rfl | (simp [k_energy, c_1]; done) | (simp only [k_energy, c_1, if_true, if_false, reduceIte, not_true_eq_false, not_false_eq_true]; done) | (simp only [k_energy]; split <;> first | rfl | (simp_all; done) | omega) | (simp_all [k_energy]; done)) dX2_energyOf_26
set_option maxHeartbeats 4000000 in
set_option maxRecDepth 100000 in
theorem c_X2_backup (l : Launch) (E : GG) (h q : Nat) (v : Nat → Int32) (o : Nat → Int32) (a : Int32) (hr0 : Nat) (hh : hr0 < 24) : Met l yX2_backup wsX2_backup (Rm 0 0 0) (pR E [.ref h, .int a, .int (nI hr0)] (KW E h q v o)) (QcRead (k_backup v o a hr0)) 0 0 (fun _ => False) := by
  refine ofR (by decide) rfl (Nat.le_of_ble_eq_true rfl) ?_
  intro p e s m below meth c hx hb hr hlocks hml hown hts hK hP ls hl
  have hl : lv_has ls 3 [(0, .ref h), (1, .int a), (2, .int (nI hr0))] := hl
  refine lv_iload_n hx hb dX2_backup_0 rfl (lv_at hl 1 rfl) ?_
  refine lv_iconst (v := 2) hx hb dX2_backup_1 (by decide) ?_
  refine lv_icmp_ne (tgt := 10) hx hb dX2_backup_2 (by decide) (fun c_1 => ?_) (fun c_1 => ?_)
  · skip
    refine lv_iload_n hx hb dX2_backup_10 rfl (lv_at hl 1 rfl) ?_
    refine lv_if_ne (tgt := 30) hx hb dX2_backup_11 (by decide) (fun c_2 => ?_) (fun c_2 => ?_)
    · skip
      refine lv_iconst (v := 0) hx hb dX2_backup_30 (by decide) ?_
      exact r_ret hx hb hr hlocks (by first | rfl | (simp [k_backup, c_1, c_2]; done) | (simp only [k_backup, c_1, c_2, if_true, if_false, reduceIte, not_true_eq_false, not_false_eq_true]; done) | (simp only [k_backup]; split <;> first | rfl | (simp_all; done) | omega) | (simp_all [k_backup]; done)) dX2_backup_31
    · skip
      refine lv_aload_n hx hb dX2_backup_14 rfl (lv_at hl 0 rfl) ?_
      refine va_get (D := E.1) (ci := 2) (v := .ref q) (C := RX2) (T := TX2) (N := 8) hx hb hts (fun _ h => (List.mem_cons_of_mem _ (List.mem_append_right _ h))) hown hK.1 hP 0 rfl rfl 7 (by decide) (hts _ (List.mem_of_getElem? (i := 2) rfl)) (fun _ h9 => h9) rfl dX2_backup_15 ?_
      refine lv_iload_n hx hb dX2_backup_18 rfl (lv_at hl 2 rfl) ?_
      refine n_zald (f := o) hx hb hK.1 hP 1 1 rfl rfl (i := hr0) (by omega) (by decide) dX2_backup_19 ?_
      refine lv_if_ne (tgt := 30) hx hb dX2_backup_20 (by decide) (fun c_3 => ?_) (fun c_3 => ?_)
      · skip
        refine lv_iconst (v := 0) hx hb dX2_backup_30 (by decide) ?_
        exact r_ret hx hb hr hlocks (by first | rfl | (simp [k_backup, c_1, c_2, c_3]; done) | (simp only [k_backup, c_1, c_2, c_3, if_true, if_false, reduceIte, not_true_eq_false, not_false_eq_true]; done) | (simp only [k_backup]; split <;> first | rfl | (simp_all; done) | omega) | (simp_all [k_backup]; done)) dX2_backup_31
      · skip
        refine lv_aload_n hx hb dX2_backup_23 rfl (lv_at hl 0 rfl) ?_
        refine va_get (D := E.1) (ci := 2) (v := .int (v 1)) (C := RX2) (T := TX2) (N := 8) hx hb hts (fun _ h => (List.mem_cons_of_mem _ (List.mem_append_right _ h))) hown hK.1 hP 0 rfl rfl 1 (by decide) (hts _ (List.mem_of_getElem? (i := 3) rfl)) (fun _ h9 => h9) rfl dX2_backup_24 ?_
        refine lv_goto (tgt := 31) hx hb dX2_backup_27 (by decide) ?_
        exact r_ret hx hb hr hlocks (by first | rfl | (simp [k_backup, c_1, c_2, c_3]; done) | (simp only [k_backup, c_1, c_2, c_3, if_true, if_false, reduceIte, not_true_eq_false, not_false_eq_true]; done) | (simp only [k_backup]; split <;> first | rfl | (simp_all; done) | omega) | (simp_all [k_backup]; done)) dX2_backup_31
  · skip
    refine lv_aload_n hx hb dX2_backup_5 rfl (lv_at hl 0 rfl) ?_
    refine va_get (D := E.1) (ci := 2) (v := .int (v 3)) (C := RX2) (T := TX2) (N := 8) hx hb hts (fun _ h => (List.mem_cons_of_mem _ (List.mem_append_right _ h))) hown hK.1 hP 0 rfl rfl 3 (by decide) (hts _ (List.mem_of_getElem? (i := 1) rfl)) (fun _ h9 => h9) rfl dX2_backup_6 ?_
    exact r_ret hx hb hr hlocks (by first | rfl | (simp [k_backup, c_1]; done) | (simp only [k_backup, c_1, if_true, if_false, reduceIte, not_true_eq_false, not_false_eq_true]; done) | (simp only [k_backup]; split <;> first | rfl | (simp_all; done) | omega) | (simp_all [k_backup]; done)) dX2_backup_9
