set_option maxHeartbeats 4000000 in
set_option maxRecDepth 100000 in
theorem c_X1_mostUpper (l : Launch) (E : GG) (r : Nat → Nat) (v : Nat → Int32) (t : Int32)  : Met l yX1_mostUpper wsX1_mostUpper (Rm 1 0 0) (pR E [.ref (r 1), .int t] (LW E r v)) (QcRead (i_min (v 0) t)) 0 0 (fun _ => False) := by
  refine ofR (by decide) rfl (Nat.le_of_ble_eq_true rfl) ?_
  intro p e s m below meth c hx hb hr hlocks hml hown hts hK hP ls hl
  have hl : lv_has ls 2 [(0, .ref (r 1)), (1, .int t)] := hl
  refine lv_aload_n hx hb dX1_mostUpper_0 rfl (lv_at hl 0 rfl) ?_
  refine va_get (D := E.1) (ci := 1) (v := .int (v 0)) (C := RX1) (T := TX1) (N := 9) hx hb hts (fun _ h => (List.mem_cons_of_mem _ (List.mem_append_right _ h))) hown hK.1 hP 0 rfl rfl 0 (by decide) (hts _ (List.mem_of_getElem? (i := 1) rfl)) (fun _ h9 => h9) rfl dX1_mostUpper_1 ?_
  refine lv_iload_n hx hb dX1_mostUpper_4 rfl (lv_at hl 1 rfl) ?_
  refine va_mmin hx hb (hml.trans hl.1.symm) hown (hts _ (List.mem_of_getElem? (i := 2) rfl)) (hts _ (List.mem_of_getElem? (i := 3) rfl)) (hts _ (List.mem_of_getElem? (i := 4) rfl)) (hts _ (List.mem_of_getElem? (i := 5) rfl)) (Nat.le_of_ble_eq_true rfl) (Nat.le_of_ble_eq_true rfl) (Nat.le_of_ble_eq_true rfl) (Nat.le_of_ble_eq_true rfl) dX1_mostUpper_5 ?_
  exact r_ret hx hb hr hlocks (by first | rfl | (simp [i_min]; done) | (simp only [i_min, if_true, if_false, reduceIte, not_true_eq_false, not_false_eq_true]; done) | (simp only [i_min]; split <;> first | rfl | (simp_all; done) | omega) | (simp_all [i_min]; done)) dX1_mostUpper_8
