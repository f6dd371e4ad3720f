set_option maxHeartbeats 4000000 in
set_option maxRecDepth 100000 in
theorem c_X2_letDown (l : Launch) (E : GG) (h q : Nat) (v : Nat → Int32) (o : Nat → Int32) (a : Int32)  : Met l yX2_letDown wsX2_letDown (Rm 0 0 0) (pR E [.ref h, .int a] (KW E h q v o)) (QcRead (k_letDown v a)) 0 0 (fun _ => False) := by
  refine ofR (by decide) rfl (Nat.le_of_ble_eq_true rfl) ?_
  intro p e s m below meth c hx hb hr hlocks hml hown hts hK hP ls hl
  have hl : lv_has ls 2 [(0, .ref h), (1, .int a)] := hl
  refine lv_iload_n hx hb dX2_letDown_0 rfl (lv_at hl 1 rfl) ?_
  refine lv_iconst (v := 1) hx hb dX2_letDown_1 (by decide) ?_
  refine lv_icmp_ne (tgt := 12) hx hb dX2_letDown_2 (by decide) (fun c_1 => ?_) (fun c_1 => ?_)
  · skip
    refine lv_iload_n hx hb dX2_letDown_12 rfl (lv_at hl 1 rfl) ?_
    refine lv_iconst (v := 2) hx hb dX2_letDown_13 (by decide) ?_
    refine lv_icmp_ne (tgt := 25) hx hb dX2_letDown_14 (by decide) (fun c_2 => ?_) (fun c_2 => ?_)
    · skip
      refine lv_iconst (v := 0) hx hb dX2_letDown_25 (by decide) ?_
      exact r_ret hx hb hr hlocks (by first | rfl | (simp [k_letDown, c_1, c_2]; done) | (simp only [k_letDown, c_1, c_2, if_true, if_false, reduceIte, not_true_eq_false, not_false_eq_true]; done) | (simp only [k_letDown]; split <;> first | rfl | (simp_all; done) | omega) | (simp_all [k_letDown]; done)) dX2_letDown_26
    · skip
      refine lv_aload_n hx hb dX2_letDown_17 rfl (lv_at hl 0 rfl) ?_
      refine va_get (D := E.1) (ci := 2) (v := .int (v 2)) (C := RX2) (T := TX2) (N := 8) hx hb hts (fun _ h => (List.mem_cons_of_mem _ (List.mem_append_right _ h))) hown hK.1 hP 0 rfl rfl 2 (by decide) (hts _ (List.mem_of_getElem? (i := 2) rfl)) (fun _ h9 => h9) rfl dX2_letDown_18 ?_
      refine lv_ineg hx hb dX2_letDown_21 ?_
      refine lv_goto (tgt := 26) hx hb dX2_letDown_22 (by decide) ?_
      exact r_ret hx hb hr hlocks (by first | rfl | (simp [k_letDown, c_1, c_2]; done) | (simp only [k_letDown, c_1, c_2, if_true, if_false, reduceIte, not_true_eq_false, not_false_eq_true]; done) | (simp only [k_letDown]; split <;> first | rfl | (simp_all; done) | omega) | (simp_all [k_letDown]; done)) dX2_letDown_26
  · skip
    refine lv_aload_n hx hb dX2_letDown_5 rfl (lv_at hl 0 rfl) ?_
    refine va_get (D := E.1) (ci := 2) (v := .int (v 0)) (C := RX2) (T := TX2) (N := 8) hx hb hts (fun _ h => (List.mem_cons_of_mem _ (List.mem_append_right _ h))) hown hK.1 hP 0 rfl rfl 0 (by decide) (hts _ (List.mem_of_getElem? (i := 1) rfl)) (fun _ h9 => h9) rfl dX2_letDown_6 ?_
    refine lv_goto (tgt := 26) hx hb dX2_letDown_9 (by decide) ?_
    exact r_ret hx hb hr hlocks (by first | rfl | (simp [k_letDown, c_1]; done) | (simp only [k_letDown, c_1, if_true, if_false, reduceIte, not_true_eq_false, not_false_eq_true]; done) | (simp only [k_letDown]; split <;> first | rfl | (simp_all; done) | omega) | (simp_all [k_letDown]; done)) dX2_letDown_26
