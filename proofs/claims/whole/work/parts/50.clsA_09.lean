set_option maxHeartbeats 4000000 in
set_option maxRecDepth 100000 in
theorem c_X0_isOpen (l : Launch) (E : GG) (r : Nat → Nat) (v : Nat → Int32) (f : Nat → Nat → Int32) (at1 : Nat) (lv : Int32) (ha : at1 < 216) : Met l yX0_isOpen wsX0_isOpen (Rm 0 0 0) (pR E [.ref (r 4), .int (nI at1), .int lv] (DW E r v f)) (QcRead (bI (¬ lv < f 21 at1 ∧ ¬ f 22 at1 < lv))) 0 0 (fun _ => False) := by
  refine ofR (by decide) rfl (Nat.le_of_ble_eq_true rfl) ?_
  intro p e s m below meth c hx hb hr hlocks hml hown hts hK hP ls hl
  have hl : lv_has ls 3 [(0, .ref (r 4)), (1, .int (nI at1)), (2, .int lv)] := hl
  refine lv_iload_n hx hb dX0_isOpen_0 rfl (lv_at hl 2 rfl) ?_
  refine lv_aload_n hx hb dX0_isOpen_1 rfl (lv_at hl 0 rfl) ?_
  refine va_get (D := E.1) (ci := 0) (v := .ref (r 21)) (C := RX0) (T := TX0) (N := 9) hx hb hts (fun _ h => (List.mem_cons_of_mem _ (List.mem_append_right _ h))) hown hK.1 hP 0 rfl rfl 6 (by decide) (hts _ (List.mem_of_getElem? (i := 1) rfl)) (fun _ h9 => h9) rfl dX0_isOpen_2 ?_
  refine lv_iload_n hx hb dX0_isOpen_5 rfl (lv_at hl 1 rfl) ?_
  refine n_iald (f := f 21) hx hb hK.1 hP 12 0 rfl rfl (i := at1) (by omega) (by decide) dX0_isOpen_6 ?_
  refine lv_icmp_lt (tgt := 24) hx hb dX0_isOpen_7 (by decide) (fun c_1 => ?_) (fun c_1 => ?_)
  · skip
    refine lv_iconst (v := 0) hx hb dX0_isOpen_24 (by decide) ?_
    exact z_ret hx hb hr hlocks rfl (by first | rfl | (simp [bI, c_1]; done) | (simp only [bI, c_1, if_true, if_false, reduceIte, not_true_eq_false, not_false_eq_true]; done) | (simp only [bI]; split <;> first | rfl | (simp_all; done) | omega) | (simp_all [bI]; done)) dX0_isOpen_25
  · skip
    refine lv_iload_n hx hb dX0_isOpen_10 rfl (lv_at hl 2 rfl) ?_
    refine lv_aload_n hx hb dX0_isOpen_11 rfl (lv_at hl 0 rfl) ?_
    refine va_get (D := E.1) (ci := 0) (v := .ref (r 22)) (C := RX0) (T := TX0) (N := 9) hx hb hts (fun _ h => (List.mem_cons_of_mem _ (List.mem_append_right _ h))) hown hK.1 hP 0 rfl rfl 7 (by decide) (hts _ (List.mem_of_getElem? (i := 2) rfl)) (fun _ h9 => h9) rfl dX0_isOpen_12 ?_
    refine lv_iload_n hx hb dX0_isOpen_15 rfl (lv_at hl 1 rfl) ?_
    refine n_iald (f := f 22) hx hb hK.1 hP 13 0 rfl rfl (i := at1) (by omega) (by decide) dX0_isOpen_16 ?_
    refine lv_icmp_gt (tgt := 24) hx hb dX0_isOpen_17 (by decide) (fun c_2 => ?_) (fun c_2 => ?_)
    · skip
      refine lv_iconst (v := 0) hx hb dX0_isOpen_24 (by decide) ?_
      exact z_ret hx hb hr hlocks rfl (by first | rfl | (simp [bI, c_1, c_2]; done) | (simp only [bI, c_1, c_2, if_true, if_false, reduceIte, not_true_eq_false, not_false_eq_true]; done) | (simp only [bI]; split <;> first | rfl | (simp_all; done) | omega) | (simp_all [bI]; done)) dX0_isOpen_25
    · skip
      refine lv_iconst (v := 1) hx hb dX0_isOpen_20 (by decide) ?_
      refine lv_goto (tgt := 25) hx hb dX0_isOpen_21 (by decide) ?_
      exact z_ret hx hb hr hlocks rfl (by first | rfl | (simp [bI, c_1, c_2]; done) | (simp only [bI, c_1, c_2, if_true, if_false, reduceIte, not_true_eq_false, not_false_eq_true]; done) | (simp only [bI]; split <;> first | rfl | (simp_all; done) | omega) | (simp_all [bI]; done)) dX0_isOpen_25
