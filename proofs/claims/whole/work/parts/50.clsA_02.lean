set_option maxHeartbeats 4000000 in
set_option maxRecDepth 100000 in
theorem c_X2_canBe (l : Launch) (E : GG) (h q : Nat) (v : Nat → Int32) (o : Nat → Int32) (a : Int32) (hr0 : Nat) (hh : hr0 < 24) : Met l yX2_canBe wsX2_canBe (Rm 0 0 0) (pR E [.ref h, .int a, .int (nI hr0)] (KW E h q v o)) (QcRead (bI (k_canBe o a hr0))) 0 0 (fun _ => False) := by
  refine ofR (by decide) rfl (Nat.le_of_ble_eq_true rfl) ?_
  intro p e s m below meth c hx hb hr hlocks hml hown hts hK hP ls hl
  have hl : lv_has ls 3 [(0, .ref h), (1, .int a), (2, .int (nI hr0))] := hl
  refine lv_iload_n hx hb dX2_canBe_0 rfl (lv_at hl 1 rfl) ?_
  refine lv_if_eq (tgt := 13) hx hb dX2_canBe_1 (by decide) (fun c_1 => ?_) (fun c_1 => ?_)
  · skip
    refine lv_iconst (v := 1) hx hb dX2_canBe_13 (by decide) ?_
    refine lv_goto (tgt := 18) hx hb dX2_canBe_14 (by decide) ?_
    exact z_ret hx hb hr hlocks rfl (by first | rfl | (simp [bI, k_canBe, c_1]; done) | (simp only [bI, k_canBe, c_1, if_true, if_false, reduceIte, not_true_eq_false, not_false_eq_true]; done) | (simp only [bI, k_canBe]; split <;> first | rfl | (simp_all; done) | omega) | (simp_all [bI, k_canBe]; done)) dX2_canBe_18
  · skip
    refine lv_aload_n hx hb dX2_canBe_4 rfl (lv_at hl 0 rfl) ?_
    refine va_get (D := E.1) (ci := 2) (v := .ref q) (C := RX2) (T := TX2) (N := 8) hx hb hts (fun _ h => (List.mem_cons_of_mem _ (List.mem_append_right _ h))) hown hK.1 hP 0 rfl rfl 7 (by decide) (hts _ (List.mem_of_getElem? (i := 1) rfl)) (fun _ h9 => h9) rfl dX2_canBe_5 ?_
    refine lv_iload_n hx hb dX2_canBe_8 rfl (lv_at hl 2 rfl) ?_
    refine n_zald (f := o) hx hb hK.1 hP 1 1 rfl rfl (i := hr0) (by omega) (by decide) dX2_canBe_9 ?_
    refine lv_if_ne (tgt := 17) hx hb dX2_canBe_10 (by decide) (fun c_2 => ?_) (fun c_2 => ?_)
    · skip
      refine lv_iconst (v := 0) hx hb dX2_canBe_17 (by decide) ?_
      exact z_ret hx hb hr hlocks rfl (by first | rfl | (simp [bI, k_canBe, c_1, c_2]; done) | (simp only [bI, k_canBe, c_1, c_2, if_true, if_false, reduceIte, not_true_eq_false, not_false_eq_true]; done) | (simp only [bI, k_canBe]; split <;> first | rfl | (simp_all; done) | omega) | (simp_all [bI, k_canBe]; done)) dX2_canBe_18
    · skip
      refine lv_iconst (v := 1) hx hb dX2_canBe_13 (by decide) ?_
      refine lv_goto (tgt := 18) hx hb dX2_canBe_14 (by decide) ?_
      exact z_ret hx hb hr hlocks rfl (by first | rfl | (simp [bI, k_canBe, c_1, c_2]; done) | (simp only [bI, k_canBe, c_1, c_2, if_true, if_false, reduceIte, not_true_eq_false, not_false_eq_true]; done) | (simp only [bI, k_canBe]; split <;> first | rfl | (simp_all; done) | omega) | (simp_all [bI, k_canBe]; done)) dX2_canBe_18
