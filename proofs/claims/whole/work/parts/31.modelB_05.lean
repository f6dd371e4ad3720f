set_option maxHeartbeats 4000000 in
set_option maxRecDepth 100000 in
theorem c_X5_stateNow (l : Launch) (E : GG) (r : Nat → Nat) (v : Nat → Int32) (f : Nat → Nat → Int32) (B C : Nat → Int32)  (up m0 m1 : Nat) (hup : v 4 = nI up) (hm0 : f 21 0 = nI m0) (hm1 : f 21 1 = nI m1) : Met l yX5_stateNow wsX5_stateNow (Rm 0 0 0) (pR E [.ref (r 0)] (MW E r v f B C)) (QcRead (nI (9 * up + 3 * m0 + m1))) 0 0 (fun _ => False) := by
  refine ofR (by decide) rfl (Nat.le_of_ble_eq_true rfl) ?_
  intro p e s m below meth c hx hb hr hlocks hml hown hts hK hP ls hl
  have hl : lv_has ls 1 [(0, .ref (r 0))] := hl
  refine lv_bipush (v := 9) hx hb dX5_stateNow_0 (by decide) ?_
  refine lv_aload_n hx hb dX5_stateNow_2 rfl (lv_at hl 0 rfl) ?_
  refine va_get (D := E.1) (ci := 5) (v := .int (v 4)) (C := RX5) (T := TX5) (N := 26) hx hb hts (fun _ h => (List.mem_cons_of_mem _ (List.mem_append_right _ h))) hown hK.1 hP 0 rfl rfl 4 (by decide) (hts _ (List.mem_of_getElem? (i := 1) rfl)) (fun _ h9 => h9) rfl dX5_stateNow_3 ?_
  refine w_top (show (v 4) = nI up from hup) ?_
  refine lv_imul hx hb dX5_stateNow_6 ?_
  refine w_top (show (9 * (nI up)) = (nI (9 * up)) from pk_mul _ _) ?_
  refine lv_iconst (v := 3) hx hb dX5_stateNow_7 (by decide) ?_
  refine lv_aload_n hx hb dX5_stateNow_8 rfl (lv_at hl 0 rfl) ?_
  refine va_get (D := E.1) (ci := 5) (v := .ref (r 21)) (C := RX5) (T := TX5) (N := 26) hx hb hts (fun _ h => (List.mem_cons_of_mem _ (List.mem_append_right _ h))) hown hK.1 hP 0 rfl rfl 21 (by decide) (hts _ (List.mem_of_getElem? (i := 2) rfl)) (fun _ h9 => h9) rfl dX5_stateNow_9 ?_
  refine lv_iconst (v := 0) hx hb dX5_stateNow_12 (by decide) ?_
  refine n_iald (f := f 21) hx hb hK.1 hP 12 0 rfl rfl (i := 0) (by omega) (by decide) dX5_stateNow_13 ?_
  refine w_top (show (f 21 0) = nI m0 from hm0) ?_
  refine lv_imul hx hb dX5_stateNow_14 ?_
  refine w_top (show (3 * (nI m0)) = (nI (3 * m0)) from pk_mul _ _) ?_
  refine lv_iadd hx hb dX5_stateNow_15 ?_
  refine w_top (show ((nI (9 * up)) + (nI (3 * m0))) = (nI ((9 * up) + (3 * m0))) from nI_add _ _) ?_
  refine lv_aload_n hx hb dX5_stateNow_16 rfl (lv_at hl 0 rfl) ?_
  refine va_get (D := E.1) (ci := 5) (v := .ref (r 21)) (C := RX5) (T := TX5) (N := 26) hx hb hts (fun _ h => (List.mem_cons_of_mem _ (List.mem_append_right _ h))) hown hK.1 hP 0 rfl rfl 21 (by decide) (hts _ (List.mem_of_getElem? (i := 2) rfl)) (fun _ h9 => h9) rfl dX5_stateNow_17 ?_
  refine lv_iconst (v := 1) hx hb dX5_stateNow_20 (by decide) ?_
  refine n_iald (f := f 21) hx hb hK.1 hP 12 0 rfl rfl (i := 1) (by omega) (by decide) dX5_stateNow_21 ?_
  refine w_top (show (f 21 1) = nI m1 from hm1) ?_
  refine lv_iadd hx hb dX5_stateNow_22 ?_
  refine w_top (show ((nI ((9 * up) + (3 * m0))) + (nI m1)) = (nI (((9 * up) + (3 * m0)) + m1)) from nI_add _ _) ?_
  exact r_ret hx hb hr hlocks (by first | rfl | (simp []; done) | (simp_all; done)) dX5_stateNow_23
