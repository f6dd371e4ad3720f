set_option maxHeartbeats 4000000 in
set_option maxRecDepth 100000 in
theorem c_X5_isLegalNow (l : Launch) (E : GG) (r : Nat → Nat) (v : Nat → Int32) (f : Nat → Nat → Int32) (B C : Nat → Int32) (a : Int32) (b : Int32) (nw : Nat) (hnw : v 1 = nI nw) (hn24 : nw < 24) : Met l yX5_isLegalNow wsX5_isLegalNow (Rm 3 0 0) (pR E [.ref (r 0), .int a, .int b] (MW E r v f B C)) (QcRead (bI (m_legal v f nw (v 4) (v 5) (f 21 0) (f 21 1) a b))) 0 0 (fun _ => False) := by
  refine ofR (by decide) rfl (Nat.le_of_ble_eq_true rfl) ?_
  intro p e s m below meth c hx hb hr hlocks hml hown hts hK hP ls hl
  have hl : lv_has ls 3 [(0, .ref (r 0)), (1, .int a), (2, .int b)] := hl
  refine lv_aload_n hx hb dX5_isLegalNow_0 rfl (lv_at hl 0 rfl) ?_
  refine lv_aload_n hx hb dX5_isLegalNow_1 rfl (lv_at hl 0 rfl) ?_
  refine va_get (D := E.1) (ci := 5) (v := .int (v 1)) (C := RX5) (T := TX5) (N := 26) hx hb hts (fun _ h => (List.mem_cons_of_mem _ (List.mem_append_right _ h))) hown hK.1 hP 0 rfl rfl 1 (by decide) (hts _ (List.mem_of_getElem? (i := 1) rfl)) (fun _ h9 => h9) rfl dX5_isLegalNow_2 ?_
  refine w_top (show (v 1) = nI nw from hnw) ?_
  refine lv_aload_n hx hb dX5_isLegalNow_5 rfl (lv_at hl 0 rfl) ?_
  refine va_get (D := E.1) (ci := 5) (v := .int (v 4)) (C := RX5) (T := TX5) (N := 26) hx hb hts (fun _ h => (List.mem_cons_of_mem _ (List.mem_append_right _ h))) hown hK.1 hP 0 rfl rfl 4 (by decide) (hts _ (List.mem_of_getElem? (i := 2) rfl)) (fun _ h9 => h9) rfl dX5_isLegalNow_6 ?_
  refine lv_aload_n hx hb dX5_isLegalNow_9 rfl (lv_at hl 0 rfl) ?_
  refine va_get (D := E.1) (ci := 5) (v := .int (v 5)) (C := RX5) (T := TX5) (N := 26) hx hb hts (fun _ h => (List.mem_cons_of_mem _ (List.mem_append_right _ h))) hown hK.1 hP 0 rfl rfl 5 (by decide) (hts _ (List.mem_of_getElem? (i := 3) rfl)) (fun _ h9 => h9) rfl dX5_isLegalNow_10 ?_
  refine lv_aload_n hx hb dX5_isLegalNow_13 rfl (lv_at hl 0 rfl) ?_
  refine va_get (D := E.1) (ci := 5) (v := .ref (r 21)) (C := RX5) (T := TX5) (N := 26) hx hb hts (fun _ h => (List.mem_cons_of_mem _ (List.mem_append_right _ h))) hown hK.1 hP 0 rfl rfl 21 (by decide) (hts _ (List.mem_of_getElem? (i := 4) rfl)) (fun _ h9 => h9) rfl dX5_isLegalNow_14 ?_
  refine lv_iconst (v := 0) hx hb dX5_isLegalNow_17 (by decide) ?_
  refine n_iald (f := f 21) hx hb hK.1 hP 12 0 rfl rfl (i := 0) (by omega) (by decide) dX5_isLegalNow_18 ?_
  refine lv_aload_n hx hb dX5_isLegalNow_19 rfl (lv_at hl 0 rfl) ?_
  refine va_get (D := E.1) (ci := 5) (v := .ref (r 21)) (C := RX5) (T := TX5) (N := 26) hx hb hts (fun _ h => (List.mem_cons_of_mem _ (List.mem_append_right _ h))) hown hK.1 hP 0 rfl rfl 21 (by decide) (hts _ (List.mem_of_getElem? (i := 4) rfl)) (fun _ h9 => h9) rfl dX5_isLegalNow_20 ?_
  refine lv_iconst (v := 1) hx hb dX5_isLegalNow_23 (by decide) ?_
  refine n_iald (f := f 21) hx hb hK.1 hP 12 0 rfl rfl (i := 1) (by omega) (by decide) dX5_isLegalNow_24 ?_
  refine lv_iload_n hx hb dX5_isLegalNow_25 rfl (lv_at hl 1 rfl) ?_
  refine lv_iload_n hx hb dX5_isLegalNow_26 rfl (lv_at hl 2 rfl) ?_
  refine cR_V ⟨hx, hb, hml, hown, hts⟩ (c_X5_isLegal l E r v f B C nw (v 4) (v 5) (f 21 0) (f 21 1) a b (by omega)) (cwV 7 hts gX5_isLegalNow_X5_isLegal rfl rfl rfl (by decide +kernel) ⟨Nat.le_of_ble_eq_true rfl, Nat.le_of_ble_eq_true rfl⟩) hK hP 5 0 rfl rfl rfl hl.1 rfl (Nat.le_of_ble_eq_true rfl) dX5_isLegalNow_27 ⟨Nat.le_of_ble_eq_true rfl, Nat.le_of_ble_eq_true rfl⟩ ?_
  exact z_ret hx hb hr hlocks bI_n (by first | rfl | (simp []; done) | (simp_all; done)) dX5_isLegalNow_30
