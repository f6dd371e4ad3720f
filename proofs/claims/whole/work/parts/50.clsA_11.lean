set_option maxHeartbeats 4000000 in
set_option maxRecDepth 100000 in
theorem c_X0_unitsNeeded (l : Launch) (E : GG) (r : Nat → Nat) (v : Nat → Int32) (f : Nat → Nat → Int32) (h : Nat) (d : Nat) (hh : h < 24) (hd : d < 9) : Met l yX0_unitsNeeded wsX0_unitsNeeded (Rm 1 0 0) (pR E [.ref (r 4), .int (nI h), .int (nI d)] (DW E r v f)) (QcRead (d_units v f h d)) 0 0 (fun _ => False) := by
  refine ofR (by decide) rfl (Nat.le_of_ble_eq_true rfl) ?_
  intro p e s m below meth c hx hb hr hlocks hml hown hts hK hP ls hl
  have hl : lv_has ls 3 [(0, .ref (r 4)), (1, .int (nI h)), (2, .int (nI d))] := hl
  refine lv_aload_n hx hb dX0_unitsNeeded_0 rfl (lv_at hl 0 rfl) ?_
  refine va_get (D := E.1) (ci := 0) (v := .ref (r 1)) (C := RX0) (T := TX0) (N := 9) hx hb hts (fun _ h => (List.mem_cons_of_mem _ (List.mem_append_left _ (List.mem_append_left _ (List.mem_append_right _ h))))) hown hK.1 hP 0 rfl rfl 0 (by decide) (hts _ (List.mem_of_getElem? (i := 1) rfl)) (fun _ h9 => h9) rfl dX0_unitsNeeded_1 ?_
  refine va_getN (D := E.1) (ci := 1) (v := .ref (r 15)) (C := RX1) (T := TX1) (N := 9) (host := "TwoLakes") (ref := RX1) hx hb hts (fun _ h => (List.mem_cons_of_mem _ (List.mem_append_left _ (List.mem_append_right _ h)))) hown hK.1 hP 1 rfl rfl 8 (by decide) (va_Nw.use rfl (hK.2.1 (RX0, 106, RX1, "promised", "[I") (List.mem_of_getElem? (i := 12) rfl))) (fun _ h9 => h9) rfl dX0_unitsNeeded_4 ?_
  refine lv_iload_n hx hb dX0_unitsNeeded_7 rfl (lv_at hl 1 rfl) ?_
  refine n_iald (f := f 15) hx hb hK.1 hP 6 0 rfl rfl (i := h) (by omega) (by decide) dX0_unitsNeeded_8 ?_
  refine lv_if_ne (tgt := 14) hx hb dX0_unitsNeeded_9 (by decide) (fun c_1 => ?_) (fun c_1 => ?_)
  · skip
    refine lv_aload_n hx hb dX0_unitsNeeded_14 rfl (lv_at hl 0 rfl) ?_
    refine va_get (D := E.1) (ci := 0) (v := .ref (r 2)) (C := RX0) (T := TX0) (N := 9) hx hb hts (fun _ h => (List.mem_cons_of_mem _ (List.mem_append_left _ (List.mem_append_left _ (List.mem_append_right _ h))))) hown hK.1 hP 0 rfl rfl 1 (by decide) (hts _ (List.mem_of_getElem? (i := 2) rfl)) (fun _ h9 => h9) rfl dX0_unitsNeeded_15 ?_
    refine lv_iload_n hx hb dX0_unitsNeeded_18 rfl (lv_at hl 2 rfl) ?_
    refine lv_iconst (v := 3) hx hb dX0_unitsNeeded_19 (by decide) ?_
    refine lv_idiv hx hb dX0_unitsNeeded_20 (by decide) ?_
    refine w_top (show ((nI d) / 3) = (nI (d / 3)) from pk_div (a := d) (d := 3) (by omega) (by decide) (by decide)) ?_
    refine lv_iload_n hx hb dX0_unitsNeeded_21 rfl (lv_at hl 1 rfl) ?_
    refine cR_VN ⟨hx, hb, hml, hown, hts⟩ (c_X2_unitsForBackup l E (r 2) (r 16) (fun k => v (10 + k)) (f 16) (nI (d / 3)) h (by omega)) ⟨(va_cnB 2 hts gX0_unitsNeeded_X2_unitsForBackup_n109 rfl rfl rfl (hK.2.2 (RX0, 109, yX2_unitsForBackup) (List.mem_of_getElem? (i := 10) rfl)) (hts _ (List.mem_of_getElem? (i := 5) rfl)) (by decide +kernel) ⟨Nat.le_of_ble_eq_true rfl, Nat.le_of_ble_eq_true rfl⟩), (hts _ (List.mem_of_getElem? (i := 4) rfl)), (hts _ (List.mem_of_getElem? (i := 6) rfl))⟩ hK (hP.sub (ws' := KW E (r 2) (r 16) (fun k => v (10 + k)) (f 16)) [2, 7] rfl) 2 0 rfl rfl rfl hl.1 rfl (Nat.le_of_ble_eq_true rfl) dX0_unitsNeeded_22 ⟨Nat.le_of_ble_eq_true rfl, Nat.le_of_ble_eq_true rfl⟩ ?_
    refine lv_aload_n hx hb dX0_unitsNeeded_25 rfl (lv_at hl 0 rfl) ?_
    refine va_get (D := E.1) (ci := 0) (v := .ref (r 3)) (C := RX0) (T := TX0) (N := 9) hx hb hts (fun _ h => (List.mem_cons_of_mem _ (List.mem_append_left _ (List.mem_append_left _ (List.mem_append_right _ h))))) hown hK.1 hP 0 rfl rfl 2 (by decide) (hts _ (List.mem_of_getElem? (i := 3) rfl)) (fun _ h9 => h9) rfl dX0_unitsNeeded_26 ?_
    refine lv_iload_n hx hb dX0_unitsNeeded_29 rfl (lv_at hl 2 rfl) ?_
    refine lv_iconst (v := 3) hx hb dX0_unitsNeeded_30 (by decide) ?_
    refine lv_irem hx hb dX0_unitsNeeded_31 (by decide) ?_
    refine w_top (show ((nI d) - (nI d) / 3 * 3) = (nI (d % 3)) from pk_rem (a := d) (d := 3) (by omega) (by decide) (by decide)) ?_
    refine lv_iload_n hx hb dX0_unitsNeeded_32 rfl (lv_at hl 1 rfl) ?_
    refine cR_VN ⟨hx, hb, hml, hown, hts⟩ (c_X2_unitsForBackup l E (r 3) (r 17) (fun k => v (20 + k)) (f 17) (nI (d % 3)) h (by omega)) ⟨(va_cnB 2 hts gX0_unitsNeeded_X2_unitsForBackup_n109 rfl rfl rfl (hK.2.2 (RX0, 109, yX2_unitsForBackup) (List.mem_of_getElem? (i := 10) rfl)) (hts _ (List.mem_of_getElem? (i := 5) rfl)) (by decide +kernel) ⟨Nat.le_of_ble_eq_true rfl, Nat.le_of_ble_eq_true rfl⟩), (hts _ (List.mem_of_getElem? (i := 4) rfl)), (hts _ (List.mem_of_getElem? (i := 6) rfl))⟩ hK (hP.sub (ws' := KW E (r 3) (r 17) (fun k => v (20 + k)) (f 17)) [3, 8] rfl) 2 0 rfl rfl rfl hl.1 rfl (Nat.le_of_ble_eq_true rfl) dX0_unitsNeeded_33 ⟨Nat.le_of_ble_eq_true rfl, Nat.le_of_ble_eq_true rfl⟩ ?_
    refine lv_iadd hx hb dX0_unitsNeeded_36 ?_
    exact r_ret hx hb hr hlocks (by rw [d_units, if_neg c_1]) dX0_unitsNeeded_37
  · skip
    refine lv_iconst (v := 0) hx hb dX0_unitsNeeded_12 (by decide) ?_
    exact r_ret hx hb hr hlocks (by rw [d_units, if_pos c_1]) dX0_unitsNeeded_13
