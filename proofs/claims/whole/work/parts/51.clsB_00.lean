def d_drop (v : Nat → Int32) (d : Nat) : Int32 := k_letDown (fun k => v (10 + k)) (nI (d / 3)) + k_letDown (fun k => v (20 + k)) (nI (d % 3))
def d_en (v : Nat → Int32) (d : Nat) : Int32 := k_energy (fun k => v (10 + k)) (nI (d / 3)) + k_energy (fun k => v (20 + k)) (nI (d % 3))
def d_meas (v : Nat → Int32) (f : Nat → Nat → Int32) (h d : Nat) : Nat → Nat → Int32 := va_up (va_up (va_up f 18 (upd (f 18) (h * 9 + d) (d_en v d))) 19 (upd (f 19) (h * 9 + d) (f 13 h - d_drop v d))) 20 (upd (f 20) (h * 9 + d) (d_drop v d - f 14 h))
set_option maxHeartbeats 4000000 in
set_option maxRecDepth 100000 in
theorem c_X0_measure (l : Launch) (E : GG) (r : Nat → Nat) (v : Nat → Int32) (f : Nat → Nat → Int32) (sz : Nat) (h : Nat) (d : Nat) (hh : h < 24) (hd : d < 9) : Met l yX0_measure wsX0_measure (Rm 1 0 0) (pM E [.ref (r 4), .int (nI h), .int (nI d)] (DW E r v f) sz) (va_Qv (fun (F : Nat → Nat → Int32) => F = d_meas v f h d) (bM E (va_A (DW E r v f) sz) (fun (F : Nat → Nat → Int32) => DW E r v F)) (va_A (DW E r v f) sz)) 0 0 (va_A (DW E r v f) sz) := by
  refine ofM (by decide) rfl (Nat.le_of_ble_eq_true rfl) ?_
  intro p e s m below meth c A hx hb hr hlocks hml hown hin hts hK hP hD hS hA hsz hAe ls hl
  rw [← hAe]
  have hl : lv_has ls 7 [(0, .ref (r 4)), (1, .int (nI h)), (2, .int (nI d))] := hl
  refine lv_iload_n hx hb dX0_measure_0 rfl (lv_at hl 1 rfl) ?_
  refine lv_bipush (v := 9) hx hb dX0_measure_1 (by decide) ?_
  refine lv_imul hx hb dX0_measure_3 ?_
  refine w_top (show ((nI h) * 9) = (nI (h * 9)) from pk_mul _ _) ?_
  refine lv_iload_n hx hb dX0_measure_4 rfl (lv_at hl 2 rfl) ?_
  refine lv_iadd hx hb dX0_measure_5 ?_
  refine w_top (show ((nI (h * 9)) + (nI d)) = (nI ((h * 9) + d)) from nI_add _ _) ?_
  refine lv_istore_n (lv' := [(3, .int (nI ((h * 9) + d))), (0, .ref (r 4)), (1, .int (nI h)), (2, .int (nI d))]) hx hb dX0_measure_6 rfl hl (by decide) rfl (fun ls hl => ?_)
  refine lv_iload_n hx hb dX0_measure_7 rfl (lv_at hl 3 rfl) ?_
  refine lv_iconst (v := 3) hx hb dX0_measure_8 (by decide) ?_
  refine lv_idiv hx hb dX0_measure_9 (by decide) ?_
  refine w_top (show ((nI d) / 3) = (nI (d / 3)) from pk_div (a := d) (d := 3) (by omega) (by decide) (by decide)) ?_
  refine lv_istore (lv' := [(4, .int (nI (d / 3))), (3, .int (nI ((h * 9) + d))), (0, .ref (r 4)), (1, .int (nI h)), (2, .int (nI d))]) hx hb dX0_measure_10 hl (by decide) rfl (fun ls hl => ?_)
  refine lv_iload_n hx hb dX0_measure_12 rfl (lv_at hl 4 rfl) ?_
  refine lv_iconst (v := 3) hx hb dX0_measure_13 (by decide) ?_
  refine lv_irem hx hb dX0_measure_14 (by decide) ?_
  refine w_top (show ((nI d) - (nI d) / 3 * 3) = (nI (d % 3)) from pk_rem (a := d) (d := 3) (by omega) (by decide) (by decide)) ?_
  refine lv_istore (lv' := [(5, .int (nI (d % 3))), (4, .int (nI (d / 3))), (3, .int (nI ((h * 9) + d))), (0, .ref (r 4)), (1, .int (nI h)), (2, .int (nI d))]) hx hb dX0_measure_15 hl (by decide) rfl (fun ls hl => ?_)
  refine lv_aload_n hx hb dX0_measure_17 rfl (lv_at hl 3 rfl) ?_
  refine va_get (D := E.1) (ci := 0) (v := .ref (r 2)) (C := RX0) (T := TX0) (N := 9) hx hb hts (fun _ h => (List.mem_cons_of_mem _ (List.mem_append_left _ (List.mem_append_left _ (List.mem_append_right _ h))))) hown hK.1 hP 0 rfl rfl 1 (by decide) (hts _ (List.mem_of_getElem? (i := 1) rfl)) (fun _ h9 => h9) rfl dX0_measure_18 ?_
  refine lv_iload hx hb dX0_measure_21 (lv_at hl 1 rfl) ?_
  refine cR_VN ⟨hx, hb, hml, hown, hts⟩ (c_X2_letDown l E (r 2) (r 16) (fun k => v (10 + k)) (f 16) (nI (d / 3))) ⟨(va_cnB 1 hts gX0_measure_X2_letDown_n82 rfl rfl rfl (hK.2.2 (RX0, 82, yX2_letDown) (List.mem_of_getElem? (i := 5) rfl)) (hts _ (List.mem_of_getElem? (i := 8) rfl)) (by decide +kernel) ⟨Nat.le_of_ble_eq_true rfl, Nat.le_of_ble_eq_true rfl⟩), (hts _ (List.mem_of_getElem? (i := 7) rfl)), (hts _ (List.mem_of_getElem? (i := 9) rfl))⟩ hK (hP.sub (ws' := KW E (r 2) (r 16) (fun k => v (10 + k)) (f 16)) [2, 7] rfl) 2 0 rfl rfl rfl hl.1 rfl (Nat.le_of_ble_eq_true rfl) dX0_measure_23 ⟨Nat.le_of_ble_eq_true rfl, Nat.le_of_ble_eq_true rfl⟩ ?_
  refine lv_aload_n hx hb dX0_measure_26 rfl (lv_at hl 3 rfl) ?_
  refine va_get (D := E.1) (ci := 0) (v := .ref (r 3)) (C := RX0) (T := TX0) (N := 9) hx hb hts (fun _ h => (List.mem_cons_of_mem _ (List.mem_append_left _ (List.mem_append_left _ (List.mem_append_right _ h))))) hown hK.1 hP 0 rfl rfl 2 (by decide) (hts _ (List.mem_of_getElem? (i := 2) rfl)) (fun _ h9 => h9) rfl dX0_measure_27 ?_
  refine lv_iload hx hb dX0_measure_30 (lv_at hl 0 rfl) ?_
  refine cR_VN ⟨hx, hb, hml, hown, hts⟩ (c_X2_letDown l E (r 3) (r 17) (fun k => v (20 + k)) (f 17) (nI (d % 3))) ⟨(va_cnB 1 hts gX0_measure_X2_letDown_n82 rfl rfl rfl (hK.2.2 (RX0, 82, yX2_letDown) (List.mem_of_getElem? (i := 5) rfl)) (hts _ (List.mem_of_getElem? (i := 8) rfl)) (by decide +kernel) ⟨Nat.le_of_ble_eq_true rfl, Nat.le_of_ble_eq_true rfl⟩), (hts _ (List.mem_of_getElem? (i := 7) rfl)), (hts _ (List.mem_of_getElem? (i := 9) rfl))⟩ hK (hP.sub (ws' := KW E (r 3) (r 17) (fun k => v (20 + k)) (f 17)) [3, 8] rfl) 2 0 rfl rfl rfl hl.1 rfl (Nat.le_of_ble_eq_true rfl) dX0_measure_32 ⟨Nat.le_of_ble_eq_true rfl, Nat.le_of_ble_eq_true rfl⟩ ?_
  refine lv_iadd hx hb dX0_measure_35 ?_
  refine lv_istore (lv' := [(6, .int ((k_letDown (fun k => v (10 + k)) (nI (d / 3))) + (k_letDown (fun k => v (20 + k)) (nI (d % 3))))), (5, .int (nI (d % 3))), (4, .int (nI (d / 3))), (3, .int (nI ((h * 9) + d))), (0, .ref (r 4)), (1, .int (nI h)), (2, .int (nI d))]) hx hb dX0_measure_36 hl (by decide) rfl (fun ls hl => ?_)
  refine lv_aload_n hx hb dX0_measure_38 rfl (lv_at hl 4 rfl) ?_
  refine va_get (D := E.1) (ci := 0) (v := .ref (r 18)) (C := RX0) (T := TX0) (N := 9) hx hb hts (fun _ h => (List.mem_cons_of_mem _ (List.mem_append_left _ (List.mem_append_left _ (List.mem_append_right _ h))))) hown hK.1 hP 0 rfl rfl 3 (by decide) (hts _ (List.mem_of_getElem? (i := 3) rfl)) (fun _ h9 => h9) rfl dX0_measure_39 ?_
  refine lv_iload_n hx hb dX0_measure_42 rfl (lv_at hl 3 rfl) ?_
  refine lv_aload_n hx hb dX0_measure_43 rfl (lv_at hl 4 rfl) ?_
  refine va_get (D := E.1) (ci := 0) (v := .ref (r 2)) (C := RX0) (T := TX0) (N := 9) hx hb hts (fun _ h => (List.mem_cons_of_mem _ (List.mem_append_left _ (List.mem_append_left _ (List.mem_append_right _ h))))) hown hK.1 hP 0 rfl rfl 1 (by decide) (hts _ (List.mem_of_getElem? (i := 1) rfl)) (fun _ h9 => h9) rfl dX0_measure_44 ?_
  refine lv_iload hx hb dX0_measure_47 (lv_at hl 2 rfl) ?_
  refine cR_VN ⟨hx, hb, hml, hown, hts⟩ (c_X2_energyOf l E (r 2) (r 16) (fun k => v (10 + k)) (f 16) (nI (d / 3))) ⟨(va_cnB 1 hts gX0_measure_X2_energyOf_n87 rfl rfl rfl (hK.2.2 (RX0, 87, yX2_energyOf) (List.mem_of_getElem? (i := 6) rfl)) (hts _ (List.mem_of_getElem? (i := 8) rfl)) (by decide +kernel) ⟨Nat.le_of_ble_eq_true rfl, Nat.le_of_ble_eq_true rfl⟩), (hts _ (List.mem_of_getElem? (i := 13) rfl)), (hts _ (List.mem_of_getElem? (i := 14) rfl))⟩ hK (hP.sub (ws' := KW E (r 2) (r 16) (fun k => v (10 + k)) (f 16)) [2, 7] rfl) 2 0 rfl rfl rfl hl.1 rfl (Nat.le_of_ble_eq_true rfl) dX0_measure_49 ⟨Nat.le_of_ble_eq_true rfl, Nat.le_of_ble_eq_true rfl⟩ ?_
  refine lv_aload_n hx hb dX0_measure_52 rfl (lv_at hl 4 rfl) ?_
  refine va_get (D := E.1) (ci := 0) (v := .ref (r 3)) (C := RX0) (T := TX0) (N := 9) hx hb hts (fun _ h => (List.mem_cons_of_mem _ (List.mem_append_left _ (List.mem_append_left _ (List.mem_append_right _ h))))) hown hK.1 hP 0 rfl rfl 2 (by decide) (hts _ (List.mem_of_getElem? (i := 2) rfl)) (fun _ h9 => h9) rfl dX0_measure_53 ?_
  refine lv_iload hx hb dX0_measure_56 (lv_at hl 1 rfl) ?_
  refine cR_VN ⟨hx, hb, hml, hown, hts⟩ (c_X2_energyOf l E (r 3) (r 17) (fun k => v (20 + k)) (f 17) (nI (d % 3))) ⟨(va_cnB 1 hts gX0_measure_X2_energyOf_n87 rfl rfl rfl (hK.2.2 (RX0, 87, yX2_energyOf) (List.mem_of_getElem? (i := 6) rfl)) (hts _ (List.mem_of_getElem? (i := 8) rfl)) (by decide +kernel) ⟨Nat.le_of_ble_eq_true rfl, Nat.le_of_ble_eq_true rfl⟩), (hts _ (List.mem_of_getElem? (i := 13) rfl)), (hts _ (List.mem_of_getElem? (i := 14) rfl))⟩ hK (hP.sub (ws' := KW E (r 3) (r 17) (fun k => v (20 + k)) (f 17)) [3, 8] rfl) 2 0 rfl rfl rfl hl.1 rfl (Nat.le_of_ble_eq_true rfl) dX0_measure_58 ⟨Nat.le_of_ble_eq_true rfl, Nat.le_of_ble_eq_true rfl⟩ ?_
  refine lv_iadd hx hb dX0_measure_61 ?_
  refine n_iast (f := f 18) hx hb hK.1 hP hD hS 9 0 rfl rfl (i := (h * 9) + d) (by omega) (by decide) dX0_measure_62 (fun H locs hP hD hS => ?_)
  have hP : va_P E.1 vwCl (DW E r v (va_up f 18 (upd (f 18) ((h * 9) + d) ((k_energy (fun k => v (10 + k)) (nI (d / 3))) + (k_energy (fun k => v (20 + k)) (nI (d % 3))))))) H := hP
  have hD : va_D A (DW E r v (va_up f 18 (upd (f 18) ((h * 9) + d) ((k_energy (fun k => v (10 + k)) (nI (d / 3))) + (k_energy (fun k => v (20 + k)) (nI (d % 3))))))) := hD
  refine lv_aload_n hx hb dX0_measure_63 rfl (lv_at hl 4 rfl) ?_
  refine va_get (D := E.1) (ci := 0) (v := .ref (r 19)) (C := RX0) (T := TX0) (N := 9) hx hb hts (fun _ h => (List.mem_cons_of_mem _ (List.mem_append_left _ (List.mem_append_left _ (List.mem_append_right _ h))))) hown hK.1 hP 0 rfl rfl 4 (by decide) (hts _ (List.mem_of_getElem? (i := 4) rfl)) (fun _ h9 => h9) rfl dX0_measure_64 ?_
  refine lv_iload_n hx hb dX0_measure_67 rfl (lv_at hl 3 rfl) ?_
  refine lv_aload_n hx hb dX0_measure_68 rfl (lv_at hl 4 rfl) ?_
  refine va_get (D := E.1) (ci := 0) (v := .ref (r 1)) (C := RX0) (T := TX0) (N := 9) hx hb hts (fun _ h => (List.mem_cons_of_mem _ (List.mem_append_left _ (List.mem_append_left _ (List.mem_append_right _ h))))) hown hK.1 hP 0 rfl rfl 0 (by decide) (hts _ (List.mem_of_getElem? (i := 5) rfl)) (fun _ h9 => h9) rfl dX0_measure_69 ?_
  refine va_getN (D := E.1) (ci := 1) (v := .ref (r 13)) (C := RX1) (T := TX1) (N := 9) (host := "TwoLakes") (ref := RX1) hx hb hts (fun _ h => (List.mem_cons_of_mem _ (List.mem_append_left _ (List.mem_append_right _ h)))) hown hK.1 hP 1 rfl rfl 6 (by decide) (va_Nw.use rfl (hK.2.1 (RX0, 45, RX1, "inflow", "[I") (List.mem_of_getElem? (i := 8) rfl))) (fun _ h9 => h9) rfl dX0_measure_72 ?_
  refine lv_iload_n hx hb dX0_measure_75 rfl (lv_at hl 5 rfl) ?_
  refine n_iald (f := f 13) hx hb hK.1 hP 4 0 rfl rfl (i := h) (by omega) (by decide) dX0_measure_76 ?_
  refine lv_iload hx hb dX0_measure_77 (lv_at hl 0 rfl) ?_
  refine lv_isub hx hb dX0_measure_79 ?_
  refine n_iast (f := f 19) hx hb hK.1 hP hD hS 10 0 rfl rfl (i := (h * 9) + d) (by omega) (by decide) dX0_measure_80 (fun H locs hP hD hS => ?_)
  have hP : va_P E.1 vwCl (DW E r v (va_up (va_up f 18 (upd (f 18) ((h * 9) + d) ((k_energy (fun k => v (10 + k)) (nI (d / 3))) + (k_energy (fun k => v (20 + k)) (nI (d % 3)))))) 19 (upd (f 19) ((h * 9) + d) ((f 13 h) - ((k_letDown (fun k => v (10 + k)) (nI (d / 3))) + (k_letDown (fun k => v (20 + k)) (nI (d % 3)))))))) H := hP
  have hD : va_D A (DW E r v (va_up (va_up f 18 (upd (f 18) ((h * 9) + d) ((k_energy (fun k => v (10 + k)) (nI (d / 3))) + (k_energy (fun k => v (20 + k)) (nI (d % 3)))))) 19 (upd (f 19) ((h * 9) + d) ((f 13 h) - ((k_letDown (fun k => v (10 + k)) (nI (d / 3))) + (k_letDown (fun k => v (20 + k)) (nI (d % 3)))))))) := hD
  refine lv_aload_n hx hb dX0_measure_81 rfl (lv_at hl 4 rfl) ?_
  refine va_get (D := E.1) (ci := 0) (v := .ref (r 20)) (C := RX0) (T := TX0) (N := 9) hx hb hts (fun _ h => (List.mem_cons_of_mem _ (List.mem_append_left _ (List.mem_append_left _ (List.mem_append_right _ h))))) hown hK.1 hP 0 rfl rfl 5 (by decide) (hts _ (List.mem_of_getElem? (i := 6) rfl)) (fun _ h9 => h9) rfl dX0_measure_82 ?_
  refine lv_iload_n hx hb dX0_measure_85 rfl (lv_at hl 3 rfl) ?_
  refine lv_iload hx hb dX0_measure_86 (lv_at hl 0 rfl) ?_
  refine lv_aload_n hx hb dX0_measure_88 rfl (lv_at hl 4 rfl) ?_
  refine va_get (D := E.1) (ci := 0) (v := .ref (r 1)) (C := RX0) (T := TX0) (N := 9) hx hb hts (fun _ h => (List.mem_cons_of_mem _ (List.mem_append_left _ (List.mem_append_left _ (List.mem_append_right _ h))))) hown hK.1 hP 0 rfl rfl 0 (by decide) (hts _ (List.mem_of_getElem? (i := 5) rfl)) (fun _ h9 => h9) rfl dX0_measure_89 ?_
  refine va_getN (D := E.1) (ci := 1) (v := .ref (r 14)) (C := RX1) (T := TX1) (N := 9) (host := "TwoLakes") (ref := RX1) hx hb hts (fun _ h => (List.mem_cons_of_mem _ (List.mem_append_left _ (List.mem_append_right _ h)))) hown hK.1 hP 1 rfl rfl 7 (by decide) (va_Nw.use rfl (hK.2.1 (RX0, 50, RX1, "outflow", "[I") (List.mem_of_getElem? (i := 10) rfl))) (fun _ h9 => h9) rfl dX0_measure_92 ?_
  refine lv_iload_n hx hb dX0_measure_95 rfl (lv_at hl 5 rfl) ?_
  refine n_iald (f := f 14) hx hb hK.1 hP 5 0 rfl rfl (i := h) (by omega) (by decide) dX0_measure_96 ?_
  refine lv_isub hx hb dX0_measure_97 ?_
  refine n_iast (f := f 20) hx hb hK.1 hP hD hS 11 0 rfl rfl (i := (h * 9) + d) (by omega) (by decide) dX0_measure_98 (fun H locs hP hD hS => ?_)
  have hP : va_P E.1 vwCl (DW E r v (va_up (va_up (va_up f 18 (upd (f 18) ((h * 9) + d) ((k_energy (fun k => v (10 + k)) (nI (d / 3))) + (k_energy (fun k => v (20 + k)) (nI (d % 3)))))) 19 (upd (f 19) ((h * 9) + d) ((f 13 h) - ((k_letDown (fun k => v (10 + k)) (nI (d / 3))) + (k_letDown (fun k => v (20 + k)) (nI (d % 3))))))) 20 (upd (f 20) ((h * 9) + d) (((k_letDown (fun k => v (10 + k)) (nI (d / 3))) + (k_letDown (fun k => v (20 + k)) (nI (d % 3)))) - (f 14 h))))) H := hP
  have hD : va_D A (DW E r v (va_up (va_up (va_up f 18 (upd (f 18) ((h * 9) + d) ((k_energy (fun k => v (10 + k)) (nI (d / 3))) + (k_energy (fun k => v (20 + k)) (nI (d % 3)))))) 19 (upd (f 19) ((h * 9) + d) ((f 13 h) - ((k_letDown (fun k => v (10 + k)) (nI (d / 3))) + (k_letDown (fun k => v (20 + k)) (nI (d % 3))))))) 20 (upd (f 20) ((h * 9) + d) (((k_letDown (fun k => v (10 + k)) (nI (d / 3))) + (k_letDown (fun k => v (20 + k)) (nI (d % 3)))) - (f 14 h))))) := hD
  exact qv_ret ((va_up (va_up (va_up f 18 (upd (f 18) ((h * 9) + d) ((k_energy (fun k => v (10 + k)) (nI (d / 3))) + (k_energy (fun k => v (20 + k)) (nI (d % 3)))))) 19 (upd (f 19) ((h * 9) + d) ((f 13 h) - ((k_letDown (fun k => v (10 + k)) (nI (d / 3))) + (k_letDown (fun k => v (20 + k)) (nI (d % 3))))))) 20 (upd (f 20) ((h * 9) + d) (((k_letDown (fun k => v (10 + k)) (nI (d / 3))) + (k_letDown (fun k => v (20 + k)) (nI (d % 3)))) - (f 14 h)))) : Nat → Nat → Int32) hx hb hr hlocks rfl hP hD hS dX0_measure_99
