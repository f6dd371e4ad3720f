set_option maxHeartbeats 4000000 in
set_option maxRecDepth 100000 in
theorem c_X2_init (l : Launch) (E : GG) (h0 : Nat) (sz : Nat)   : Met l yX2_init wsX2_init (Rm 1 1 24) (pM E [.ref h0] ([(h0, .inr (2, [.int 0, .int 0, .int 0, .int 0, .int 0, .int 0, .int 0, .null]))]) sz) (va_Qv (fun (_ : Nat → Nat) => True) (bM E (va_A ([(h0, .inr (2, [.int 0, .int 0, .int 0, .int 0, .int 0, .int 0, .int 0, .null]))]) sz) (fun (u : Nat → Nat) => [(h0, .inr (2, [.int 3, .int 10, .int 2, .int 10, .int 5, .int 0, .int 0, .ref (u 0)])), (u 0, .inl (E.2 1, 24, .inl (fun _ => 0)))])) (va_A ([(h0, .inr (2, [.int 0, .int 0, .int 0, .int 0, .int 0, .int 0, .int 0, .null]))]) sz)) 1 24 (va_A ([(h0, .inr (2, [.int 0, .int 0, .int 0, .int 0, .int 0, .int 0, .int 0, .null]))]) sz) := by
  refine ofM (by decide) rfl (Nat.le_of_ble_eq_true rfl) ?_
  intro p e s m below meth c A hx hb hr hlocks hml hown hin hts hK hP hD hS hA hsz hAe ls hl
  rw [← hAe]
  have hin := hin rfl
  have hl : lv_has ls 1 [(0, .ref h0)] := hl
  refine lv_aload_n hx hb dX2_init_0 rfl (lv_at hl 0 rfl) ?_
  refine W.objInit hx hb hown (hts _ (List.mem_of_getElem? (i := 1) rfl)) (hts _ (List.mem_of_getElem? (i := 2) rfl)) (hts _ (List.mem_of_getElem? (i := 3) rfl)) rfl (by rw [hml]; exact hl.1) rfl dX2_init_1 (Nat.le_of_ble_eq_true rfl) (Nat.le_of_ble_eq_true rfl) ?_
  refine W.eq (g2 := F0 m 4 ls []) rfl ?_
  refine lv_aload_n hx hb dX2_init_4 rfl (lv_at hl 0 rfl) ?_
  refine lv_iconst (v := 3) hx hb dX2_init_5 (by decide) ?_
  refine va_put (D := E.1) (ci := 2) (v := .int 3) (ty := .int) (C := RX2) (T := TX2) (N := 8) hx hb hts (fun _ h => (List.mem_cons_of_mem _ (List.mem_append_right _ h))) tyX2 tyX2_ok nmX2 hown hK.1 hP hD hS 0 rfl rfl 0 (by decide) (hts _ (List.mem_of_getElem? (i := 4) rfl)) (fun _ h9 => h9) rfl (by decide +kernel) rfl rfl (Nat.le_of_ble_eq_true rfl) dX2_init_6 (fun H locs hP hD hS => ?_)
  have hP : va_P E.1 vwCl [(h0, .inr (2, [.int 3, .int 0, .int 0, .int 0, .int 0, .int 0, .int 0, .null]))] H := hP
  have hD : va_D A [(h0, .inr (2, [.int 3, .int 0, .int 0, .int 0, .int 0, .int 0, .int 0, .null]))] := hD
  refine lv_aload_n hx hb dX2_init_9 rfl (lv_at hl 0 rfl) ?_
  refine lv_bipush (v := 10) hx hb dX2_init_10 (by decide) ?_
  refine va_put (D := E.1) (ci := 2) (v := .int 10) (ty := .int) (C := RX2) (T := TX2) (N := 8) hx hb hts (fun _ h => (List.mem_cons_of_mem _ (List.mem_append_right _ h))) tyX2 tyX2_ok nmX2 hown hK.1 hP hD hS 0 rfl rfl 1 (by decide) (hts _ (List.mem_of_getElem? (i := 5) rfl)) (fun _ h9 => h9) rfl (by decide +kernel) rfl rfl (Nat.le_of_ble_eq_true rfl) dX2_init_12 (fun H locs hP hD hS => ?_)
  have hP : va_P E.1 vwCl [(h0, .inr (2, [.int 3, .int 10, .int 0, .int 0, .int 0, .int 0, .int 0, .null]))] H := hP
  have hD : va_D A [(h0, .inr (2, [.int 3, .int 10, .int 0, .int 0, .int 0, .int 0, .int 0, .null]))] := hD
  refine lv_aload_n hx hb dX2_init_15 rfl (lv_at hl 0 rfl) ?_
  refine lv_iconst (v := 2) hx hb dX2_init_16 (by decide) ?_
  refine va_put (D := E.1) (ci := 2) (v := .int 2) (ty := .int) (C := RX2) (T := TX2) (N := 8) hx hb hts (fun _ h => (List.mem_cons_of_mem _ (List.mem_append_right _ h))) tyX2 tyX2_ok nmX2 hown hK.1 hP hD hS 0 rfl rfl 2 (by decide) (hts _ (List.mem_of_getElem? (i := 6) rfl)) (fun _ h9 => h9) rfl (by decide +kernel) rfl rfl (Nat.le_of_ble_eq_true rfl) dX2_init_17 (fun H locs hP hD hS => ?_)
  have hP : va_P E.1 vwCl [(h0, .inr (2, [.int 3, .int 10, .int 2, .int 0, .int 0, .int 0, .int 0, .null]))] H := hP
  have hD : va_D A [(h0, .inr (2, [.int 3, .int 10, .int 2, .int 0, .int 0, .int 0, .int 0, .null]))] := hD
  refine lv_aload_n hx hb dX2_init_20 rfl (lv_at hl 0 rfl) ?_
  refine lv_bipush (v := 10) hx hb dX2_init_21 (by decide) ?_
  refine va_put (D := E.1) (ci := 2) (v := .int 10) (ty := .int) (C := RX2) (T := TX2) (N := 8) hx hb hts (fun _ h => (List.mem_cons_of_mem _ (List.mem_append_right _ h))) tyX2 tyX2_ok nmX2 hown hK.1 hP hD hS 0 rfl rfl 3 (by decide) (hts _ (List.mem_of_getElem? (i := 7) rfl)) (fun _ h9 => h9) rfl (by decide +kernel) rfl rfl (Nat.le_of_ble_eq_true rfl) dX2_init_23 (fun H locs hP hD hS => ?_)
  have hP : va_P E.1 vwCl [(h0, .inr (2, [.int 3, .int 10, .int 2, .int 10, .int 0, .int 0, .int 0, .null]))] H := hP
  have hD : va_D A [(h0, .inr (2, [.int 3, .int 10, .int 2, .int 10, .int 0, .int 0, .int 0, .null]))] := hD
  refine lv_aload_n hx hb dX2_init_26 rfl (lv_at hl 0 rfl) ?_
  refine lv_iconst (v := 5) hx hb dX2_init_27 (by decide) ?_
  refine va_put (D := E.1) (ci := 2) (v := .int 5) (ty := .int) (C := RX2) (T := TX2) (N := 8) hx hb hts (fun _ h => (List.mem_cons_of_mem _ (List.mem_append_right _ h))) tyX2 tyX2_ok nmX2 hown hK.1 hP hD hS 0 rfl rfl 4 (by decide) (hts _ (List.mem_of_getElem? (i := 8) rfl)) (fun _ h9 => h9) rfl (by decide +kernel) rfl rfl (Nat.le_of_ble_eq_true rfl) dX2_init_28 (fun H locs hP hD hS => ?_)
  have hP : va_P E.1 vwCl [(h0, .inr (2, [.int 3, .int 10, .int 2, .int 10, .int 5, .int 0, .int 0, .null]))] H := hP
  have hD : va_D A [(h0, .inr (2, [.int 3, .int 10, .int 2, .int 10, .int 5, .int 0, .int 0, .null]))] := hD
  refine lv_aload_n hx hb dX2_init_31 rfl (lv_at hl 0 rfl) ?_
  refine lv_iconst (v := 0) hx hb dX2_init_32 (by decide) ?_
  refine va_put (D := E.1) (ci := 2) (v := .int 0) (ty := .int) (C := RX2) (T := TX2) (N := 8) hx hb hts (fun _ h => (List.mem_cons_of_mem _ (List.mem_append_right _ h))) tyX2 tyX2_ok nmX2 hown hK.1 hP hD hS 0 rfl rfl 5 (by decide) (hts _ (List.mem_of_getElem? (i := 9) rfl)) (fun _ h9 => h9) rfl (by decide +kernel) rfl rfl (Nat.le_of_ble_eq_true rfl) dX2_init_33 (fun H locs hP hD hS => ?_)
  have hP : va_P E.1 vwCl [(h0, .inr (2, [.int 3, .int 10, .int 2, .int 10, .int 5, .int 0, .int 0, .null]))] H := hP
  have hD : va_D A [(h0, .inr (2, [.int 3, .int 10, .int 2, .int 10, .int 5, .int 0, .int 0, .null]))] := hD
  refine lv_aload_n hx hb dX2_init_36 rfl (lv_at hl 0 rfl) ?_
  refine lv_iconst (v := 0) hx hb dX2_init_37 (by decide) ?_
  refine va_put (D := E.1) (ci := 2) (v := .int 0) (ty := .int) (C := RX2) (T := TX2) (N := 8) hx hb hts (fun _ h => (List.mem_cons_of_mem _ (List.mem_append_right _ h))) tyX2 tyX2_ok nmX2 hown hK.1 hP hD hS 0 rfl rfl 6 (by decide) (hts _ (List.mem_of_getElem? (i := 10) rfl)) (fun _ h9 => h9) rfl (by decide +kernel) rfl rfl (Nat.le_of_ble_eq_true rfl) dX2_init_38 (fun H locs hP hD hS => ?_)
  have hP : va_P E.1 vwCl [(h0, .inr (2, [.int 3, .int 10, .int 2, .int 10, .int 5, .int 0, .int 0, .null]))] H := hP
  have hD : va_D A [(h0, .inr (2, [.int 3, .int 10, .int 2, .int 10, .int 5, .int 0, .int 0, .null]))] := hD
  refine lv_aload_n hx hb dX2_init_41 rfl (lv_at hl 0 rfl) ?_
  refine lv_bipush (v := 24) hx hb dX2_init_42 (by decide) ?_
  refine n_newZ (N := 24) hx hb (hts _ (List.mem_of_getElem? (i := 11) rfl)) hK hP hD hS hA (by decide) (by decide) (by decide) (Nat.le_of_ble_eq_true rfl) (Nat.le_of_ble_eq_true rfl) dX2_init_44 (fun q_1 H hP hD hS => ?_)
  have hP : va_P E.1 vwCl [(h0, .inr (2, [.int 3, .int 10, .int 2, .int 10, .int 5, .int 0, .int 0, .null])), (q_1, .inl (E.2 1, 24, .inl (fun _ => 0)))] H := hP
  have hD : va_D A [(h0, .inr (2, [.int 3, .int 10, .int 2, .int 10, .int 5, .int 0, .int 0, .null])), (q_1, .inl (E.2 1, 24, .inl (fun _ => 0)))] := hD
  refine va_putF (D := E.1) (ci := 2) (v := .ref q_1) (ty := .array .boolean) (C := RX2) (T := TX2) (N := 8) hx hb hts (fun _ h => (List.mem_cons_of_mem _ (List.mem_append_right _ h))) tyX2 tyX2_ok nmX2 hown hK.1 hP hD hS 0 rfl rfl 7 (by decide) (hts _ (List.mem_of_getElem? (i := 12) rfl)) (fun _ h9 => h9) rfl hin rfl (by decide +kernel) rfl rfl (Nat.le_of_ble_eq_true rfl) dX2_init_46 (fun H locs hP hD hS => ?_)
  have hP : va_P E.1 vwCl [(h0, .inr (2, [.int 3, .int 10, .int 2, .int 10, .int 5, .int 0, .int 0, .ref q_1])), (q_1, .inl (E.2 1, 24, .inl (fun _ => 0)))] H := hP
  have hD : va_D A [(h0, .inr (2, [.int 3, .int 10, .int 2, .int 10, .int 5, .int 0, .int 0, .ref q_1])), (q_1, .inl (E.2 1, 24, .inl (fun _ => 0)))] := hD
  refine W.widen (k := 1) (n := 24) (Nat.le_of_ble_eq_true rfl) (Nat.le_of_ble_eq_true rfl) ?_
  exact qv_ret ((fun k => match k with | _ => q_1) : Nat → Nat) hx hb hr hlocks trivial hP hD hS dX2_init_49
