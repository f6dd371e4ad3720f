set_option maxHeartbeats 4000000 in
set_option maxRecDepth 100000 in
theorem c_X3_init (l : Launch) (E : GG) (h0 : Nat) (sz : Nat)   : Met l yX3_init wsX3_init (Rm 1 4 1131) (pM E [.ref h0] ([(h0, .inr (3, [.null, .int 0, .null, .null, .null]))]) sz) (va_Qv (fun (_ : Nat → Nat) => True) (bM E (va_A ([(h0, .inr (3, [.null, .int 0, .null, .null, .null]))]) sz) (fun (u : Nat → Nat) => [(h0, .inr (3, [.ref (u 0), .int 1, .ref (u 1), .ref (u 2), .ref (u 3)])), (u 0, .inl (E.2 0, 24, .inl (fun _ => 10))), (u 1, .inl (E.2 0, 369, .inl (fun _ => 0))), (u 2, .inl (E.2 0, 369, .inl (fun _ => 0))), (u 3, .inl (E.2 0, 369, .inl (fun _ => 0)))])) (va_A ([(h0, .inr (3, [.null, .int 0, .null, .null, .null]))]) sz)) 4 1131 (va_A ([(h0, .inr (3, [.null, .int 0, .null, .null, .null]))]) sz) := by
  refine ofM (by decide) rfl (Nat.le_of_ble_eq_true rfl) ?_
  intro p e s m below meth c A hx hb hr hlocks hml hown hin hts hK hP hD hS hA hsz hAe ls hl
  rw [← hAe]
  have hin := hin rfl
  have hl : lv_has ls 1 [(0, .ref h0)] := hl
  refine lv_aload_n hx hb dX3_init_0 rfl (lv_at hl 0 rfl) ?_
  refine W.objInit hx hb hown (hts _ (List.mem_of_getElem? (i := 1) rfl)) (hts _ (List.mem_of_getElem? (i := 2) rfl)) (hts _ (List.mem_of_getElem? (i := 3) rfl)) rfl (by rw [hml]; exact hl.1) rfl dX3_init_1 (Nat.le_of_ble_eq_true rfl) (Nat.le_of_ble_eq_true rfl) ?_
  refine W.eq (g2 := F0 m 4 ls []) rfl ?_
  refine lv_aload_n hx hb dX3_init_4 rfl (lv_at hl 0 rfl) ?_
  refine lv_bipush (v := 24) hx hb dX3_init_5 (by decide) ?_
  refine n_newI (N := 24) hx hb (hts _ (List.mem_of_getElem? (i := 4) rfl)) hK hP hD hS hA (by decide) (by decide) (by decide) (Nat.le_of_ble_eq_true rfl) (Nat.le_of_ble_eq_true rfl) dX3_init_7 (fun q_1 H hP hD hS => ?_)
  have hP : va_P E.1 vwCl [(h0, .inr (3, [.null, .int 0, .null, .null, .null])), (q_1, .inl (E.2 0, 24, .inl (fun _ => 0)))] H := hP
  have hD : va_D A [(h0, .inr (3, [.null, .int 0, .null, .null, .null])), (q_1, .inl (E.2 0, 24, .inl (fun _ => 0)))] := hD
  refine va_putF (D := E.1) (ci := 3) (v := .ref q_1) (ty := .array .int) (C := RX3) (T := TX3) (N := 5) hx hb hts (fun _ h => (List.mem_cons_of_mem _ (List.mem_append_right _ h))) tyX3 tyX3_ok nmX3 hown hK.1 hP hD hS 0 rfl rfl 0 (by decide) (hts _ (List.mem_of_getElem? (i := 5) rfl)) (fun _ h9 => h9) rfl hin rfl (by decide +kernel) rfl rfl (Nat.le_of_ble_eq_true rfl) dX3_init_9 (fun H locs hP hD hS => ?_)
  have hP : va_P E.1 vwCl [(h0, .inr (3, [.ref q_1, .int 0, .null, .null, .null])), (q_1, .inl (E.2 0, 24, .inl (fun _ => 0)))] H := hP
  have hD : va_D A [(h0, .inr (3, [.ref q_1, .int 0, .null, .null, .null])), (q_1, .inl (E.2 0, 24, .inl (fun _ => 0)))] := hD
  refine lv_aload_n hx hb dX3_init_12 rfl (lv_at hl 0 rfl) ?_
  refine lv_iconst (v := 1) hx hb dX3_init_13 (by decide) ?_
  refine va_put (D := E.1) (ci := 3) (v := .int 1) (ty := .int) (C := RX3) (T := TX3) (N := 5) hx hb hts (fun _ h => (List.mem_cons_of_mem _ (List.mem_append_right _ h))) tyX3 tyX3_ok nmX3 hown hK.1 hP hD hS 0 rfl rfl 1 (by decide) (hts _ (List.mem_of_getElem? (i := 6) rfl)) (fun _ h9 => h9) rfl (by decide +kernel) rfl rfl (Nat.le_of_ble_eq_true rfl) dX3_init_14 (fun H locs hP hD hS => ?_)
  have hP : va_P E.1 vwCl [(h0, .inr (3, [.ref q_1, .int 1, .null, .null, .null])), (q_1, .inl (E.2 0, 24, .inl (fun _ => 0)))] H := hP
  have hD : va_D A [(h0, .inr (3, [.ref q_1, .int 1, .null, .null, .null])), (q_1, .inl (E.2 0, 24, .inl (fun _ => 0)))] := hD
  refine lv_aload_n hx hb dX3_init_17 rfl (lv_at hl 0 rfl) ?_
  refine lv_sipush (v := 369) hx hb dX3_init_18 (by decide) ?_
  refine n_newI (N := 369) hx hb (hts _ (List.mem_of_getElem? (i := 4) rfl)) hK hP hD hS hA (by decide) (by decide) (by decide) (Nat.le_of_ble_eq_true rfl) (Nat.le_of_ble_eq_true rfl) dX3_init_21 (fun q_2 H hP hD hS => ?_)
  have hP : va_P E.1 vwCl [(h0, .inr (3, [.ref q_1, .int 1, .null, .null, .null])), (q_1, .inl (E.2 0, 24, .inl (fun _ => 0))), (q_2, .inl (E.2 0, 369, .inl (fun _ => 0)))] H := hP
  have hD : va_D A [(h0, .inr (3, [.ref q_1, .int 1, .null, .null, .null])), (q_1, .inl (E.2 0, 24, .inl (fun _ => 0))), (q_2, .inl (E.2 0, 369, .inl (fun _ => 0)))] := hD
  refine va_put (D := E.1) (ci := 3) (v := .ref q_2) (ty := .array .int) (C := RX3) (T := TX3) (N := 5) hx hb hts (fun _ h => (List.mem_cons_of_mem _ (List.mem_append_right _ h))) tyX3 tyX3_ok nmX3 hown hK.1 hP hD hS 0 rfl rfl 2 (by decide) (hts _ (List.mem_of_getElem? (i := 7) rfl)) (fun _ h9 => h9) rfl (by decide +kernel) rfl rfl (Nat.le_of_ble_eq_true rfl) dX3_init_23 (fun H locs hP hD hS => ?_)
  have hP : va_P E.1 vwCl [(h0, .inr (3, [.ref q_1, .int 1, .ref q_2, .null, .null])), (q_1, .inl (E.2 0, 24, .inl (fun _ => 0))), (q_2, .inl (E.2 0, 369, .inl (fun _ => 0)))] H := hP
  have hD : va_D A [(h0, .inr (3, [.ref q_1, .int 1, .ref q_2, .null, .null])), (q_1, .inl (E.2 0, 24, .inl (fun _ => 0))), (q_2, .inl (E.2 0, 369, .inl (fun _ => 0)))] := hD
  refine lv_aload_n hx hb dX3_init_26 rfl (lv_at hl 0 rfl) ?_
  refine lv_sipush (v := 369) hx hb dX3_init_27 (by decide) ?_
  refine n_newI (N := 369) hx hb (hts _ (List.mem_of_getElem? (i := 4) rfl)) hK hP hD hS hA (by decide) (by decide) (by decide) (Nat.le_of_ble_eq_true rfl) (Nat.le_of_ble_eq_true rfl) dX3_init_30 (fun q_3 H hP hD hS => ?_)
  have hP : va_P E.1 vwCl [(h0, .inr (3, [.ref q_1, .int 1, .ref q_2, .null, .null])), (q_1, .inl (E.2 0, 24, .inl (fun _ => 0))), (q_2, .inl (E.2 0, 369, .inl (fun _ => 0))), (q_3, .inl (E.2 0, 369, .inl (fun _ => 0)))] H := hP
  have hD : va_D A [(h0, .inr (3, [.ref q_1, .int 1, .ref q_2, .null, .null])), (q_1, .inl (E.2 0, 24, .inl (fun _ => 0))), (q_2, .inl (E.2 0, 369, .inl (fun _ => 0))), (q_3, .inl (E.2 0, 369, .inl (fun _ => 0)))] := hD
  refine va_put (D := E.1) (ci := 3) (v := .ref q_3) (ty := .array .int) (C := RX3) (T := TX3) (N := 5) hx hb hts (fun _ h => (List.mem_cons_of_mem _ (List.mem_append_right _ h))) tyX3 tyX3_ok nmX3 hown hK.1 hP hD hS 0 rfl rfl 3 (by decide) (hts _ (List.mem_of_getElem? (i := 8) rfl)) (fun _ h9 => h9) rfl (by decide +kernel) rfl rfl (Nat.le_of_ble_eq_true rfl) dX3_init_32 (fun H locs hP hD hS => ?_)
  have hP : va_P E.1 vwCl [(h0, .inr (3, [.ref q_1, .int 1, .ref q_2, .ref q_3, .null])), (q_1, .inl (E.2 0, 24, .inl (fun _ => 0))), (q_2, .inl (E.2 0, 369, .inl (fun _ => 0))), (q_3, .inl (E.2 0, 369, .inl (fun _ => 0)))] H := hP
  have hD : va_D A [(h0, .inr (3, [.ref q_1, .int 1, .ref q_2, .ref q_3, .null])), (q_1, .inl (E.2 0, 24, .inl (fun _ => 0))), (q_2, .inl (E.2 0, 369, .inl (fun _ => 0))), (q_3, .inl (E.2 0, 369, .inl (fun _ => 0)))] := hD
  refine lv_aload_n hx hb dX3_init_35 rfl (lv_at hl 0 rfl) ?_
  refine lv_sipush (v := 369) hx hb dX3_init_36 (by decide) ?_
  refine n_newI (N := 369) hx hb (hts _ (List.mem_of_getElem? (i := 4) rfl)) hK hP hD hS hA (by decide) (by decide) (by decide) (Nat.le_of_ble_eq_true rfl) (Nat.le_of_ble_eq_true rfl) dX3_init_39 (fun q_4 H hP hD hS => ?_)
  have hP : va_P E.1 vwCl [(h0, .inr (3, [.ref q_1, .int 1, .ref q_2, .ref q_3, .null])), (q_1, .inl (E.2 0, 24, .inl (fun _ => 0))), (q_2, .inl (E.2 0, 369, .inl (fun _ => 0))), (q_3, .inl (E.2 0, 369, .inl (fun _ => 0))), (q_4, .inl (E.2 0, 369, .inl (fun _ => 0)))] H := hP
  have hD : va_D A [(h0, .inr (3, [.ref q_1, .int 1, .ref q_2, .ref q_3, .null])), (q_1, .inl (E.2 0, 24, .inl (fun _ => 0))), (q_2, .inl (E.2 0, 369, .inl (fun _ => 0))), (q_3, .inl (E.2 0, 369, .inl (fun _ => 0))), (q_4, .inl (E.2 0, 369, .inl (fun _ => 0)))] := hD
  refine va_putF (D := E.1) (ci := 3) (v := .ref q_4) (ty := .array .int) (C := RX3) (T := TX3) (N := 5) hx hb hts (fun _ h => (List.mem_cons_of_mem _ (List.mem_append_right _ h))) tyX3 tyX3_ok nmX3 hown hK.1 hP hD hS 0 rfl rfl 4 (by decide) (hts _ (List.mem_of_getElem? (i := 9) rfl)) (fun _ h9 => h9) rfl hin rfl (by decide +kernel) rfl rfl (Nat.le_of_ble_eq_true rfl) dX3_init_41 (fun H locs hP hD hS => ?_)
  have hP : va_P E.1 vwCl [(h0, .inr (3, [.ref q_1, .int 1, .ref q_2, .ref q_3, .ref q_4])), (q_1, .inl (E.2 0, 24, .inl (fun _ => 0))), (q_2, .inl (E.2 0, 369, .inl (fun _ => 0))), (q_3, .inl (E.2 0, 369, .inl (fun _ => 0))), (q_4, .inl (E.2 0, 369, .inl (fun _ => 0)))] H := hP
  have hD : va_D A [(h0, .inr (3, [.ref q_1, .int 1, .ref q_2, .ref q_3, .ref q_4])), (q_1, .inl (E.2 0, 24, .inl (fun _ => 0))), (q_2, .inl (E.2 0, 369, .inl (fun _ => 0))), (q_3, .inl (E.2 0, 369, .inl (fun _ => 0))), (q_4, .inl (E.2 0, 369, .inl (fun _ => 0)))] := hD
  refine lv_aload_n hx hb dX3_init_44 rfl (lv_at hl 0 rfl) ?_
  refine va_get (D := E.1) (ci := 3) (v := .ref q_1) (C := RX3) (T := TX3) (N := 5) hx hb hts (fun _ h => (List.mem_cons_of_mem _ (List.mem_append_right _ h))) hown hK.1 hP 0 rfl rfl 0 (by decide) (hts _ (List.mem_of_getElem? (i := 5) rfl)) (fun _ h9 => h9) rfl dX3_init_45 ?_
  refine lv_bipush (v := 10) hx hb dX3_init_48 (by decide) ?_
  refine cM_v (As := [.ref q_1, .int 10]) (wr := [(h0, .inr (3, [.ref q_1, .int 1, .ref q_2, .ref q_3, .ref q_4])), (q_2, .inl (E.2 0, 369, .inl (fun _ => 0))), (q_3, .inl (E.2 0, 369, .inl (fun _ => 0))), (q_4, .inl (E.2 0, 369, .inl (fun _ => 0)))]) (rM_S ⟨hx, hb, hml, hown, hts⟩ (c_J7_fill_53178 l E q_1 24 (fun _ => 0) H.size 10 (by decide)) (va_cwS 2 hts gX3_init_J7_fill_53178 rfl rfl rfl (by decide +kernel) ⟨Nat.le_of_ble_eq_true rfl, Nat.le_of_ble_eq_true rfl⟩) hK (hP.sub (ws' := [(q_1, .inl (E.2 0, 24, .inl (fun _ => 0)))]) [1] rfl) (hD.sub (ws' := [(q_1, .inl (E.2 0, 24, .inl (fun _ => 0)))]) [1] (by decide) rfl) rfl hl.1 rfl (Nat.le_of_ble_eq_true rfl) dX3_init_50 ⟨Nat.le_of_ble_eq_true rfl, Nat.le_of_ble_eq_true rfl⟩) hP hD hS hA [1] [0, 2, 3, 4] rfl rfl (by decide) (by decide) (fun u_5 H locs hq_5 hP hD hS => ?_)
  subst hq_5
  have hP := hP.sub (ws' := [(h0, .inr (3, [.ref q_1, .int 1, .ref q_2, .ref q_3, .ref q_4])), (q_1, .inl (E.2 0, 24, .inl (rowF (fun _ => 0) 0 24 10))), (q_2, .inl (E.2 0, 369, .inl (fun _ => 0))), (q_3, .inl (E.2 0, 369, .inl (fun _ => 0))), (q_4, .inl (E.2 0, 369, .inl (fun _ => 0)))]) [0, 4, 1, 2, 3] rfl
  have hD := hD.sub (ws' := [(h0, .inr (3, [.ref q_1, .int 1, .ref q_2, .ref q_3, .ref q_4])), (q_1, .inl (E.2 0, 24, .inl (rowF (fun _ => 0) 0 24 10))), (q_2, .inl (E.2 0, 369, .inl (fun _ => 0))), (q_3, .inl (E.2 0, 369, .inl (fun _ => 0))), (q_4, .inl (E.2 0, 369, .inl (fun _ => 0)))]) [0, 4, 1, 2, 3] (by decide) rfl
  have hP := P_row hP hD 1 (fun _ => 10) rfl (fun i h => rowF_all i h)
  have hD := hD.set (e := .inl (E.2 0, 24, .inl (fun _ => 10))) (p := 1) rfl
  have hP : va_P E.1 vwCl [(h0, .inr (3, [.ref q_1, .int 1, .ref q_2, .ref q_3, .ref q_4])), (q_1, .inl (E.2 0, 24, .inl (fun _ => 10))), (q_2, .inl (E.2 0, 369, .inl (fun _ => 0))), (q_3, .inl (E.2 0, 369, .inl (fun _ => 0))), (q_4, .inl (E.2 0, 369, .inl (fun _ => 0)))] H := hP
  have hD : va_D A [(h0, .inr (3, [.ref q_1, .int 1, .ref q_2, .ref q_3, .ref q_4])), (q_1, .inl (E.2 0, 24, .inl (fun _ => 10))), (q_2, .inl (E.2 0, 369, .inl (fun _ => 0))), (q_3, .inl (E.2 0, 369, .inl (fun _ => 0))), (q_4, .inl (E.2 0, 369, .inl (fun _ => 0)))] := hD
  refine W.widen (k := 4) (n := 1131) (Nat.le_of_ble_eq_true rfl) (Nat.le_of_ble_eq_true rfl) ?_
  exact qv_ret ((fun k => match k with | 0 => q_1 | 1 => q_2 | 2 => q_3 | _ => q_4) : Nat → Nat) hx hb hr hlocks trivial hP hD hS dX3_init_53
