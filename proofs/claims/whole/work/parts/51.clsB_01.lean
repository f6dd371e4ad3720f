set_option maxHeartbeats 4000000 in
set_option maxRecDepth 100000 in
theorem c_X2_turnTo (l : Launch) (E : GG) (h q : Nat) (v : Nat → Int32) (o : Nat → Int32) (sz : Nat) (a : Int32)  : Met l yX2_turnTo wsX2_turnTo (Rm 1 0 0) (pM E [.ref h, .int a] (KW E h q v o) sz) (va_Qv (fun (V : Nat → Int32) => V = upd (cI (k_start (v 5) a) (upd v 6 (v 6 + 1)) v) 5 a) (bM E (va_A (KW E h q v o) sz) (fun (V : Nat → Int32) => KW E h q V o)) (va_A (KW E h q v o) sz)) 0 0 (va_A (KW E h q v o) sz) := by
  refine ofM (by decide) rfl (Nat.le_of_ble_eq_true rfl) ?_
  intro p e s m below meth c A hx hb hr hlocks hml hown hin hts hK hP hD hS hA hsz hAe ls hl
  rw [← hAe]
  have hl : lv_has ls 2 [(0, .ref h), (1, .int a)] := hl
  refine lv_aload_n hx hb dX2_turnTo_0 rfl (lv_at hl 0 rfl) ?_
  refine va_get (D := E.1) (ci := 2) (v := .int (v 5)) (C := RX2) (T := TX2) (N := 8) hx hb hts (fun _ h => (List.mem_cons_of_mem _ (List.mem_append_right _ h))) hown hK.1 hP 0 rfl rfl 5 (by decide) (hts _ (List.mem_of_getElem? (i := 1) rfl)) (fun _ h9 => h9) rfl dX2_turnTo_1 ?_
  refine lv_iload_n hx hb dX2_turnTo_4 rfl (lv_at hl 1 rfl) ?_
  refine cR_S ⟨hx, hb, hml, hown, hts⟩ (c_X2_isStart l E (v 5) a) (va_cwS 2 hts gX2_turnTo_X2_isStart rfl rfl rfl (by decide +kernel) ⟨Nat.le_of_ble_eq_true rfl, Nat.le_of_ble_eq_true rfl⟩) hK nilP rfl hl.1 rfl (Nat.le_of_ble_eq_true rfl) dX2_turnTo_5 ⟨Nat.le_of_ble_eq_true rfl, Nat.le_of_ble_eq_true rfl⟩ ?_
  refine b_if_eq (q := (k_start (v 5) a)) (tgt := 21) hx hb dX2_turnTo_8 (by decide) (fun c_1 => ?_) (fun c_1 => ?_)
  · skip
    refine lv_aload_n hx hb dX2_turnTo_21 rfl (lv_at hl 0 rfl) ?_
    refine lv_iload_n hx hb dX2_turnTo_22 rfl (lv_at hl 1 rfl) ?_
    refine va_put (D := E.1) (ci := 2) (v := .int a) (ty := .int) (C := RX2) (T := TX2) (N := 8) hx hb hts (fun _ h => (List.mem_cons_of_mem _ (List.mem_append_right _ h))) tyX2 tyX2_ok nmX2 hown hK.1 hP hD hS 0 rfl rfl 5 (by decide) (hts _ (List.mem_of_getElem? (i := 1) rfl)) (fun _ h9 => h9) rfl (by decide +kernel) rfl rfl (Nat.le_of_ble_eq_true rfl) dX2_turnTo_23 (fun H locs hP hD hS => ?_)
    have hP : va_P E.1 vwCl (KW E h q (upd v 5 a) o) H := hP
    have hD : va_D A (KW E h q (upd v 5 a) o) := hD
    exact qv_ret ((upd v 5 a) : Nat → Int32) hx hb hr hlocks (by rw [cI_f c_1]) hP hD hS dX2_turnTo_26
  · skip
    refine lv_aload_n hx hb dX2_turnTo_11 rfl (lv_at hl 0 rfl) ?_
    refine lv_dup hx hb dX2_turnTo_12 rfl ?_
    refine va_get (D := E.1) (ci := 2) (v := .int (v 6)) (C := RX2) (T := TX2) (N := 8) hx hb hts (fun _ h => (List.mem_cons_of_mem _ (List.mem_append_right _ h))) hown hK.1 hP 0 rfl rfl 6 (by decide) (hts _ (List.mem_of_getElem? (i := 2) rfl)) (fun _ h9 => h9) rfl dX2_turnTo_13 ?_
    refine lv_iconst (v := 1) hx hb dX2_turnTo_16 (by decide) ?_
    refine lv_iadd hx hb dX2_turnTo_17 ?_
    refine va_put (D := E.1) (ci := 2) (v := .int ((v 6) + 1)) (ty := .int) (C := RX2) (T := TX2) (N := 8) hx hb hts (fun _ h => (List.mem_cons_of_mem _ (List.mem_append_right _ h))) tyX2 tyX2_ok nmX2 hown hK.1 hP hD hS 0 rfl rfl 6 (by decide) (hts _ (List.mem_of_getElem? (i := 2) rfl)) (fun _ h9 => h9) rfl (by decide +kernel) rfl rfl (Nat.le_of_ble_eq_true rfl) dX2_turnTo_18 (fun H locs hP hD hS => ?_)
    have hP : va_P E.1 vwCl (KW E h q (upd v 6 ((v 6) + 1)) o) H := hP
    have hD : va_D A (KW E h q (upd v 6 ((v 6) + 1)) o) := hD
    refine lv_aload_n hx hb dX2_turnTo_21 rfl (lv_at hl 0 rfl) ?_
    refine lv_iload_n hx hb dX2_turnTo_22 rfl (lv_at hl 1 rfl) ?_
    refine va_put (D := E.1) (ci := 2) (v := .int a) (ty := .int) (C := RX2) (T := TX2) (N := 8) hx hb hts (fun _ h => (List.mem_cons_of_mem _ (List.mem_append_right _ h))) tyX2 tyX2_ok nmX2 hown hK.1 hP hD hS 0 rfl rfl 5 (by decide) (hts _ (List.mem_of_getElem? (i := 1) rfl)) (fun _ h9 => h9) rfl (by decide +kernel) rfl rfl (Nat.le_of_ble_eq_true rfl) dX2_turnTo_23 (fun H locs hP hD hS => ?_)
    have hP : va_P E.1 vwCl (KW E h q (upd (upd v 6 ((v 6) + 1)) 5 a) o) H := hP
    have hD : va_D A (KW E h q (upd (upd v 6 ((v 6) + 1)) 5 a) o) := hD
    exact qv_ret ((upd (upd v 6 ((v 6) + 1)) 5 a) : Nat → Int32) hx hb hr hlocks (by rw [cI_t c_1]) hP hD hS dX2_turnTo_26
