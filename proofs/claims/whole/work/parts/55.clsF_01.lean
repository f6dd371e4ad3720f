set_option maxHeartbeats 4000000 in
set_option maxRecDepth 100000 in
theorem c_X0_foresee (l : Launch) (E : GG) (r : Nat → Nat) (v : Nat → Int32) (f : Nat → Nat → Int32) (sz : Nat) (nw : Nat) (t : Int32) (hn24 : nw ≤ 24) : Met l yX0_foresee wsX0_foresee (Rm 3 0 0) (pM E [.ref (r 4), .int (nI nw), .int t] (DW E r v f) sz) (va_Qv (fun (u : X5) => seeOK v f nw t 24 u) (bM E (va_A (DW E r v f) sz) (fun (u : X5) => DW E r v (va_up (lookX f u) 23 (rowG (f 23) 81 (d_costs v))))) (va_A (DW E r v f) sz)) 0 0 (va_A (DW E r v f) sz) := by
  refine ofM (by decide) rfl (Nat.le_of_ble_eq_true rfl) ?_
  intro p e s m below meth c A hx hb hr hlocks hml hown hin hts hK hP hD hS hA hsz hAe ls hl
  rw [← hAe]
  have hl : lv_has ls 5 [(0, .ref (r 4)), (1, .int (nI nw)), (2, .int t)] := hl
  refine lv_iload_n hx hb dX0_foresee_0 rfl (lv_at hl 2 rfl) ?_
  refine lv_istore_n (lv' := [(3, .int t), (0, .ref (r 4)), (1, .int (nI nw)), (2, .int t)]) hx hb dX0_foresee_1 rfl hl (by decide) rfl (fun ls hl => ?_)
  refine lv_iload_n hx hb dX0_foresee_2 rfl (lv_at hl 2 rfl) ?_
  refine lv_istore (lv' := [(4, .int (nI nw)), (3, .int t), (0, .ref (r 4)), (1, .int (nI nw)), (2, .int t)]) hx hb dX0_foresee_3 hl (by decide) rfl (fun ls hl => ?_)
  have hl : lv_has ls 5 [(4, .int (nI nw)), (3, .int (c_sg f nw t nw)), (0, .ref (r 4)), (1, .int (nI nw)), (2, .int t)] := by rw [c_sg_0]; exact hl
  refine w_while (σ := Heap × List Loc × Array Slot × Nat × X5) (fun ⟨H, locs, ls, h, x⟩ => 24 - h) (fun ⟨H, locs, ls, h, x⟩ => va_P E.1 vwCl (DW E r v (lookX f x)) H ∧ va_D A (DW E r v (lookX f x)) ∧ va_S A s.heap H locs ∧ lv_has ls 5 [(0, .ref (r 4)), (1, .int (nI nw)), (2, .int t), (3, .int (c_sg f nw t h)), (4, .int (nI h))] ∧ nw ≤ h ∧ h ≤ 24 ∧ seeOK v f nw t h x) (fun ⟨H, locs, ls, h, x⟩ => H) (fun ⟨H, locs, ls, h, x⟩ => locs) (fun ⟨H, locs, ls, h, x⟩ => F0 m 5 ls []) ?_ (s.heap, [], ls, nw, ((f 18, f 19, f 20, f 21, f 22) : X5)) ⟨hP, hD, hS, lv_sub hl [2, 3, 4, 1, 0] rfl, Nat.le_refl _, hn24, fun h d h1 h2 => absurd h2 (by omega)⟩
  rintro ⟨H, locs, ls, h, x⟩ ⟨hP, hD, hS, hl, h1, h2, hx5⟩ ih5
  dsimp only at hP hD hS hl ⊢
  refine lv_iload hx hb dX0_foresee_5 (lv_at hl 4 rfl) ?_
  refine lv_bipush (v := 24) hx hb dX0_foresee_7 (by decide) ?_
  refine n_icmp_ge (tgt := 49) (a := h) (b := 24) hx hb dX0_foresee_9 (by decide) (by omega) (by omega) (fun c_1 => ?_) (fun c_1 => ?_)
  · skip
    refine lv_aload_n hx hb dX0_foresee_49 rfl (lv_at hl 0 rfl) ?_
    refine cM_v (As := [.ref (r 4)]) (wr := []) (rM_V ⟨hx, hb, hml, hown, hts⟩ (c_X0_countStarts l E r v (lookX f x) H.size) (cwV 0 hts gX0_foresee_X0_countStarts rfl rfl rfl (by decide +kernel) ⟨Nat.le_of_ble_eq_true rfl, Nat.le_of_ble_eq_true rfl⟩) hK hP hD 0 0 rfl rfl rfl hl.1 rfl (Nat.le_of_ble_eq_true rfl) dX0_foresee_50 ⟨Nat.le_of_ble_eq_true rfl, Nat.le_of_ble_eq_true rfl⟩) hP hD hS hA [0, 1, 2, 3, 4, 5, 6, 7, 8, 9, 10, 11, 12, 13, 14] [] rfl rfl (by decide) (by decide) (fun u_2 H locs hq_2 hP hD hS => ?_)
    subst hq_2
    have hP : va_P E.1 vwCl (DW E r v (va_up (lookX f x) 23 (rowG (f 23) 81 (d_costs v)))) H := hP
    have hD : va_D A (DW E r v (va_up (lookX f x) 23 (rowG (f 23) 81 (d_costs v)))) := hD
    exact qv_ret (x : X5) hx hb hr hlocks (by rw [show h = 24 by omega] at hx5; exact hx5) hP hD hS dX0_foresee_53
  · skip
    refine lv_aload_n hx hb dX0_foresee_12 rfl (lv_at hl 0 rfl) ?_
    refine lv_iload hx hb dX0_foresee_13 (lv_at hl 4 rfl) ?_
    refine lv_iload_n hx hb dX0_foresee_15 rfl (lv_at hl 3 rfl) ?_
    refine cM_v (As := [.ref (r 4), .int (nI h), .int (c_sg f nw t h)]) (wr := []) (rM_V ⟨hx, hb, hml, hown, hts⟩ (c_X0_lookAt l E r v (lookX f x) H.size h (c_sg f nw t h) (by omega)) (cwV 2 hts gX0_foresee_X0_lookAt rfl rfl rfl (by decide +kernel) ⟨Nat.le_of_ble_eq_true rfl, Nat.le_of_ble_eq_true rfl⟩) hK hP hD 0 0 rfl rfl rfl hl.1 rfl (Nat.le_of_ble_eq_true rfl) dX0_foresee_16 ⟨Nat.le_of_ble_eq_true rfl, Nat.le_of_ble_eq_true rfl⟩) hP hD hS hA [0, 1, 2, 3, 4, 5, 6, 7, 8, 9, 10, 11, 12, 13, 14] [] rfl rfl (by decide) (by decide) (fun u_3 H locs hq_3 hP hD hS => ?_)
    subst hq_3
    have hP : va_P E.1 vwCl (DW E r v (lookX f (rowH x.1 (h * 9) 9 (d_en v), rowH x.2.1 (h * 9) 9 (d_sh v f h), rowH x.2.2.1 (h * 9) 9 (d_sl v f h), rowH x.2.2.2.1 (h * 9) 9 (d_lo v f h (c_sg f nw t h)), rowH x.2.2.2.2 (h * 9) 9 (d_hi v f h (c_sg f nw t h))))) H := hP
    have hD : va_D A (DW E r v (lookX f (rowH x.1 (h * 9) 9 (d_en v), rowH x.2.1 (h * 9) 9 (d_sh v f h), rowH x.2.2.1 (h * 9) 9 (d_sl v f h), rowH x.2.2.2.1 (h * 9) 9 (d_lo v f h (c_sg f nw t h)), rowH x.2.2.2.2 (h * 9) 9 (d_hi v f h (c_sg f nw t h))))) := hD
    refine lv_iload_n hx hb dX0_foresee_19 rfl (lv_at hl 3 rfl) ?_
    refine lv_aload_n hx hb dX0_foresee_20 rfl (lv_at hl 0 rfl) ?_
    refine va_get (D := E.1) (ci := 0) (v := .ref (r 1)) (C := RX0) (T := TX0) (N := 9) hx hb hts (fun _ h => (List.mem_cons_of_mem _ (List.mem_append_left _ (List.mem_append_left _ (List.mem_append_right _ h))))) hown hK.1 hP 0 rfl rfl 0 (by decide) (hts _ (List.mem_of_getElem? (i := 1) rfl)) (fun _ h9 => h9) rfl dX0_foresee_21 ?_
    refine va_getN (D := E.1) (ci := 1) (v := .ref (r 13)) (C := RX1) (T := TX1) (N := 9) (host := "TwoLakes") (ref := RX1) hx hb hts (fun _ h => (List.mem_cons_of_mem _ (List.mem_append_left _ (List.mem_append_right _ h)))) hown hK.1 hP 1 rfl rfl 6 (by decide) (va_Nw.use rfl (hK.2.1 (RX0, 45, RX1, "inflow", "[I") (List.mem_of_getElem? (i := 8) rfl))) (fun _ h9 => h9) rfl dX0_foresee_24 ?_
    refine lv_iload hx hb dX0_foresee_27 (lv_at hl 4 rfl) ?_
    refine n_iald (f := f 13) hx hb hK.1 hP 4 0 rfl rfl (i := h) (by omega) (by decide) dX0_foresee_29 ?_
    refine lv_aload_n hx hb dX0_foresee_30 rfl (lv_at hl 0 rfl) ?_
    refine va_get (D := E.1) (ci := 0) (v := .ref (r 1)) (C := RX0) (T := TX0) (N := 9) hx hb hts (fun _ h => (List.mem_cons_of_mem _ (List.mem_append_left _ (List.mem_append_left _ (List.mem_append_right _ h))))) hown hK.1 hP 0 rfl rfl 0 (by decide) (hts _ (List.mem_of_getElem? (i := 1) rfl)) (fun _ h9 => h9) rfl dX0_foresee_31 ?_
    refine va_getN (D := E.1) (ci := 1) (v := .ref (r 14)) (C := RX1) (T := TX1) (N := 9) (host := "TwoLakes") (ref := RX1) hx hb hts (fun _ h => (List.mem_cons_of_mem _ (List.mem_append_left _ (List.mem_append_right _ h)))) hown hK.1 hP 1 rfl rfl 7 (by decide) (va_Nw.use rfl (hK.2.1 (RX0, 50, RX1, "outflow", "[I") (List.mem_of_getElem? (i := 10) rfl))) (fun _ h9 => h9) rfl dX0_foresee_34 ?_
    refine lv_iload hx hb dX0_foresee_37 (lv_at hl 4 rfl) ?_
    refine n_iald (f := f 14) hx hb hK.1 hP 5 0 rfl rfl (i := h) (by omega) (by decide) dX0_foresee_39 ?_
    refine lv_isub hx hb dX0_foresee_40 ?_
    refine lv_iadd hx hb dX0_foresee_41 ?_
    refine w_top (show ((c_sg f nw t h) + ((f 13 h) - (f 14 h))) = (c_sg f nw t (h + 1)) from (c_sg_s f t h1)) ?_
    refine lv_istore_n (lv' := [(3, .int (c_sg f nw t (h + 1))), (0, .ref (r 4)), (1, .int (nI nw)), (2, .int t), (4, .int (nI h))]) hx hb dX0_foresee_42 rfl hl (by decide) rfl (fun ls hl => ?_)
    refine lv_iinc (v := (nI (h + 1))) (lv' := [(4, .int (nI (h + 1))), (3, .int (c_sg f nw t (h + 1))), (0, .ref (r 4)), (1, .int (nI nw)), (2, .int t)]) hx hb dX0_foresee_43 hl (k := 4) rfl (nI_1 _) (by decide) rfl (fun ls hl => ?_)
    refine lv_goto (tgt := 5) hx hb dX0_foresee_46 (by decide) ?_
    exact ih5 (H, locs, ls, h + 1, (rowH x.1 (h * 9) 9 (d_en v), rowH x.2.1 (h * 9) 9 (d_sh v f h), rowH x.2.2.1 (h * 9) 9 (d_sl v f h), rowH x.2.2.2.1 (h * 9) 9 (d_lo v f h (c_sg f nw t h)), rowH x.2.2.2.2 (h * 9) 9 (d_hi v f h (c_sg f nw t h)))) ⟨hP, hD, hS, lv_sub hl [2, 3, 4, 1, 0] rfl, by omega, by omega, seeOK_s hx5 h1⟩ (by dsimp only; omega)
