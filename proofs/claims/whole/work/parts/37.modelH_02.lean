set_option maxHeartbeats 4000000 in
set_option maxRecDepth 100000 in
theorem c_X5_done (l : Launch) (E : GG) (r : Nat → Nat) (v : Nat → Int32) (f : Nat → Nat → Int32) (B C : Nat → Int32) (sz : Nat) (a : Int32) (b : Int32) (w : Int32) (nw : Nat) (hnw : v 1 = nI nw) (hn24 : nw ≤ 24) : Met l yX5_done wsX5_done (Rm 4 0 0) (pM E [.ref (r 0), .int a, .int b, .int w] (MW E r v f B C) sz) (va_Qi (fun (x : Int32) (u : MS) => (ok_done v f nw a b w → x = m_money f w.toNatClampNeg nw (f 21 0) (f 21 1) a b ∧ u = (d_v (upd v 0 0) f nw w.toNatClampNeg a b, d_f f a b, B, C)) ∧ (¬ ok_done v f nw a b w → x = 0 ∧ u = (upd v 0 1, f, B, C))) (bM E (va_A (MW E r v f B C) sz) (MWu E r)) (va_A (MW E r v f B C) sz)) 0 0 (va_A (MW E r v f B C) sz) := by
  refine ofM (by decide) rfl (Nat.le_of_ble_eq_true rfl) ?_
  intro p e s m below meth c A hx hb hr hlocks hml hown hin hts hK hP hD hS hA hsz hAe ls hl
  rw [← hAe]
  have hl : lv_has ls 4 [(0, .ref (r 0)), (1, .int a), (2, .int b), (3, .int w)] := hl
  refine lv_aload_n hx hb dX5_done_0 rfl (lv_at hl 0 rfl) ?_
  refine lv_iload_n hx hb dX5_done_1 rfl (lv_at hl 1 rfl) ?_
  refine lv_iload_n hx hb dX5_done_2 rfl (lv_at hl 2 rfl) ?_
  refine cR_S ⟨hx, hb, hml, hown, hts⟩ (c_X5_areModes l E a b) (va_cwS 2 hts gX5_done_X5_areModes rfl rfl rfl (by decide +kernel) ⟨Nat.le_of_ble_eq_true rfl, Nat.le_of_ble_eq_true rfl⟩) hK nilP rfl hl.1 rfl (Nat.le_of_ble_eq_true rfl) dX5_done_3 ⟨Nat.le_of_ble_eq_true rfl, Nat.le_of_ble_eq_true rfl⟩ ?_
  refine b_if_eq (q := (m_in a 0 2 ∧ m_in b 0 2)) (tgt := 34) hx hb dX5_done_6 (by decide) (fun c_1 => ?_) (fun c_1 => ?_)
  · skip
    refine lv_iconst (v := 1) hx hb dX5_done_34 (by decide) ?_
    refine lv_goto (tgt := 39) hx hb dX5_done_35 (by decide) ?_
    refine va_put (D := E.1) (ci := 5) (v := .int 1) (ty := .int) (C := RX5) (T := TX5) (N := 26) hx hb hts (fun _ h => (List.mem_cons_of_mem _ (List.mem_append_right _ h))) tyX5 tyX5_ok nmX5 hown hK.1 hP hD hS 0 rfl rfl 0 (by decide) (hts _ (List.mem_of_getElem? (i := 2) rfl)) (fun _ h9 => h9) rfl (by decide +kernel) rfl rfl (Nat.le_of_ble_eq_true rfl) dX5_done_39 (fun H locs hP hD hS => ?_)
    have hP : va_P E.1 vwCl (MW E r (upd v 0 1) f B C) H := hP
    have hD : va_D A (MW E r (upd v 0 1) f B C) := hD
    refine lv_aload_n hx hb dX5_done_42 rfl (lv_at hl 0 rfl) ?_
    refine va_get (D := E.1) (ci := 5) (v := .int 1) (C := RX5) (T := TX5) (N := 26) hx hb hts (fun _ h => (List.mem_cons_of_mem _ (List.mem_append_right _ h))) hown hK.1 hP 0 rfl rfl 0 (by decide) (hts _ (List.mem_of_getElem? (i := 2) rfl)) (fun _ h9 => h9) rfl dX5_done_43 ?_
    refine n_if_le (tgt := 53) (a := 1) hx hb dX5_done_46 (by decide) (by omega) (fun c_2 => ?_) (fun c_2 => ?_)
    · skip
      exact absurd c_2 (by decide)
    · skip
      refine lv_iconst (v := 0) hx hb dX5_done_49 (by decide) ?_
      refine lv_goto (tgt := 60) hx hb dX5_done_50 (by decide) ?_
      exact q_ret (((upd v 0 1), f, B, C) : MS) hx hb hr hlocks ⟨fun hq => absurd hq (by unfold ok_done; simp_all), fun _ => ⟨rfl, rfl⟩⟩ hP hD hS dX5_done_60
  · skip
    refine lv_iload_n hx hb dX5_done_9 rfl (lv_at hl 3 rfl) ?_
    refine cR_S ⟨hx, hb, hml, hown, hts⟩ (c_X5_isWorld l E w) (va_cwS 1 hts gX5_done_X5_isWorld rfl rfl rfl (by decide +kernel) ⟨Nat.le_of_ble_eq_true rfl, Nat.le_of_ble_eq_true rfl⟩) hK nilP rfl hl.1 rfl (Nat.le_of_ble_eq_true rfl) dX5_done_10 ⟨Nat.le_of_ble_eq_true rfl, Nat.le_of_ble_eq_true rfl⟩ ?_
    refine b_if_eq (q := (m_in w 0 2)) (tgt := 34) hx hb dX5_done_13 (by decide) (fun c_3 => ?_) (fun c_3 => ?_)
    · skip
      refine lv_iconst (v := 1) hx hb dX5_done_34 (by decide) ?_
      refine lv_goto (tgt := 39) hx hb dX5_done_35 (by decide) ?_
      refine va_put (D := E.1) (ci := 5) (v := .int 1) (ty := .int) (C := RX5) (T := TX5) (N := 26) hx hb hts (fun _ h => (List.mem_cons_of_mem _ (List.mem_append_right _ h))) tyX5 tyX5_ok nmX5 hown hK.1 hP hD hS 0 rfl rfl 0 (by decide) (hts _ (List.mem_of_getElem? (i := 2) rfl)) (fun _ h9 => h9) rfl (by decide +kernel) rfl rfl (Nat.le_of_ble_eq_true rfl) dX5_done_39 (fun H locs hP hD hS => ?_)
      have hP : va_P E.1 vwCl (MW E r (upd v 0 1) f B C) H := hP
      have hD : va_D A (MW E r (upd v 0 1) f B C) := hD
      refine lv_aload_n hx hb dX5_done_42 rfl (lv_at hl 0 rfl) ?_
      refine va_get (D := E.1) (ci := 5) (v := .int 1) (C := RX5) (T := TX5) (N := 26) hx hb hts (fun _ h => (List.mem_cons_of_mem _ (List.mem_append_right _ h))) hown hK.1 hP 0 rfl rfl 0 (by decide) (hts _ (List.mem_of_getElem? (i := 2) rfl)) (fun _ h9 => h9) rfl dX5_done_43 ?_
      refine n_if_le (tgt := 53) (a := 1) hx hb dX5_done_46 (by decide) (by omega) (fun c_4 => ?_) (fun c_4 => ?_)
      · skip
        exact absurd c_4 (by decide)
      · skip
        refine lv_iconst (v := 0) hx hb dX5_done_49 (by decide) ?_
        refine lv_goto (tgt := 60) hx hb dX5_done_50 (by decide) ?_
        exact q_ret (((upd v 0 1), f, B, C) : MS) hx hb hr hlocks ⟨fun hq => absurd hq (by unfold ok_done; simp_all), fun _ => ⟨rfl, rfl⟩⟩ hP hD hS dX5_done_60
    · skip
      refine lv_aload_n hx hb dX5_done_16 rfl (lv_at hl 0 rfl) ?_
      refine va_get (D := E.1) (ci := 5) (v := .int (v 1)) (C := RX5) (T := TX5) (N := 26) hx hb hts (fun _ h => (List.mem_cons_of_mem _ (List.mem_append_right _ h))) hown hK.1 hP 0 rfl rfl 1 (by decide) (hts _ (List.mem_of_getElem? (i := 1) rfl)) (fun _ h9 => h9) rfl dX5_done_17 ?_
      refine w_top (show (v 1) = nI nw from hnw) ?_
      refine lv_bipush (v := 24) hx hb dX5_done_20 (by decide) ?_
      refine n_icmp_eq (tgt := 34) (a := nw) (b := 24) hx hb dX5_done_22 (by decide) (by omega) (by omega) (fun c_5 => ?_) (fun c_5 => ?_)
      · skip
        refine lv_iconst (v := 1) hx hb dX5_done_34 (by decide) ?_
        refine lv_goto (tgt := 39) hx hb dX5_done_35 (by decide) ?_
        refine va_put (D := E.1) (ci := 5) (v := .int 1) (ty := .int) (C := RX5) (T := TX5) (N := 26) hx hb hts (fun _ h => (List.mem_cons_of_mem _ (List.mem_append_right _ h))) tyX5 tyX5_ok nmX5 hown hK.1 hP hD hS 0 rfl rfl 0 (by decide) (hts _ (List.mem_of_getElem? (i := 2) rfl)) (fun _ h9 => h9) rfl (by decide +kernel) rfl rfl (Nat.le_of_ble_eq_true rfl) dX5_done_39 (fun H locs hP hD hS => ?_)
        have hP : va_P E.1 vwCl (MW E r (upd v 0 1) f B C) H := hP
        have hD : va_D A (MW E r (upd v 0 1) f B C) := hD
        refine lv_aload_n hx hb dX5_done_42 rfl (lv_at hl 0 rfl) ?_
        refine va_get (D := E.1) (ci := 5) (v := .int 1) (C := RX5) (T := TX5) (N := 26) hx hb hts (fun _ h => (List.mem_cons_of_mem _ (List.mem_append_right _ h))) hown hK.1 hP 0 rfl rfl 0 (by decide) (hts _ (List.mem_of_getElem? (i := 2) rfl)) (fun _ h9 => h9) rfl dX5_done_43 ?_
        refine n_if_le (tgt := 53) (a := 1) hx hb dX5_done_46 (by decide) (by omega) (fun c_6 => ?_) (fun c_6 => ?_)
        · skip
          exact absurd c_6 (by decide)
        · skip
          refine lv_iconst (v := 0) hx hb dX5_done_49 (by decide) ?_
          refine lv_goto (tgt := 60) hx hb dX5_done_50 (by decide) ?_
          exact q_ret (((upd v 0 1), f, B, C) : MS) hx hb hr hlocks ⟨fun hq => absurd hq (by unfold ok_done; simp_all), fun _ => ⟨rfl, rfl⟩⟩ hP hD hS dX5_done_60
      · skip
        refine lv_aload_n hx hb dX5_done_25 rfl (lv_at hl 0 rfl) ?_
        refine lv_iload_n hx hb dX5_done_26 rfl (lv_at hl 1 rfl) ?_
        refine lv_iload_n hx hb dX5_done_27 rfl (lv_at hl 2 rfl) ?_
        refine cR_V ⟨hx, hb, hml, hown, hts⟩ (c_X5_isLegalNow l E r v f B C a b nw hnw (by omega)) (cwV 2 hts gX5_done_X5_isLegalNow rfl rfl rfl (by decide +kernel) ⟨Nat.le_of_ble_eq_true rfl, Nat.le_of_ble_eq_true rfl⟩) hK hP 5 0 rfl rfl rfl hl.1 rfl (Nat.le_of_ble_eq_true rfl) dX5_done_28 ⟨Nat.le_of_ble_eq_true rfl, Nat.le_of_ble_eq_true rfl⟩ ?_
        refine b_if_ne (q := (m_legal v f nw (v 4) (v 5) (f 21 0) (f 21 1) a b)) (tgt := 38) hx hb dX5_done_31 (by decide) (fun c_7 => ?_) (fun c_7 => ?_)
        · skip
          refine lv_iconst (v := 0) hx hb dX5_done_38 (by decide) ?_
          refine va_put (D := E.1) (ci := 5) (v := .int 0) (ty := .int) (C := RX5) (T := TX5) (N := 26) hx hb hts (fun _ h => (List.mem_cons_of_mem _ (List.mem_append_right _ h))) tyX5 tyX5_ok nmX5 hown hK.1 hP hD hS 0 rfl rfl 0 (by decide) (hts _ (List.mem_of_getElem? (i := 2) rfl)) (fun _ h9 => h9) rfl (by decide +kernel) rfl rfl (Nat.le_of_ble_eq_true rfl) dX5_done_39 (fun H locs hP hD hS => ?_)
          have hP : va_P E.1 vwCl (MW E r (upd v 0 0) f B C) H := hP
          have hD : va_D A (MW E r (upd v 0 0) f B C) := hD
          refine lv_aload_n hx hb dX5_done_42 rfl (lv_at hl 0 rfl) ?_
          refine va_get (D := E.1) (ci := 5) (v := .int 0) (C := RX5) (T := TX5) (N := 26) hx hb hts (fun _ h => (List.mem_cons_of_mem _ (List.mem_append_right _ h))) hown hK.1 hP 0 rfl rfl 0 (by decide) (hts _ (List.mem_of_getElem? (i := 2) rfl)) (fun _ h9 => h9) rfl dX5_done_43 ?_
          refine n_if_le (tgt := 53) (a := 0) hx hb dX5_done_46 (by decide) (by omega) (fun c_8 => ?_) (fun c_8 => ?_)
          · skip
            have hw := (inN c_3 2 (by decide) (by decide)).2
            refine lv_aload_n hx hb dX5_done_53 rfl (lv_at hl 0 rfl) ?_
            refine lv_iload_n hx hb dX5_done_54 rfl (lv_at hl 1 rfl) ?_
            refine lv_iload_n hx hb dX5_done_55 rfl (lv_at hl 2 rfl) ?_
            refine lv_iload_n hx hb dX5_done_56 rfl (lv_at hl 3 rfl) ?_
            refine w_top (show w = nI w.toNatClampNeg from (inN c_3 2 (by decide) (by decide)).1) ?_
            refine cM_i (As := [.ref (r 0), .int a, .int b, .int (nI w.toNatClampNeg)]) (wr := []) (rM_V ⟨hx, hb, hml, hown, hts⟩ (c_X5_does l E r (upd v 0 0) f B C H.size a b w.toNatClampNeg (by omega) nw hnw (by omega)) (cwV 3 hts gX5_done_X5_does rfl rfl rfl (by decide +kernel) ⟨Nat.le_of_ble_eq_true rfl, Nat.le_of_ble_eq_true rfl⟩) hK hP hD 5 0 rfl rfl rfl hl.1 rfl (Nat.le_of_ble_eq_true rfl) dX5_done_57 ⟨Nat.le_of_ble_eq_true rfl, Nat.le_of_ble_eq_true rfl⟩) hP hD hS hA [0, 1, 2, 3, 4, 5, 6, 7, 8, 9, 10, 11, 12, 13, 14, 15] [] rfl rfl (by decide) (by decide) (fun x_9 u_9 H locs hq_9 hP hD hS => ?_)
            obtain ⟨rfl, rfl⟩ := hq_9
            have hP : va_P E.1 vwCl (MW E r (d_v (upd v 0 0) f nw w.toNatClampNeg a b) (d_f f a b) B C) H := hP
            have hD : va_D A (MW E r (d_v (upd v 0 0) f nw w.toNatClampNeg a b) (d_f f a b) B C) := hD
            exact q_ret (((d_v (upd v 0 0) f nw w.toNatClampNeg a b), (d_f f a b), B, C) : MS) hx hb hr hlocks ⟨fun _ => ⟨rfl, rfl⟩, fun hq => absurd ⟨c_1, c_3, c_5, c_7⟩ hq⟩ hP hD hS dX5_done_60
          · skip
            exact absurd c_8 (by decide)
        · skip
          refine lv_iconst (v := 1) hx hb dX5_done_34 (by decide) ?_
          refine lv_goto (tgt := 39) hx hb dX5_done_35 (by decide) ?_
          refine va_put (D := E.1) (ci := 5) (v := .int 1) (ty := .int) (C := RX5) (T := TX5) (N := 26) hx hb hts (fun _ h => (List.mem_cons_of_mem _ (List.mem_append_right _ h))) tyX5 tyX5_ok nmX5 hown hK.1 hP hD hS 0 rfl rfl 0 (by decide) (hts _ (List.mem_of_getElem? (i := 2) rfl)) (fun _ h9 => h9) rfl (by decide +kernel) rfl rfl (Nat.le_of_ble_eq_true rfl) dX5_done_39 (fun H locs hP hD hS => ?_)
          have hP : va_P E.1 vwCl (MW E r (upd v 0 1) f B C) H := hP
          have hD : va_D A (MW E r (upd v 0 1) f B C) := hD
          refine lv_aload_n hx hb dX5_done_42 rfl (lv_at hl 0 rfl) ?_
          refine va_get (D := E.1) (ci := 5) (v := .int 1) (C := RX5) (T := TX5) (N := 26) hx hb hts (fun _ h => (List.mem_cons_of_mem _ (List.mem_append_right _ h))) hown hK.1 hP 0 rfl rfl 0 (by decide) (hts _ (List.mem_of_getElem? (i := 2) rfl)) (fun _ h9 => h9) rfl dX5_done_43 ?_
          refine n_if_le (tgt := 53) (a := 1) hx hb dX5_done_46 (by decide) (by omega) (fun c_10 => ?_) (fun c_10 => ?_)
          · skip
            exact absurd c_10 (by decide)
          · skip
            refine lv_iconst (v := 0) hx hb dX5_done_49 (by decide) ?_
            refine lv_goto (tgt := 60) hx hb dX5_done_50 (by decide) ?_
            exact q_ret (((upd v 0 1), f, B, C) : MS) hx hb hr hlocks ⟨fun hq => absurd hq (by unfold ok_done; simp_all), fun _ => ⟨rfl, rfl⟩⟩ hP hD hS dX5_done_60
