set_option maxHeartbeats 4000000 in
set_option maxRecDepth 100000 in
theorem c_X5_end (l : Launch) (E : GG) (r : Nat → Nat) (v : Nat → Int32) (f : Nat → Nat → Int32) (B C : Nat → Int32) (sz : Nat) (n1 : Int32)  : Met l yX5_end wsX5_end (Rm 1 0 0) (pM E [.ref (r 0), .int n1] (MW E r v f B C) sz) (va_Qi (fun (x : Int32) (u : MS) => x = (s_end v f n1).1 ∧ u = ((s_end v f n1).2.1, (s_end v f n1).2.2, B, C)) (bM E (va_A (MW E r v f B C) sz) (MWu E r)) (va_A (MW E r v f B C) sz)) 0 0 (va_A (MW E r v f B C) sz) := by
  refine ofM (by decide) rfl (Nat.le_of_ble_eq_true rfl) ?_
  intro p e s m below meth c A hx hb hr hlocks hml hown hin hts hK hP hD hS hA hsz hAe ls hl
  rw [← hAe]
  have hl : lv_has ls 2 [(0, .ref (r 0)), (1, .int n1)] := hl
  refine lv_aload_n hx hb dX5_end_0 rfl (lv_at hl 0 rfl) ?_
  refine lv_iconst (v := 0) hx hb dX5_end_1 (by decide) ?_
  refine va_put (D := E.1) (ci := 5) (v := .int 0) (ty := .int) (C := RX5) (T := TX5) (N := 26) hx hb hts (fun _ h => (List.mem_cons_of_mem _ (List.mem_append_right _ h))) tyX5 tyX5_ok nmX5 hown hK.1 hP hD hS 0 rfl rfl 0 (by decide) (hts _ (List.mem_of_getElem? (i := 1) rfl)) (fun _ h9 => h9) rfl (by decide +kernel) rfl rfl (Nat.le_of_ble_eq_true rfl) dX5_end_2 (fun H locs hP hD hS => ?_)
  have hP : va_P E.1 vwCl (MW E r (upd v 0 0) f B C) H := hP
  have hD : va_D A (MW E r (upd v 0 0) f B C) := hD
  refine lv_iload_n hx hb dX5_end_5 rfl (lv_at hl 1 rfl) ?_
  refine lv_iconst (v := 0) hx hb dX5_end_6 (by decide) ?_
  refine lv_sipush (v := 999) hx hb dX5_end_7 (by decide) ?_
  refine cR_S ⟨hx, hb, hml, hown, hts⟩ (c_X5_within l E n1 0 999) (va_cwS 3 hts gX5_end_X5_within rfl rfl rfl (by decide +kernel) ⟨Nat.le_of_ble_eq_true rfl, Nat.le_of_ble_eq_true rfl⟩) hK nilP rfl hl.1 rfl (Nat.le_of_ble_eq_true rfl) dX5_end_10 ⟨Nat.le_of_ble_eq_true rfl, Nat.le_of_ble_eq_true rfl⟩ ?_
  refine b_if_ne (q := (m_in n1 0 999)) (tgt := 18) hx hb dX5_end_13 (by decide) (fun c_1 => ?_) (fun c_1 => ?_)
  · skip
    refine lv_aload_n hx hb dX5_end_18 rfl (lv_at hl 0 rfl) ?_
    refine lv_iload_n hx hb dX5_end_19 rfl (lv_at hl 1 rfl) ?_
    refine va_put (D := E.1) (ci := 5) (v := .int n1) (ty := .int) (C := RX5) (T := TX5) (N := 26) hx hb hts (fun _ h => (List.mem_cons_of_mem _ (List.mem_append_right _ h))) tyX5 tyX5_ok nmX5 hown hK.1 hP hD hS 0 rfl rfl 20 (by decide) (hts _ (List.mem_of_getElem? (i := 2) rfl)) (fun _ h9 => h9) rfl (by decide +kernel) rfl rfl (Nat.le_of_ble_eq_true rfl) dX5_end_20 (fun H locs hP hD hS => ?_)
    have hP : va_P E.1 vwCl (MW E r (upd (upd v 0 0) 20 n1) f B C) H := hP
    have hD : va_D A (MW E r (upd (upd v 0 0) 20 n1) f B C) := hD
    refine lv_iconst (v := 1) hx hb dX5_end_23 (by decide) ?_
    exact qz_ret (((upd (upd v 0 0) 20 n1), f, B, C) : MS) hx hb hr hlocks rfl (by rw [s_end, cI_t (by simp_all)]; exact ⟨rfl, rfl⟩) hP hD hS dX5_end_24
  · skip
    refine lv_iconst (v := 0) hx hb dX5_end_16 (by decide) ?_
    exact qz_ret (((upd v 0 0), f, B, C) : MS) hx hb hr hlocks rfl (by rw [s_end, cI_f (by simp_all)]; exact ⟨rfl, rfl⟩) hP hD hS dX5_end_17
noncomputable def s_flows (v : Nat → Int32) (f : Nat → Nat → Int32) (h : Int32) (i1 : Int32) (o1 : Int32) : AN := cI (m_in h 0 23 ∧ m_in i1 0 9 ∧ m_in o1 0 9) (1, upd v 0 0, va_up (va_up f 8 (upd (f 8) h.toNatClampNeg i1)) 9 (upd (f 9) h.toNatClampNeg o1)) (0, upd v 0 0, f)
set_option maxHeartbeats 4000000 in
set_option maxRecDepth 100000 in
theorem c_X5_flows (l : Launch) (E : GG) (r : Nat → Nat) (v : Nat → Int32) (f : Nat → Nat → Int32) (B C : Nat → Int32) (sz : Nat) (h : Int32) (i1 : Int32) (o1 : Int32)  : Met l yX5_flows wsX5_flows (Rm 2 0 0) (pM E [.ref (r 0), .int h, .int i1, .int o1] (MW E r v f B C) sz) (va_Qi (fun (x : Int32) (u : MS) => x = (s_flows v f h i1 o1).1 ∧ u = ((s_flows v f h i1 o1).2.1, (s_flows v f h i1 o1).2.2, B, C)) (bM E (va_A (MW E r v f B C) sz) (MWu E r)) (va_A (MW E r v f B C) sz)) 0 0 (va_A (MW E r v f B C) sz) := by
  refine ofM (by decide) rfl (Nat.le_of_ble_eq_true rfl) ?_
  intro p e s m below meth c A hx hb hr hlocks hml hown hin hts hK hP hD hS hA hsz hAe ls hl
  rw [← hAe]
  have hl : lv_has ls 4 [(0, .ref (r 0)), (1, .int h), (2, .int i1), (3, .int o1)] := hl
  refine lv_aload_n hx hb dX5_flows_0 rfl (lv_at hl 0 rfl) ?_
  refine lv_iconst (v := 0) hx hb dX5_flows_1 (by decide) ?_
  refine va_put (D := E.1) (ci := 5) (v := .int 0) (ty := .int) (C := RX5) (T := TX5) (N := 26) hx hb hts (fun _ h => (List.mem_cons_of_mem _ (List.mem_append_right _ h))) tyX5 tyX5_ok nmX5 hown hK.1 hP hD hS 0 rfl rfl 0 (by decide) (hts _ (List.mem_of_getElem? (i := 1) rfl)) (fun _ h9 => h9) rfl (by decide +kernel) rfl rfl (Nat.le_of_ble_eq_true rfl) dX5_flows_2 (fun H locs hP hD hS => ?_)
  have hP : va_P E.1 vwCl (MW E r (upd v 0 0) f B C) H := hP
  have hD : va_D A (MW E r (upd v 0 0) f B C) := hD
  refine lv_iload_n hx hb dX5_flows_5 rfl (lv_at hl 1 rfl) ?_
  refine cR_S ⟨hx, hb, hml, hown, hts⟩ (c_X5_isHour l E h) (va_cwS 1 hts gX5_flows_X5_isHour rfl rfl rfl (by decide +kernel) ⟨Nat.le_of_ble_eq_true rfl, Nat.le_of_ble_eq_true rfl⟩) hK nilP rfl hl.1 rfl (Nat.le_of_ble_eq_true rfl) dX5_flows_6 ⟨Nat.le_of_ble_eq_true rfl, Nat.le_of_ble_eq_true rfl⟩ ?_
  refine b_if_eq (q := (m_in h 0 23)) (tgt := 32) hx hb dX5_flows_9 (by decide) (fun c_1 => ?_) (fun c_1 => ?_)
  · skip
    refine lv_iconst (v := 0) hx hb dX5_flows_32 (by decide) ?_
    exact qz_ret (((upd v 0 0), f, B, C) : MS) hx hb hr hlocks rfl (by rw [s_flows, cI_f (by simp_all)]; exact ⟨rfl, rfl⟩) hP hD hS dX5_flows_33
  · skip
    refine lv_iload_n hx hb dX5_flows_12 rfl (lv_at hl 2 rfl) ?_
    refine lv_iconst (v := 0) hx hb dX5_flows_13 (by decide) ?_
    refine lv_bipush (v := 9) hx hb dX5_flows_14 (by decide) ?_
    refine cR_S ⟨hx, hb, hml, hown, hts⟩ (c_X5_within l E i1 0 9) (va_cwS 3 hts gX5_flows_X5_within rfl rfl rfl (by decide +kernel) ⟨Nat.le_of_ble_eq_true rfl, Nat.le_of_ble_eq_true rfl⟩) hK nilP rfl hl.1 rfl (Nat.le_of_ble_eq_true rfl) dX5_flows_16 ⟨Nat.le_of_ble_eq_true rfl, Nat.le_of_ble_eq_true rfl⟩ ?_
    refine b_if_eq (q := (m_in i1 0 9)) (tgt := 32) hx hb dX5_flows_19 (by decide) (fun c_2 => ?_) (fun c_2 => ?_)
    · skip
      refine lv_iconst (v := 0) hx hb dX5_flows_32 (by decide) ?_
      exact qz_ret (((upd v 0 0), f, B, C) : MS) hx hb hr hlocks rfl (by rw [s_flows, cI_f (by simp_all)]; exact ⟨rfl, rfl⟩) hP hD hS dX5_flows_33
    · skip
      refine lv_iload_n hx hb dX5_flows_22 rfl (lv_at hl 3 rfl) ?_
      refine lv_iconst (v := 0) hx hb dX5_flows_23 (by decide) ?_
      refine lv_bipush (v := 9) hx hb dX5_flows_24 (by decide) ?_
      refine cR_S ⟨hx, hb, hml, hown, hts⟩ (c_X5_within l E o1 0 9) (va_cwS 3 hts gX5_flows_X5_within rfl rfl rfl (by decide +kernel) ⟨Nat.le_of_ble_eq_true rfl, Nat.le_of_ble_eq_true rfl⟩) hK nilP rfl hl.1 rfl (Nat.le_of_ble_eq_true rfl) dX5_flows_26 ⟨Nat.le_of_ble_eq_true rfl, Nat.le_of_ble_eq_true rfl⟩ ?_
      refine b_if_ne (q := (m_in o1 0 9)) (tgt := 34) hx hb dX5_flows_29 (by decide) (fun c_3 => ?_) (fun c_3 => ?_)
      · skip
        have hh := (inN c_1 23 (by decide) (by decide)).2
        refine lv_aload_n hx hb dX5_flows_34 rfl (lv_at hl 0 rfl) ?_
        refine va_get (D := E.1) (ci := 5) (v := .ref (r 8)) (C := RX5) (T := TX5) (N := 26) hx hb hts (fun _ h => (List.mem_cons_of_mem _ (List.mem_append_right _ h))) hown hK.1 hP 0 rfl rfl 8 (by decide) (hts _ (List.mem_of_getElem? (i := 2) rfl)) (fun _ h9 => h9) rfl dX5_flows_35 ?_
        refine lv_iload_n hx hb dX5_flows_38 rfl (lv_at hl 1 rfl) ?_
        refine w_top (show h = nI h.toNatClampNeg from (inN c_1 23 (by decide) (by decide)).1) ?_
        refine lv_iload_n hx hb dX5_flows_39 rfl (lv_at hl 2 rfl) ?_
        refine n_iast (f := f 8) hx hb hK.1 hP hD hS 1 0 rfl rfl (i := h.toNatClampNeg) (by omega) (by decide) dX5_flows_40 (fun H locs hP hD hS => ?_)
        have hP : va_P E.1 vwCl (MW E r (upd v 0 0) (va_up f 8 (upd (f 8) h.toNatClampNeg i1)) B C) H := hP
        have hD : va_D A (MW E r (upd v 0 0) (va_up f 8 (upd (f 8) h.toNatClampNeg i1)) B C) := hD
        refine lv_aload_n hx hb dX5_flows_41 rfl (lv_at hl 0 rfl) ?_
        refine va_get (D := E.1) (ci := 5) (v := .ref (r 9)) (C := RX5) (T := TX5) (N := 26) hx hb hts (fun _ h => (List.mem_cons_of_mem _ (List.mem_append_right _ h))) hown hK.1 hP 0 rfl rfl 9 (by decide) (hts _ (List.mem_of_getElem? (i := 3) rfl)) (fun _ h9 => h9) rfl dX5_flows_42 ?_
        refine lv_iload_n hx hb dX5_flows_45 rfl (lv_at hl 1 rfl) ?_
        refine w_top (show h = nI h.toNatClampNeg from (inN c_1 23 (by decide) (by decide)).1) ?_
        refine lv_iload_n hx hb dX5_flows_46 rfl (lv_at hl 3 rfl) ?_
        refine n_iast (f := f 9) hx hb hK.1 hP hD hS 2 0 rfl rfl (i := h.toNatClampNeg) (by omega) (by decide) dX5_flows_47 (fun H locs hP hD hS => ?_)
        have hP : va_P E.1 vwCl (MW E r (upd v 0 0) (va_up (va_up f 8 (upd (f 8) h.toNatClampNeg i1)) 9 (upd (f 9) h.toNatClampNeg o1)) B C) H := hP
        have hD : va_D A (MW E r (upd v 0 0) (va_up (va_up f 8 (upd (f 8) h.toNatClampNeg i1)) 9 (upd (f 9) h.toNatClampNeg o1)) B C) := hD
        refine lv_iconst (v := 1) hx hb dX5_flows_48 (by decide) ?_
        exact qz_ret (((upd v 0 0), (va_up (va_up f 8 (upd (f 8) h.toNatClampNeg i1)) 9 (upd (f 9) h.toNatClampNeg o1)), B, C) : MS) hx hb hr hlocks rfl (by rw [s_flows, cI_t (by simp_all)]; exact ⟨rfl, rfl⟩) hP hD hS dX5_flows_49
      · skip
        refine lv_iconst (v := 0) hx hb dX5_flows_32 (by decide) ?_
        exact qz_ret (((upd v 0 0), f, B, C) : MS) hx hb hr hlocks rfl (by rw [s_flows, cI_f (by simp_all)]; exact ⟨rfl, rfl⟩) hP hD hS dX5_flows_33
noncomputable def s_reserve (v : Nat → Int32) (f : Nat → Nat → Int32) (h : Int32) (n1 : Int32) : AN := cI (m_in h 0 23 ∧ m_in n1 0 99) (1, upd v 0 0, va_up f 10 (upd (f 10) h.toNatClampNeg n1)) (0, upd v 0 0, f)
set_option maxHeartbeats 4000000 in
set_option maxRecDepth 100000 in
theorem c_X5_reserve (l : Launch) (E : GG) (r : Nat → Nat) (v : Nat → Int32) (f : Nat → Nat → Int32) (B C : Nat → Int32) (sz : Nat) (h : Int32) (n1 : Int32)  : Met l yX5_reserve wsX5_reserve (Rm 2 0 0) (pM E [.ref (r 0), .int h, .int n1] (MW E r v f B C) sz) (va_Qi (fun (x : Int32) (u : MS) => x = (s_reserve v f h n1).1 ∧ u = ((s_reserve v f h n1).2.1, (s_reserve v f h n1).2.2, B, C)) (bM E (va_A (MW E r v f B C) sz) (MWu E r)) (va_A (MW E r v f B C) sz)) 0 0 (va_A (MW E r v f B C) sz) := by
  refine ofM (by decide) rfl (Nat.le_of_ble_eq_true rfl) ?_
  intro p e s m below meth c A hx hb hr hlocks hml hown hin hts hK hP hD hS hA hsz hAe ls hl
  rw [← hAe]
  have hl : lv_has ls 3 [(0, .ref (r 0)), (1, .int h), (2, .int n1)] := hl
  refine lv_aload_n hx hb dX5_reserve_0 rfl (lv_at hl 0 rfl) ?_
  refine lv_iconst (v := 0) hx hb dX5_reserve_1 (by decide) ?_
  refine va_put (D := E.1) (ci := 5) (v := .int 0) (ty := .int) (C := RX5) (T := TX5) (N := 26) hx hb hts (fun _ h => (List.mem_cons_of_mem _ (List.mem_append_right _ h))) tyX5 tyX5_ok nmX5 hown hK.1 hP hD hS 0 rfl rfl 0 (by decide) (hts _ (List.mem_of_getElem? (i := 1) rfl)) (fun _ h9 => h9) rfl (by decide +kernel) rfl rfl (Nat.le_of_ble_eq_true rfl) dX5_reserve_2 (fun H locs hP hD hS => ?_)
  have hP : va_P E.1 vwCl (MW E r (upd v 0 0) f B C) H := hP
  have hD : va_D A (MW E r (upd v 0 0) f B C) := hD
  refine lv_iload_n hx hb dX5_reserve_5 rfl (lv_at hl 1 rfl) ?_
  refine cR_S ⟨hx, hb, hml, hown, hts⟩ (c_X5_isHour l E h) (va_cwS 1 hts gX5_reserve_X5_isHour rfl rfl rfl (by decide +kernel) ⟨Nat.le_of_ble_eq_true rfl, Nat.le_of_ble_eq_true rfl⟩) hK nilP rfl hl.1 rfl (Nat.le_of_ble_eq_true rfl) dX5_reserve_6 ⟨Nat.le_of_ble_eq_true rfl, Nat.le_of_ble_eq_true rfl⟩ ?_
  refine b_if_eq (q := (m_in h 0 23)) (tgt := 22) hx hb dX5_reserve_9 (by decide) (fun c_1 => ?_) (fun c_1 => ?_)
  · skip
    refine lv_iconst (v := 0) hx hb dX5_reserve_22 (by decide) ?_
    exact qz_ret (((upd v 0 0), f, B, C) : MS) hx hb hr hlocks rfl (by rw [s_reserve, cI_f (by simp_all)]; exact ⟨rfl, rfl⟩) hP hD hS dX5_reserve_23
  · skip
    refine lv_iload_n hx hb dX5_reserve_12 rfl (lv_at hl 2 rfl) ?_
    refine lv_iconst (v := 0) hx hb dX5_reserve_13 (by decide) ?_
    refine lv_bipush (v := 99) hx hb dX5_reserve_14 (by decide) ?_
    refine cR_S ⟨hx, hb, hml, hown, hts⟩ (c_X5_within l E n1 0 99) (va_cwS 3 hts gX5_reserve_X5_within rfl rfl rfl (by decide +kernel) ⟨Nat.le_of_ble_eq_true rfl, Nat.le_of_ble_eq_true rfl⟩) hK nilP rfl hl.1 rfl (Nat.le_of_ble_eq_true rfl) dX5_reserve_16 ⟨Nat.le_of_ble_eq_true rfl, Nat.le_of_ble_eq_true rfl⟩ ?_
    refine b_if_ne (q := (m_in n1 0 99)) (tgt := 24) hx hb dX5_reserve_19 (by decide) (fun c_2 => ?_) (fun c_2 => ?_)
    · skip
      have hh := (inN c_1 23 (by decide) (by decide)).2
      refine lv_aload_n hx hb dX5_reserve_24 rfl (lv_at hl 0 rfl) ?_
      refine va_get (D := E.1) (ci := 5) (v := .ref (r 10)) (C := RX5) (T := TX5) (N := 26) hx hb hts (fun _ h => (List.mem_cons_of_mem _ (List.mem_append_right _ h))) hown hK.1 hP 0 rfl rfl 10 (by decide) (hts _ (List.mem_of_getElem? (i := 2) rfl)) (fun _ h9 => h9) rfl dX5_reserve_25 ?_
      refine lv_iload_n hx hb dX5_reserve_28 rfl (lv_at hl 1 rfl) ?_
      refine w_top (show h = nI h.toNatClampNeg from (inN c_1 23 (by decide) (by decide)).1) ?_
      refine lv_iload_n hx hb dX5_reserve_29 rfl (lv_at hl 2 rfl) ?_
      refine n_iast (f := f 10) hx hb hK.1 hP hD hS 3 0 rfl rfl (i := h.toNatClampNeg) (by omega) (by decide) dX5_reserve_30 (fun H locs hP hD hS => ?_)
      have hP : va_P E.1 vwCl (MW E r (upd v 0 0) (va_up f 10 (upd (f 10) h.toNatClampNeg n1)) B C) H := hP
      have hD : va_D A (MW E r (upd v 0 0) (va_up f 10 (upd (f 10) h.toNatClampNeg n1)) B C) := hD
      refine lv_iconst (v := 1) hx hb dX5_reserve_31 (by decide) ?_
      exact qz_ret (((upd v 0 0), (va_up f 10 (upd (f 10) h.toNatClampNeg n1)), B, C) : MS) hx hb hr hlocks rfl (by rw [s_reserve, cI_t (by simp_all)]; exact ⟨rfl, rfl⟩) hP hD hS dX5_reserve_32
    · skip
      refine lv_iconst (v := 0) hx hb dX5_reserve_22 (by decide) ?_
      exact qz_ret (((upd v 0 0), f, B, C) : MS) hx hb hr hlocks rfl (by rw [s_reserve, cI_f (by simp_all)]; exact ⟨rfl, rfl⟩) hP hD hS dX5_reserve_23
noncomputable def s_machine (v : Nat → Int32) (f : Nat → Nat → Int32) (k : Int32) (d1 : Int32) (g1 : Int32) (u1 : Int32) (t1 : Int32) (s1 : Int32) : AN := cI (m_in k 0 1 ∧ m_in d1 0 99 ∧ m_in g1 0 99 ∧ m_in u1 0 99 ∧ m_in t1 0 99 ∧ m_in s1 0 99) (1, upd v 0 0, va_up (va_up (va_up (va_up (va_up f 11 (upd (f 11) k.toNatClampNeg d1)) 12 (upd (f 12) k.toNatClampNeg g1)) 13 (upd (f 13) k.toNatClampNeg u1)) 14 (upd (f 14) k.toNatClampNeg t1)) 15 (upd (f 15) k.toNatClampNeg s1)) (0, upd v 0 0, f)
