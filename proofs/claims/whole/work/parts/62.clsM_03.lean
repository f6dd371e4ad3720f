set_option maxHeartbeats 4000000 in
set_option maxRecDepth 100000 in
theorem c_X4_flows (l : Launch) (E : GG) (r z : Nat → Nat) (v : Nat → Int32) (f : Nat → Nat → Int32) (sz : Nat) (h : Int32) (i1 : Int32) (o1 : Int32)  : Met l yX4_flows wsX4_flows (Rm 2 0 0) (pM E [.ref (r 0), .int h, .int i1, .int o1] (CZ E r z v f) sz) (va_Qi (fun (x : Int32) (u : CS) => x = (t_flows v f h i1 o1).1 ∧ u = (z, (t_flows v f h i1 o1).2.1, (t_flows v f h i1 o1).2.2)) (bM E (va_A (CZ E r z v f) sz) (fun (u : CS) => CZ E r u.1 u.2.1 u.2.2)) (va_A (CZ E r z v f) sz)) 0 0 (va_A (CZ E r z v f) sz) := by
  refine ofM (by decide) rfl (Nat.le_of_ble_eq_true rfl) ?_
  intro p e s m below meth c A hx hb hr hlocks hml hown hin hts hK hP hD hS hA hsz hAe ls hl
  rw [← hAe]
  have hl : lv_has ls 4 [(0, .ref (r 0)), (1, .int h), (2, .int i1), (3, .int o1)] := hl
  refine lv_iload_n hx hb dX4_flows_0 rfl (lv_at hl 1 rfl) ?_
  refine cR_S ⟨hx, hb, hml, hown, hts⟩ (c_X4_isHour l E h) (va_cwS 1 hts gX4_flows_X4_isHour rfl rfl rfl (by decide +kernel) ⟨Nat.le_of_ble_eq_true rfl, Nat.le_of_ble_eq_true rfl⟩) hK nilP rfl hl.1 rfl (Nat.le_of_ble_eq_true rfl) dX4_flows_1 ⟨Nat.le_of_ble_eq_true rfl, Nat.le_of_ble_eq_true rfl⟩ ?_
  refine b_if_eq (q := (m_in h 0 23)) (tgt := 27) hx hb dX4_flows_4 (by decide) (fun c_1 => ?_) (fun c_1 => ?_)
  · skip
    refine lv_iconst (v := 0) hx hb dX4_flows_27 (by decide) ?_
    exact qz_ret ((z, v, f) : CS) hx hb hr hlocks rfl (by rw [t_flows, cI_f (by simp_all)]; exact ⟨rfl, rfl⟩) hP hD hS dX4_flows_28
  · skip
    refine lv_iload_n hx hb dX4_flows_7 rfl (lv_at hl 2 rfl) ?_
    refine lv_iconst (v := 0) hx hb dX4_flows_8 (by decide) ?_
    refine lv_bipush (v := 9) hx hb dX4_flows_9 (by decide) ?_
    refine cR_S ⟨hx, hb, hml, hown, hts⟩ (c_X4_within l E i1 0 9) (va_cwS 3 hts gX4_flows_X4_within rfl rfl rfl (by decide +kernel) ⟨Nat.le_of_ble_eq_true rfl, Nat.le_of_ble_eq_true rfl⟩) hK nilP rfl hl.1 rfl (Nat.le_of_ble_eq_true rfl) dX4_flows_11 ⟨Nat.le_of_ble_eq_true rfl, Nat.le_of_ble_eq_true rfl⟩ ?_
    refine b_if_eq (q := (m_in i1 0 9)) (tgt := 27) hx hb dX4_flows_14 (by decide) (fun c_2 => ?_) (fun c_2 => ?_)
    · skip
      refine lv_iconst (v := 0) hx hb dX4_flows_27 (by decide) ?_
      exact qz_ret ((z, v, f) : CS) hx hb hr hlocks rfl (by rw [t_flows, cI_f (by simp_all)]; exact ⟨rfl, rfl⟩) hP hD hS dX4_flows_28
    · skip
      refine lv_iload_n hx hb dX4_flows_17 rfl (lv_at hl 3 rfl) ?_
      refine lv_iconst (v := 0) hx hb dX4_flows_18 (by decide) ?_
      refine lv_bipush (v := 9) hx hb dX4_flows_19 (by decide) ?_
      refine cR_S ⟨hx, hb, hml, hown, hts⟩ (c_X4_within l E o1 0 9) (va_cwS 3 hts gX4_flows_X4_within rfl rfl rfl (by decide +kernel) ⟨Nat.le_of_ble_eq_true rfl, Nat.le_of_ble_eq_true rfl⟩) hK nilP rfl hl.1 rfl (Nat.le_of_ble_eq_true rfl) dX4_flows_21 ⟨Nat.le_of_ble_eq_true rfl, Nat.le_of_ble_eq_true rfl⟩ ?_
      refine b_if_ne (q := (m_in o1 0 9)) (tgt := 29) hx hb dX4_flows_24 (by decide) (fun c_3 => ?_) (fun c_3 => ?_)
      · skip
        have hh := (inN c_1 23 (by decide) (by decide)).2
        refine lv_aload_n hx hb dX4_flows_29 rfl (lv_at hl 0 rfl) ?_
        refine va_get (D := E.1) (ci := 4) (v := .ref (r 1)) (C := RX4) (T := TX4) (N := 13) hx hb hts (fun _ h => (List.mem_cons_of_mem _ (List.mem_append_left _ (List.mem_append_right _ h)))) hown hK.1 hP 15 rfl rfl 0 (by decide) (hts _ (List.mem_of_getElem? (i := 1) rfl)) (fun _ h9 => h9) rfl dX4_flows_30 ?_
        refine va_getN (D := E.1) (ci := 1) (v := .ref (r 13)) (C := RX1) (T := TX1) (N := 9) (host := "TwoLakes") (ref := RX1) hx hb hts (fun _ h => (List.mem_cons_of_mem _ (List.mem_append_right _ h))) hown hK.1 hP 1 rfl rfl 6 (by decide) (va_Nw.use rfl (hK.2.1 (RX4, 106, RX1, "inflow", "[I") (List.mem_of_getElem? (i := 9) rfl))) (fun _ h9 => h9) rfl dX4_flows_33 ?_
        refine lv_iload_n hx hb dX4_flows_36 rfl (lv_at hl 1 rfl) ?_
        refine w_top (show h = nI h.toNatClampNeg from (inN c_1 23 (by decide) (by decide)).1) ?_
        refine lv_iload_n hx hb dX4_flows_37 rfl (lv_at hl 2 rfl) ?_
        refine n_iast (f := f 13) hx hb hK.1 hP hD hS 4 0 rfl rfl (i := h.toNatClampNeg) (by omega) (by decide) dX4_flows_38 (fun H locs hP hD hS => ?_)
        have hP : va_P E.1 vwCl (CZ E r z v (va_up f 13 (upd (f 13) h.toNatClampNeg i1))) H := hP
        have hD : va_D A (CZ E r z v (va_up f 13 (upd (f 13) h.toNatClampNeg i1))) := hD
        refine lv_aload_n hx hb dX4_flows_39 rfl (lv_at hl 0 rfl) ?_
        refine va_get (D := E.1) (ci := 4) (v := .ref (r 1)) (C := RX4) (T := TX4) (N := 13) hx hb hts (fun _ h => (List.mem_cons_of_mem _ (List.mem_append_left _ (List.mem_append_right _ h)))) hown hK.1 hP 15 rfl rfl 0 (by decide) (hts _ (List.mem_of_getElem? (i := 1) rfl)) (fun _ h9 => h9) rfl dX4_flows_40 ?_
        refine va_getN (D := E.1) (ci := 1) (v := .ref (r 14)) (C := RX1) (T := TX1) (N := 9) (host := "TwoLakes") (ref := RX1) hx hb hts (fun _ h => (List.mem_cons_of_mem _ (List.mem_append_right _ h))) hown hK.1 hP 1 rfl rfl 7 (by decide) (va_Nw.use rfl (hK.2.1 (RX4, 109, RX1, "outflow", "[I") (List.mem_of_getElem? (i := 11) rfl))) (fun _ h9 => h9) rfl dX4_flows_43 ?_
        refine lv_iload_n hx hb dX4_flows_46 rfl (lv_at hl 1 rfl) ?_
        refine w_top (show h = nI h.toNatClampNeg from (inN c_1 23 (by decide) (by decide)).1) ?_
        refine lv_iload_n hx hb dX4_flows_47 rfl (lv_at hl 3 rfl) ?_
        refine n_iast (f := f 14) hx hb hK.1 hP hD hS 5 0 rfl rfl (i := h.toNatClampNeg) (by omega) (by decide) dX4_flows_48 (fun H locs hP hD hS => ?_)
        have hP : va_P E.1 vwCl (CZ E r z v (va_up (va_up f 13 (upd (f 13) h.toNatClampNeg i1)) 14 (upd (f 14) h.toNatClampNeg o1))) H := hP
        have hD : va_D A (CZ E r z v (va_up (va_up f 13 (upd (f 13) h.toNatClampNeg i1)) 14 (upd (f 14) h.toNatClampNeg o1))) := hD
        refine lv_aload_n hx hb dX4_flows_49 rfl (lv_at hl 0 rfl) ?_
        refine cM_i (As := [.ref (r 0)]) (wr := []) (rM_V ⟨hx, hb, hml, hown, hts⟩ (c_X4_changed l E r z v (va_up (va_up f 13 (upd (f 13) h.toNatClampNeg i1)) 14 (upd (f 14) h.toNatClampNeg o1)) H.size) (cwV 0 hts gX4_flows_X4_changed rfl rfl rfl (by decide +kernel) ⟨Nat.le_of_ble_eq_true rfl, Nat.le_of_ble_eq_true rfl⟩) hK hP hD 4 15 rfl rfl rfl hl.1 rfl (Nat.le_of_ble_eq_true rfl) dX4_flows_50 ⟨Nat.le_of_ble_eq_true rfl, Nat.le_of_ble_eq_true rfl⟩) hP hD hS hA [0, 1, 2, 3, 4, 5, 6, 7, 8, 9, 10, 11, 12, 13, 14, 15, 16, 17, 18, 19, 20, 21, 22, 23, 24, 25, 26, 27, 28, 29, 30, 31, 32, 33, 34, 35, 36, 37, 38, 39] [] rfl rfl (by decide) (by decide) (fun x_4 u_4 H locs hq_4 hP hD hS => ?_)
        obtain ⟨rfl, rfl⟩ := hq_4
        have hP : va_P E.1 vwCl (CZ E r z v (chg (va_up (va_up f 13 (upd (f 13) h.toNatClampNeg i1)) 14 (upd (f 14) h.toNatClampNeg o1)))) H := hP
        have hD : va_D A (CZ E r z v (chg (va_up (va_up f 13 (upd (f 13) h.toNatClampNeg i1)) 14 (upd (f 14) h.toNatClampNeg o1)))) := hD
        exact qz_ret ((z, v, (chg (va_up (va_up f 13 (upd (f 13) h.toNatClampNeg i1)) 14 (upd (f 14) h.toNatClampNeg o1)))) : CS) hx hb hr hlocks rfl (by rw [t_flows, cI_t (by simp_all)]; exact ⟨rfl, rfl⟩) hP hD hS dX4_flows_53
      · skip
        refine lv_iconst (v := 0) hx hb dX4_flows_27 (by decide) ?_
        exact qz_ret ((z, v, f) : CS) hx hb hr hlocks rfl (by rw [t_flows, cI_f (by simp_all)]; exact ⟨rfl, rfl⟩) hP hD hS dX4_flows_28
noncomputable def t_reserve (v : Nat → Int32) (f : Nat → Nat → Int32) (h : Int32) (n1 : Int32) : AN := cI (m_in h 0 23 ∧ m_in n1 0 99) (1, v, chg (va_up f 15 (upd (f 15) h.toNatClampNeg n1))) (0, v, f)
set_option maxHeartbeats 4000000 in
set_option maxRecDepth 100000 in
theorem c_X4_reserve (l : Launch) (E : GG) (r z : Nat → Nat) (v : Nat → Int32) (f : Nat → Nat → Int32) (sz : Nat) (h : Int32) (n1 : Int32)  : Met l yX4_reserve wsX4_reserve (Rm 2 0 0) (pM E [.ref (r 0), .int h, .int n1] (CZ E r z v f) sz) (va_Qi (fun (x : Int32) (u : CS) => x = (t_reserve v f h n1).1 ∧ u = (z, (t_reserve v f h n1).2.1, (t_reserve v f h n1).2.2)) (bM E (va_A (CZ E r z v f) sz) (fun (u : CS) => CZ E r u.1 u.2.1 u.2.2)) (va_A (CZ E r z v f) sz)) 0 0 (va_A (CZ E r z v f) sz) := by
  refine ofM (by decide) rfl (Nat.le_of_ble_eq_true rfl) ?_
  intro p e s m below meth c A hx hb hr hlocks hml hown hin hts hK hP hD hS hA hsz hAe ls hl
  rw [← hAe]
  have hl : lv_has ls 3 [(0, .ref (r 0)), (1, .int h), (2, .int n1)] := hl
  refine lv_iload_n hx hb dX4_reserve_0 rfl (lv_at hl 1 rfl) ?_
  refine cR_S ⟨hx, hb, hml, hown, hts⟩ (c_X4_isHour l E h) (va_cwS 1 hts gX4_reserve_X4_isHour rfl rfl rfl (by decide +kernel) ⟨Nat.le_of_ble_eq_true rfl, Nat.le_of_ble_eq_true rfl⟩) hK nilP rfl hl.1 rfl (Nat.le_of_ble_eq_true rfl) dX4_reserve_1 ⟨Nat.le_of_ble_eq_true rfl, Nat.le_of_ble_eq_true rfl⟩ ?_
  refine b_if_eq (q := (m_in h 0 23)) (tgt := 17) hx hb dX4_reserve_4 (by decide) (fun c_1 => ?_) (fun c_1 => ?_)
  · skip
    refine lv_iconst (v := 0) hx hb dX4_reserve_17 (by decide) ?_
    exact qz_ret ((z, v, f) : CS) hx hb hr hlocks rfl (by rw [t_reserve, cI_f (by simp_all)]; exact ⟨rfl, rfl⟩) hP hD hS dX4_reserve_18
  · skip
    refine lv_iload_n hx hb dX4_reserve_7 rfl (lv_at hl 2 rfl) ?_
    refine lv_iconst (v := 0) hx hb dX4_reserve_8 (by decide) ?_
    refine lv_bipush (v := 99) hx hb dX4_reserve_9 (by decide) ?_
    refine cR_S ⟨hx, hb, hml, hown, hts⟩ (c_X4_within l E n1 0 99) (va_cwS 3 hts gX4_reserve_X4_within rfl rfl rfl (by decide +kernel) ⟨Nat.le_of_ble_eq_true rfl, Nat.le_of_ble_eq_true rfl⟩) hK nilP rfl hl.1 rfl (Nat.le_of_ble_eq_true rfl) dX4_reserve_11 ⟨Nat.le_of_ble_eq_true rfl, Nat.le_of_ble_eq_true rfl⟩ ?_
    refine b_if_ne (q := (m_in n1 0 99)) (tgt := 19) hx hb dX4_reserve_14 (by decide) (fun c_2 => ?_) (fun c_2 => ?_)
    · skip
      have hh := (inN c_1 23 (by decide) (by decide)).2
      refine lv_aload_n hx hb dX4_reserve_19 rfl (lv_at hl 0 rfl) ?_
      refine va_get (D := E.1) (ci := 4) (v := .ref (r 1)) (C := RX4) (T := TX4) (N := 13) hx hb hts (fun _ h => (List.mem_cons_of_mem _ (List.mem_append_left _ (List.mem_append_right _ h)))) hown hK.1 hP 15 rfl rfl 0 (by decide) (hts _ (List.mem_of_getElem? (i := 1) rfl)) (fun _ h9 => h9) rfl dX4_reserve_20 ?_
      refine va_getN (D := E.1) (ci := 1) (v := .ref (r 15)) (C := RX1) (T := TX1) (N := 9) (host := "TwoLakes") (ref := RX1) hx hb hts (fun _ h => (List.mem_cons_of_mem _ (List.mem_append_right _ h))) hown hK.1 hP 1 rfl rfl 8 (by decide) (va_Nw.use rfl (hK.2.1 (RX4, 141, RX1, "promised", "[I") (List.mem_of_getElem? (i := 13) rfl))) (fun _ h9 => h9) rfl dX4_reserve_23 ?_
      refine lv_iload_n hx hb dX4_reserve_26 rfl (lv_at hl 1 rfl) ?_
      refine w_top (show h = nI h.toNatClampNeg from (inN c_1 23 (by decide) (by decide)).1) ?_
      refine lv_iload_n hx hb dX4_reserve_27 rfl (lv_at hl 2 rfl) ?_
      refine n_iast (f := f 15) hx hb hK.1 hP hD hS 6 0 rfl rfl (i := h.toNatClampNeg) (by omega) (by decide) dX4_reserve_28 (fun H locs hP hD hS => ?_)
      have hP : va_P E.1 vwCl (CZ E r z v (va_up f 15 (upd (f 15) h.toNatClampNeg n1))) H := hP
      have hD : va_D A (CZ E r z v (va_up f 15 (upd (f 15) h.toNatClampNeg n1))) := hD
      refine lv_aload_n hx hb dX4_reserve_29 rfl (lv_at hl 0 rfl) ?_
      refine cM_i (As := [.ref (r 0)]) (wr := []) (rM_V ⟨hx, hb, hml, hown, hts⟩ (c_X4_changed l E r z v (va_up f 15 (upd (f 15) h.toNatClampNeg n1)) H.size) (cwV 0 hts gX4_reserve_X4_changed rfl rfl rfl (by decide +kernel) ⟨Nat.le_of_ble_eq_true rfl, Nat.le_of_ble_eq_true rfl⟩) hK hP hD 4 15 rfl rfl rfl hl.1 rfl (Nat.le_of_ble_eq_true rfl) dX4_reserve_30 ⟨Nat.le_of_ble_eq_true rfl, Nat.le_of_ble_eq_true rfl⟩) hP hD hS hA [0, 1, 2, 3, 4, 5, 6, 7, 8, 9, 10, 11, 12, 13, 14, 15, 16, 17, 18, 19, 20, 21, 22, 23, 24, 25, 26, 27, 28, 29, 30, 31, 32, 33, 34, 35, 36, 37, 38, 39] [] rfl rfl (by decide) (by decide) (fun x_3 u_3 H locs hq_3 hP hD hS => ?_)
      obtain ⟨rfl, rfl⟩ := hq_3
      have hP : va_P E.1 vwCl (CZ E r z v (chg (va_up f 15 (upd (f 15) h.toNatClampNeg n1)))) H := hP
      have hD : va_D A (CZ E r z v (chg (va_up f 15 (upd (f 15) h.toNatClampNeg n1)))) := hD
      exact qz_ret ((z, v, (chg (va_up f 15 (upd (f 15) h.toNatClampNeg n1)))) : CS) hx hb hr hlocks rfl (by rw [t_reserve, cI_t (by simp_all)]; exact ⟨rfl, rfl⟩) hP hD hS dX4_reserve_33
    · skip
      refine lv_iconst (v := 0) hx hb dX4_reserve_17 (by decide) ?_
      exact qz_ret ((z, v, f) : CS) hx hb hr hlocks rfl (by rw [t_reserve, cI_f (by simp_all)]; exact ⟨rfl, rfl⟩) hP hD hS dX4_reserve_18
noncomputable def t_weights (v : Nat → Int32) (f : Nat → Nat → Int32) (a : Int32) (b : Int32) (c1 : Int32) : AN := cI (m_in a 0 9 ∧ m_in b 0 9 ∧ m_in c1 0 9 ∧ ¬ a + b + c1 = 0) (1, v, chg (va_up (va_up (va_up f 10 (upd (f 10) 0 a)) 10 (upd (upd (f 10) 0 a) 1 b)) 10 (upd (upd (upd (f 10) 0 a) 1 b) 2 c1))) (0, v, f)
