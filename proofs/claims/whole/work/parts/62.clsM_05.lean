set_option maxHeartbeats 4000000 in
set_option maxRecDepth 100000 in
theorem c_X4_price (l : Launch) (E : GG) (r z : Nat → Nat) (v : Nat → Int32) (f : Nat → Nat → Int32) (sz : Nat) (w : Int32) (h : Int32) (n1 : Int32)  : Met l yX4_price wsX4_price (Rm 2 0 0) (pM E [.ref (r 0), .int w, .int h, .int n1] (CZ E r z v f) sz) (va_Qi (fun (x : Int32) (u : CS) => x = (t_price v f w h n1).1 ∧ u = (z, (t_price v f w h n1).2.1, (t_price v f w h n1).2.2)) (bM E (va_A (CZ E r z v f) sz) (fun (u : CS) => CZ E r u.1 u.2.1 u.2.2)) (va_A (CZ E r z v f) sz)) 0 0 (va_A (CZ E r z v f) sz) := by
  refine ofM (by decide) rfl (Nat.le_of_ble_eq_true rfl) ?_
  intro p e s m below meth c A hx hb hr hlocks hml hown hin hts hK hP hD hS hA hsz hAe ls hl
  rw [← hAe]
  have hl : lv_has ls 4 [(0, .ref (r 0)), (1, .int w), (2, .int h), (3, .int n1)] := hl
  refine lv_iload_n hx hb dX4_price_0 rfl (lv_at hl 1 rfl) ?_
  refine cR_S ⟨hx, hb, hml, hown, hts⟩ (c_X4_isWorld l E w) (va_cwS 1 hts gX4_price_X4_isWorld rfl rfl rfl (by decide +kernel) ⟨Nat.le_of_ble_eq_true rfl, Nat.le_of_ble_eq_true rfl⟩) hK nilP rfl hl.1 rfl (Nat.le_of_ble_eq_true rfl) dX4_price_1 ⟨Nat.le_of_ble_eq_true rfl, Nat.le_of_ble_eq_true rfl⟩ ?_
  refine b_if_eq (q := (m_in w 0 2)) (tgt := 26) hx hb dX4_price_4 (by decide) (fun c_1 => ?_) (fun c_1 => ?_)
  · skip
    refine lv_iconst (v := 0) hx hb dX4_price_26 (by decide) ?_
    exact qz_ret ((z, v, f) : CS) hx hb hr hlocks rfl (by rw [t_price, cI_f (by simp_all)]; exact ⟨rfl, rfl⟩) hP hD hS dX4_price_27
  · skip
    refine lv_iload_n hx hb dX4_price_7 rfl (lv_at hl 2 rfl) ?_
    refine cR_S ⟨hx, hb, hml, hown, hts⟩ (c_X4_isHour l E h) (va_cwS 1 hts gX4_price_X4_isHour rfl rfl rfl (by decide +kernel) ⟨Nat.le_of_ble_eq_true rfl, Nat.le_of_ble_eq_true rfl⟩) hK nilP rfl hl.1 rfl (Nat.le_of_ble_eq_true rfl) dX4_price_8 ⟨Nat.le_of_ble_eq_true rfl, Nat.le_of_ble_eq_true rfl⟩ ?_
    refine b_if_eq (q := (m_in h 0 23)) (tgt := 26) hx hb dX4_price_11 (by decide) (fun c_2 => ?_) (fun c_2 => ?_)
    · skip
      refine lv_iconst (v := 0) hx hb dX4_price_26 (by decide) ?_
      exact qz_ret ((z, v, f) : CS) hx hb hr hlocks rfl (by rw [t_price, cI_f (by simp_all)]; exact ⟨rfl, rfl⟩) hP hD hS dX4_price_27
    · skip
      refine lv_iload_n hx hb dX4_price_14 rfl (lv_at hl 3 rfl) ?_
      refine lv_bipush (v := (-99)) hx hb dX4_price_15 (by decide) ?_
      refine lv_sipush (v := 999) hx hb dX4_price_17 (by decide) ?_
      refine cR_S ⟨hx, hb, hml, hown, hts⟩ (c_X4_within l E n1 (-99) 999) (va_cwS 3 hts gX4_price_X4_within rfl rfl rfl (by decide +kernel) ⟨Nat.le_of_ble_eq_true rfl, Nat.le_of_ble_eq_true rfl⟩) hK nilP rfl hl.1 rfl (Nat.le_of_ble_eq_true rfl) dX4_price_20 ⟨Nat.le_of_ble_eq_true rfl, Nat.le_of_ble_eq_true rfl⟩ ?_
      refine b_if_ne (q := (m_in n1 (-99) 999)) (tgt := 28) hx hb dX4_price_23 (by decide) (fun c_3 => ?_) (fun c_3 => ?_)
      · skip
        have hh := (inN c_2 23 (by decide) (by decide)).2
        rcases in012 c_1 with rfl | rfl | rfl
        · skip
          refine lv_aload_n hx hb dX4_price_28 rfl (lv_at hl 0 rfl) ?_
          refine va_get (D := E.1) (ci := 4) (v := .ref (r 9)) (C := RX4) (T := TX4) (N := 13) hx hb hts (fun _ h => (List.mem_cons_of_mem _ (List.mem_append_left _ (List.mem_append_right _ h)))) hown hK.1 hP 15 rfl rfl 4 (by decide) (hts _ (List.mem_of_getElem? (i := 1) rfl)) (fun _ h9 => h9) rfl dX4_price_29 ?_
          refine lv_iload_n hx hb dX4_price_32 rfl (lv_at hl 1 rfl) ?_
          refine va_aldq (i := 0) (C := "TwoLakes$Outlook") (f := va_up (va_up (va_up (fun _ => none) 0 (some (r 5))) 1 (some (r 6))) 2 (some (r 7))) hx hb hK.1 hP 16 2 rfl rfl (show ¬ ((0 : Int32) < 0 ∨ 3 ≤ (0 : Int32).toNatClampNeg) by decide) dX4_price_33 ?_
          refine W.eq (g2 := F0 m 34 ls [.ref (r 5)]) rfl ?_
          refine va_getN (D := E.1) (ci := 3) (v := .ref (r 24)) (C := RX3) (T := TX3) (N := 5) (host := "TwoLakes") (ref := RX3) hx hb hts (fun _ h => (List.mem_cons_of_mem _ (List.mem_append_right _ h))) hown hK.1 hP 20 rfl rfl 0 (by decide) (va_Nw.use rfl (hK.2.1 (RX4, 147, RX3, "prices", "[I") (List.mem_of_getElem? (i := 31) rfl))) (fun _ h9 => h9) rfl dX4_price_34 ?_
          refine lv_iload_n hx hb dX4_price_37 rfl (lv_at hl 2 rfl) ?_
          refine w_top (show h = nI h.toNatClampNeg from (inN c_2 23 (by decide) (by decide)).1) ?_
          refine lv_iload_n hx hb dX4_price_38 rfl (lv_at hl 3 rfl) ?_
          refine n_iast (f := f 24) hx hb hK.1 hP hD hS 21 0 rfl rfl (i := h.toNatClampNeg) (by omega) (by decide) dX4_price_39 (fun H locs hP hD hS => ?_)
          have hP : va_P E.1 vwCl (CZ E r z v (va_up f 24 (upd (f 24) h.toNatClampNeg n1))) H := hP
          have hD : va_D A (CZ E r z v (va_up f 24 (upd (f 24) h.toNatClampNeg n1))) := hD
          refine lv_aload_n hx hb dX4_price_40 rfl (lv_at hl 0 rfl) ?_
          refine cM_i (As := [.ref (r 0)]) (wr := []) (rM_V ⟨hx, hb, hml, hown, hts⟩ (c_X4_changed l E r z v (va_up f 24 (upd (f 24) h.toNatClampNeg n1)) H.size) (cwV 0 hts gX4_price_X4_changed rfl rfl rfl (by decide +kernel) ⟨Nat.le_of_ble_eq_true rfl, Nat.le_of_ble_eq_true rfl⟩) hK hP hD 4 15 rfl rfl rfl hl.1 rfl (Nat.le_of_ble_eq_true rfl) dX4_price_41 ⟨Nat.le_of_ble_eq_true rfl, Nat.le_of_ble_eq_true rfl⟩) hP hD hS hA [0, 1, 2, 3, 4, 5, 6, 7, 8, 9, 10, 11, 12, 13, 14, 15, 16, 17, 18, 19, 20, 21, 22, 23, 24, 25, 26, 27, 28, 29, 30, 31, 32, 33, 34, 35, 36, 37, 38, 39] [] rfl rfl (by decide) (by decide) (fun x_4 u_4 H locs hq_4 hP hD hS => ?_)
          obtain ⟨rfl, rfl⟩ := hq_4
          have hP : va_P E.1 vwCl (CZ E r z v (chg (va_up f 24 (upd (f 24) h.toNatClampNeg n1)))) H := hP
          have hD : va_D A (CZ E r z v (chg (va_up f 24 (upd (f 24) h.toNatClampNeg n1)))) := hD
          exact qz_ret ((z, v, (chg (va_up f 24 (upd (f 24) h.toNatClampNeg n1)))) : CS) hx hb hr hlocks rfl (by rw [t_price, cI_t (by simp_all)]; exact ⟨rfl, rfl⟩) hP hD hS dX4_price_44
        · skip
          refine lv_aload_n hx hb dX4_price_28 rfl (lv_at hl 0 rfl) ?_
          refine va_get (D := E.1) (ci := 4) (v := .ref (r 9)) (C := RX4) (T := TX4) (N := 13) hx hb hts (fun _ h => (List.mem_cons_of_mem _ (List.mem_append_left _ (List.mem_append_right _ h)))) hown hK.1 hP 15 rfl rfl 4 (by decide) (hts _ (List.mem_of_getElem? (i := 1) rfl)) (fun _ h9 => h9) rfl dX4_price_29 ?_
          refine lv_iload_n hx hb dX4_price_32 rfl (lv_at hl 1 rfl) ?_
          refine va_aldq (i := 1) (C := "TwoLakes$Outlook") (f := va_up (va_up (va_up (fun _ => none) 0 (some (r 5))) 1 (some (r 6))) 2 (some (r 7))) hx hb hK.1 hP 16 2 rfl rfl (show ¬ ((1 : Int32) < 0 ∨ 3 ≤ (1 : Int32).toNatClampNeg) by decide) dX4_price_33 ?_
          refine W.eq (g2 := F0 m 34 ls [.ref (r 6)]) rfl ?_
          refine va_getN (D := E.1) (ci := 3) (v := .ref (r 25)) (C := RX3) (T := TX3) (N := 5) (host := "TwoLakes") (ref := RX3) hx hb hts (fun _ h => (List.mem_cons_of_mem _ (List.mem_append_right _ h))) hown hK.1 hP 25 rfl rfl 0 (by decide) (va_Nw.use rfl (hK.2.1 (RX4, 147, RX3, "prices", "[I") (List.mem_of_getElem? (i := 31) rfl))) (fun _ h9 => h9) rfl dX4_price_34 ?_
          refine lv_iload_n hx hb dX4_price_37 rfl (lv_at hl 2 rfl) ?_
          refine w_top (show h = nI h.toNatClampNeg from (inN c_2 23 (by decide) (by decide)).1) ?_
          refine lv_iload_n hx hb dX4_price_38 rfl (lv_at hl 3 rfl) ?_
          refine n_iast (f := f 25) hx hb hK.1 hP hD hS 26 0 rfl rfl (i := h.toNatClampNeg) (by omega) (by decide) dX4_price_39 (fun H locs hP hD hS => ?_)
          have hP : va_P E.1 vwCl (CZ E r z v (va_up f 25 (upd (f 25) h.toNatClampNeg n1))) H := hP
          have hD : va_D A (CZ E r z v (va_up f 25 (upd (f 25) h.toNatClampNeg n1))) := hD
          refine lv_aload_n hx hb dX4_price_40 rfl (lv_at hl 0 rfl) ?_
          refine cM_i (As := [.ref (r 0)]) (wr := []) (rM_V ⟨hx, hb, hml, hown, hts⟩ (c_X4_changed l E r z v (va_up f 25 (upd (f 25) h.toNatClampNeg n1)) H.size) (cwV 0 hts gX4_price_X4_changed rfl rfl rfl (by decide +kernel) ⟨Nat.le_of_ble_eq_true rfl, Nat.le_of_ble_eq_true rfl⟩) hK hP hD 4 15 rfl rfl rfl hl.1 rfl (Nat.le_of_ble_eq_true rfl) dX4_price_41 ⟨Nat.le_of_ble_eq_true rfl, Nat.le_of_ble_eq_true rfl⟩) hP hD hS hA [0, 1, 2, 3, 4, 5, 6, 7, 8, 9, 10, 11, 12, 13, 14, 15, 16, 17, 18, 19, 20, 21, 22, 23, 24, 25, 26, 27, 28, 29, 30, 31, 32, 33, 34, 35, 36, 37, 38, 39] [] rfl rfl (by decide) (by decide) (fun x_5 u_5 H locs hq_5 hP hD hS => ?_)
          obtain ⟨rfl, rfl⟩ := hq_5
          have hP : va_P E.1 vwCl (CZ E r z v (chg (va_up f 25 (upd (f 25) h.toNatClampNeg n1)))) H := hP
          have hD : va_D A (CZ E r z v (chg (va_up f 25 (upd (f 25) h.toNatClampNeg n1)))) := hD
          exact qz_ret ((z, v, (chg (va_up f 25 (upd (f 25) h.toNatClampNeg n1)))) : CS) hx hb hr hlocks rfl (by rw [t_price, cI_t (by simp_all)]; exact ⟨rfl, rfl⟩) hP hD hS dX4_price_44
        · skip
          refine lv_aload_n hx hb dX4_price_28 rfl (lv_at hl 0 rfl) ?_
          refine va_get (D := E.1) (ci := 4) (v := .ref (r 9)) (C := RX4) (T := TX4) (N := 13) hx hb hts (fun _ h => (List.mem_cons_of_mem _ (List.mem_append_left _ (List.mem_append_right _ h)))) hown hK.1 hP 15 rfl rfl 4 (by decide) (hts _ (List.mem_of_getElem? (i := 1) rfl)) (fun _ h9 => h9) rfl dX4_price_29 ?_
          refine lv_iload_n hx hb dX4_price_32 rfl (lv_at hl 1 rfl) ?_
          refine va_aldq (i := 2) (C := "TwoLakes$Outlook") (f := va_up (va_up (va_up (fun _ => none) 0 (some (r 5))) 1 (some (r 6))) 2 (some (r 7))) hx hb hK.1 hP 16 2 rfl rfl (show ¬ ((2 : Int32) < 0 ∨ 3 ≤ (2 : Int32).toNatClampNeg) by decide) dX4_price_33 ?_
          refine W.eq (g2 := F0 m 34 ls [.ref (r 7)]) rfl ?_
          refine va_getN (D := E.1) (ci := 3) (v := .ref (r 26)) (C := RX3) (T := TX3) (N := 5) (host := "TwoLakes") (ref := RX3) hx hb hts (fun _ h => (List.mem_cons_of_mem _ (List.mem_append_right _ h))) hown hK.1 hP 30 rfl rfl 0 (by decide) (va_Nw.use rfl (hK.2.1 (RX4, 147, RX3, "prices", "[I") (List.mem_of_getElem? (i := 31) rfl))) (fun _ h9 => h9) rfl dX4_price_34 ?_
          refine lv_iload_n hx hb dX4_price_37 rfl (lv_at hl 2 rfl) ?_
          refine w_top (show h = nI h.toNatClampNeg from (inN c_2 23 (by decide) (by decide)).1) ?_
          refine lv_iload_n hx hb dX4_price_38 rfl (lv_at hl 3 rfl) ?_
          refine n_iast (f := f 26) hx hb hK.1 hP hD hS 31 0 rfl rfl (i := h.toNatClampNeg) (by omega) (by decide) dX4_price_39 (fun H locs hP hD hS => ?_)
          have hP : va_P E.1 vwCl (CZ E r z v (va_up f 26 (upd (f 26) h.toNatClampNeg n1))) H := hP
          have hD : va_D A (CZ E r z v (va_up f 26 (upd (f 26) h.toNatClampNeg n1))) := hD
          refine lv_aload_n hx hb dX4_price_40 rfl (lv_at hl 0 rfl) ?_
          refine cM_i (As := [.ref (r 0)]) (wr := []) (rM_V ⟨hx, hb, hml, hown, hts⟩ (c_X4_changed l E r z v (va_up f 26 (upd (f 26) h.toNatClampNeg n1)) H.size) (cwV 0 hts gX4_price_X4_changed rfl rfl rfl (by decide +kernel) ⟨Nat.le_of_ble_eq_true rfl, Nat.le_of_ble_eq_true rfl⟩) hK hP hD 4 15 rfl rfl rfl hl.1 rfl (Nat.le_of_ble_eq_true rfl) dX4_price_41 ⟨Nat.le_of_ble_eq_true rfl, Nat.le_of_ble_eq_true rfl⟩) hP hD hS hA [0, 1, 2, 3, 4, 5, 6, 7, 8, 9, 10, 11, 12, 13, 14, 15, 16, 17, 18, 19, 20, 21, 22, 23, 24, 25, 26, 27, 28, 29, 30, 31, 32, 33, 34, 35, 36, 37, 38, 39] [] rfl rfl (by decide) (by decide) (fun x_6 u_6 H locs hq_6 hP hD hS => ?_)
          obtain ⟨rfl, rfl⟩ := hq_6
          have hP : va_P E.1 vwCl (CZ E r z v (chg (va_up f 26 (upd (f 26) h.toNatClampNeg n1)))) H := hP
          have hD : va_D A (CZ E r z v (chg (va_up f 26 (upd (f 26) h.toNatClampNeg n1)))) := hD
          exact qz_ret ((z, v, (chg (va_up f 26 (upd (f 26) h.toNatClampNeg n1)))) : CS) hx hb hr hlocks rfl (by rw [t_price, cI_t (by simp_all)]; exact ⟨rfl, rfl⟩) hP hD hS dX4_price_44
      · skip
        refine lv_iconst (v := 0) hx hb dX4_price_26 (by decide) ?_
        exact qz_ret ((z, v, f) : CS) hx hb hr hlocks rfl (by rw [t_price, cI_f (by simp_all)]; exact ⟨rfl, rfl⟩) hP hD hS dX4_price_27
noncomputable def t_out (v : Nat → Int32) (f : Nat → Nat → Int32) (k : Int32) (fr : Int32) (to : Int32) (y : Int32) : AN := cI (m_in k 0 1 ∧ m_in fr 0 23 ∧ m_in to 0 23 ∧ fr ≤ to) (1, v, chg (if k = 0 then va_up f 16 (rowF (f 16) fr.toNatClampNeg (to.toNatClampNeg + 1) y) else va_up f 17 (rowF (f 17) fr.toNatClampNeg (to.toNatClampNeg + 1) y))) (0, v, f)
set_option maxHeartbeats 4000000 in
set_option maxRecDepth 100000 in
theorem c_X4_out (l : Launch) (E : GG) (r z : Nat → Nat) (v : Nat → Int32) (f : Nat → Nat → Int32) (sz : Nat) (k : Int32) (fr : Int32) (to : Int32) (y : Int32) (hy : vp_nar .boolean y = y) : Met l yX4_out wsX4_out (Rm 2 0 0) (pM E [.ref (r 0), .int k, .int fr, .int to, .int y] (CZ E r z v f) sz) (va_Qi (fun (x : Int32) (u : CS) => x = (t_out v f k fr to y).1 ∧ u = (z, (t_out v f k fr to y).2.1, (t_out v f k fr to y).2.2)) (bM E (va_A (CZ E r z v f) sz) (fun (u : CS) => CZ E r u.1 u.2.1 u.2.2)) (va_A (CZ E r z v f) sz)) 0 0 (va_A (CZ E r z v f) sz) := by
  refine ofM (by decide) rfl (Nat.le_of_ble_eq_true rfl) ?_
  intro p e s m below meth c A hx hb hr hlocks hml hown hin hts hK hP hD hS hA hsz hAe ls hl
  rw [← hAe]
  have hl : lv_has ls 7 [(0, .ref (r 0)), (1, .int k), (2, .int fr), (3, .int to), (4, .int y)] := hl
  refine lv_iload_n hx hb dX4_out_0 rfl (lv_at hl 1 rfl) ?_
  refine cR_S ⟨hx, hb, hml, hown, hts⟩ (c_X4_isMachine l E k) (va_cwS 1 hts gX4_out_X4_isMachine rfl rfl rfl (by decide +kernel) ⟨Nat.le_of_ble_eq_true rfl, Nat.le_of_ble_eq_true rfl⟩) hK nilP rfl hl.1 rfl (Nat.le_of_ble_eq_true rfl) dX4_out_1 ⟨Nat.le_of_ble_eq_true rfl, Nat.le_of_ble_eq_true rfl⟩ ?_
  refine b_if_eq (q := (m_in k 0 1)) (tgt := 26) hx hb dX4_out_4 (by decide) (fun c_1 => ?_) (fun c_1 => ?_)
  · skip
    refine lv_iconst (v := 0) hx hb dX4_out_26 (by decide) ?_
    exact qz_ret ((z, v, f) : CS) hx hb hr hlocks rfl (by rw [t_out, cI_f (by simp_all)]; exact ⟨rfl, rfl⟩) hP hD hS dX4_out_27
  · skip
    refine lv_iload_n hx hb dX4_out_7 rfl (lv_at hl 2 rfl) ?_
    refine cR_S ⟨hx, hb, hml, hown, hts⟩ (c_X4_isHour l E fr) (va_cwS 1 hts gX4_out_X4_isHour rfl rfl rfl (by decide +kernel) ⟨Nat.le_of_ble_eq_true rfl, Nat.le_of_ble_eq_true rfl⟩) hK nilP rfl hl.1 rfl (Nat.le_of_ble_eq_true rfl) dX4_out_8 ⟨Nat.le_of_ble_eq_true rfl, Nat.le_of_ble_eq_true rfl⟩ ?_
    refine b_if_eq (q := (m_in fr 0 23)) (tgt := 26) hx hb dX4_out_11 (by decide) (fun c_2 => ?_) (fun c_2 => ?_)
    · skip
      refine lv_iconst (v := 0) hx hb dX4_out_26 (by decide) ?_
      exact qz_ret ((z, v, f) : CS) hx hb hr hlocks rfl (by rw [t_out, cI_f (by simp_all)]; exact ⟨rfl, rfl⟩) hP hD hS dX4_out_27
    · skip
      refine lv_iload_n hx hb dX4_out_14 rfl (lv_at hl 3 rfl) ?_
      refine cR_S ⟨hx, hb, hml, hown, hts⟩ (c_X4_isHour l E to) (va_cwS 1 hts gX4_out_X4_isHour rfl rfl rfl (by decide +kernel) ⟨Nat.le_of_ble_eq_true rfl, Nat.le_of_ble_eq_true rfl⟩) hK nilP rfl hl.1 rfl (Nat.le_of_ble_eq_true rfl) dX4_out_15 ⟨Nat.le_of_ble_eq_true rfl, Nat.le_of_ble_eq_true rfl⟩ ?_
      refine b_if_eq (q := (m_in to 0 23)) (tgt := 26) hx hb dX4_out_18 (by decide) (fun c_3 => ?_) (fun c_3 => ?_)
      · skip
        refine lv_iconst (v := 0) hx hb dX4_out_26 (by decide) ?_
        exact qz_ret ((z, v, f) : CS) hx hb hr hlocks rfl (by rw [t_out, cI_f (by simp_all)]; exact ⟨rfl, rfl⟩) hP hD hS dX4_out_27
      · skip
        refine lv_iload_n hx hb dX4_out_21 rfl (lv_at hl 2 rfl) ?_
        refine lv_iload_n hx hb dX4_out_22 rfl (lv_at hl 3 rfl) ?_
        refine lv_icmp_le (tgt := 28) hx hb dX4_out_23 (by decide) (fun c_4 => ?_) (fun c_4 => ?_)
        · skip
          obtain ⟨fn, hfn, efn⟩ : ∃ j : Nat, j ≤ 23 ∧ fr = nI j := ⟨_, (inN c_2 23 (by decide) (by decide)).2, (inN c_2 23 (by decide) (by decide)).1⟩
          obtain ⟨tn, htn, etn⟩ : ∃ j : Nat, j ≤ 23 ∧ to = nI j := ⟨_, (inN c_3 23 (by decide) (by decide)).2, (inN c_3 23 (by decide) (by decide)).1⟩
          subst efn etn
          have c4 := (nI_leI (by omega) (by omega)).mp c_4
          rcases in01 c_1 with rfl | rfl
          · skip
            refine lv_aload_n hx hb dX4_out_28 rfl (lv_at hl 0 rfl) ?_
            refine lv_iload_n hx hb dX4_out_29 rfl (lv_at hl 1 rfl) ?_
            refine cQ_V ⟨hx, hb, hml, hown, hts⟩ (c_X4_machineOf0 l E r v) (cwV 1 hts gX4_out_X4_machineOf rfl rfl rfl (by decide +kernel) ⟨Nat.le_of_ble_eq_true rfl, Nat.le_of_ble_eq_true rfl⟩) hK (hP.sub (ws' := [((r 0), .inr (4, [.ref (r 1), .ref (r 2), .ref (r 3), .ref (r 4), .ref (r 9), .ref (r 8), .ref (r 10), .ref (r 11), .ref (r 12), .int (v 30), .int (v 31), .int (v 32), .int (v 33)]))]) [15] rfl) 4 0 rfl rfl rfl hl.1 rfl (Nat.le_of_ble_eq_true rfl) dX4_out_30 ⟨Nat.le_of_ble_eq_true rfl, Nat.le_of_ble_eq_true rfl⟩ ?_
            refine lv_astore (lv' := [(5, .ref (r 2)), (0, .ref (r 0)), (1, .int 0), (2, .int (nI fn)), (3, .int (nI tn)), (4, .int y)]) hx hb dX4_out_33 hl (by decide) rfl (fun ls hl => ?_)
            refine lv_iload_n hx hb dX4_out_35 rfl (lv_at hl 3 rfl) ?_
            refine lv_istore (lv' := [(6, .int (nI fn)), (5, .ref (r 2)), (0, .ref (r 0)), (1, .int 0), (2, .int (nI fn)), (3, .int (nI tn)), (4, .int y)]) hx hb dX4_out_36 hl (by decide) rfl (fun ls hl => ?_)
            have hP : va_P E.1 vwCl (CZ E r z v (va_up f 16 (rowF (f 16) fn fn y))) s.heap := by rw [rowF_0]; exact hP
            have hD : va_D A (CZ E r z v (va_up f 16 (rowF (f 16) fn fn y))) := by rw [rowF_0]; exact hD
            refine w_while (σ := Heap × List Loc × Array Slot × Nat) (fun ⟨H, locs, ls, h⟩ => tn + 1 - h) (fun ⟨H, locs, ls, h⟩ => va_P E.1 vwCl (CZ E r z v (va_up f 16 (rowF (f 16) fn h y))) H ∧ va_D A (CZ E r z v (va_up f 16 (rowF (f 16) fn h y))) ∧ va_S A s.heap H locs ∧ lv_has ls 7 [(0, .ref (r 0)), (1, .int 0), (2, .int (nI fn)), (3, .int (nI tn)), (4, .int y), (5, .ref (r 2)), (6, .int (nI h))] ∧ fn ≤ h ∧ h ≤ tn + 1) (fun ⟨H, locs, ls, h⟩ => H) (fun ⟨H, locs, ls, h⟩ => locs) (fun ⟨H, locs, ls, h⟩ => F0 m 38 ls []) ?_ (s.heap, [], ls, fn) ⟨hP, hD, hS, lv_sub hl [2, 3, 4, 5, 6, 1, 0] rfl, Nat.le_refl _, by omega⟩
            rintro ⟨H, locs, ls, h⟩ ⟨hP, hD, hS, hl, h1, h2⟩ ih38
            dsimp only at hP hD hS hl ⊢
            refine lv_iload hx hb dX4_out_38 (lv_at hl 6 rfl) ?_
            refine lv_iload_n hx hb dX4_out_40 rfl (lv_at hl 3 rfl) ?_
            refine n_icmp_gt (tgt := 60) (a := h) (b := tn) hx hb dX4_out_41 (by decide) (by omega) (by omega) (fun c_5 => ?_) (fun c_5 => ?_)
            · skip
              refine lv_aload_n hx hb dX4_out_60 rfl (lv_at hl 0 rfl) ?_
              refine cM_i (As := [.ref (r 0)]) (wr := []) (rM_V ⟨hx, hb, hml, hown, hts⟩ (c_X4_changed l E r z v (va_up f 16 (rowF (f 16) fn h y)) H.size) (cwV 0 hts gX4_out_X4_changed rfl rfl rfl (by decide +kernel) ⟨Nat.le_of_ble_eq_true rfl, Nat.le_of_ble_eq_true rfl⟩) hK hP hD 4 15 rfl rfl rfl hl.1 rfl (Nat.le_of_ble_eq_true rfl) dX4_out_61 ⟨Nat.le_of_ble_eq_true rfl, Nat.le_of_ble_eq_true rfl⟩) hP hD hS hA [0, 1, 2, 3, 4, 5, 6, 7, 8, 9, 10, 11, 12, 13, 14, 15, 16, 17, 18, 19, 20, 21, 22, 23, 24, 25, 26, 27, 28, 29, 30, 31, 32, 33, 34, 35, 36, 37, 38, 39] [] rfl rfl (by decide) (by decide) (fun x_6 u_6 H locs hq_6 hP hD hS => ?_)
              obtain ⟨rfl, rfl⟩ := hq_6
              have hP : va_P E.1 vwCl (CZ E r z v (chg (va_up f 16 (rowF (f 16) fn h y)))) H := hP
              have hD : va_D A (CZ E r z v (chg (va_up f 16 (rowF (f 16) fn h y)))) := hD
              exact qz_ret ((z, v, (chg (va_up f 16 (rowF (f 16) fn h y)))) : CS) hx hb hr hlocks rfl (by rw [t_out, cI_t (by simp_all), nI_clamp (by omega), nI_clamp (by omega)]; obtain rfl : h = tn + 1 := (by omega); exact ⟨rfl, rfl⟩) hP hD hS dX4_out_64
            · skip
              refine lv_aload hx hb dX4_out_44 (lv_at hl 5 rfl) ?_
              refine va_getN (D := E.1) (ci := 2) (v := .ref (r 16)) (C := RX2) (T := TX2) (N := 8) (host := "TwoLakes") (ref := RX2) hx hb hts (fun _ h => (List.mem_cons_of_mem _ (List.mem_append_left _ (List.mem_append_right _ h)))) hown hK.1 hP 2 rfl rfl 7 (by decide) (va_Nw.use rfl (hK.2.1 (RX4, 137, RX2, "isOut", "[Z") (List.mem_of_getElem? (i := 22) rfl))) (fun _ h9 => h9) rfl dX4_out_46 ?_
              refine lv_iload hx hb dX4_out_49 (lv_at hl 6 rfl) ?_
              refine lv_iload hx hb dX4_out_51 (lv_at hl 4 rfl) ?_
              refine n_zast (f := rowF (f 16) fn h y) hx hb hK.1 hP hD hS 7 1 rfl rfl (i := h) (by omega) (by decide) hy dX4_out_53 (fun H locs hP hD hS => ?_)
              have hP : va_P E.1 vwCl (CZ E r z v (va_up (va_up f 16 (rowF (f 16) fn h y)) 16 (upd (rowF (f 16) fn h y) h y))) H := hP
              have hD : va_D A (CZ E r z v (va_up (va_up f 16 (rowF (f 16) fn h y)) 16 (upd (rowF (f 16) fn h y) h y))) := hD
              refine lv_iinc (v := (nI (h + 1))) (lv' := [(6, .int (nI (h + 1))), (0, .ref (r 0)), (1, .int 0), (2, .int (nI fn)), (3, .int (nI tn)), (4, .int y), (5, .ref (r 2))]) hx hb dX4_out_54 hl (k := 6) rfl (nI_1 _) (by decide) rfl (fun ls hl => ?_)
              refine lv_goto (tgt := 38) hx hb dX4_out_57 (by decide) ?_
              have hP : va_P E.1 vwCl (CZ E r z v (va_up f 16 (upd (rowF (f 16) fn h y) h y))) H := hP
              have hD : va_D A (CZ E r z v (va_up f 16 (upd (rowF (f 16) fn h y) h y))) := hD
              rw [rowF_s (by omega)] at hP hD
              exact ih38 (H, locs, ls, h + 1) ⟨hP, hD, hS, lv_sub hl [1, 2, 3, 4, 5, 6, 0] rfl, by omega, by omega⟩ (by dsimp only; omega)
          · skip
            refine lv_aload_n hx hb dX4_out_28 rfl (lv_at hl 0 rfl) ?_
            refine lv_iload_n hx hb dX4_out_29 rfl (lv_at hl 1 rfl) ?_
            refine cQ_V ⟨hx, hb, hml, hown, hts⟩ (c_X4_machineOf1 l E r v) (cwV 1 hts gX4_out_X4_machineOf rfl rfl rfl (by decide +kernel) ⟨Nat.le_of_ble_eq_true rfl, Nat.le_of_ble_eq_true rfl⟩) hK (hP.sub (ws' := [((r 0), .inr (4, [.ref (r 1), .ref (r 2), .ref (r 3), .ref (r 4), .ref (r 9), .ref (r 8), .ref (r 10), .ref (r 11), .ref (r 12), .int (v 30), .int (v 31), .int (v 32), .int (v 33)]))]) [15] rfl) 4 0 rfl rfl rfl hl.1 rfl (Nat.le_of_ble_eq_true rfl) dX4_out_30 ⟨Nat.le_of_ble_eq_true rfl, Nat.le_of_ble_eq_true rfl⟩ ?_
            refine lv_astore (lv' := [(5, .ref (r 3)), (0, .ref (r 0)), (1, .int 1), (2, .int (nI fn)), (3, .int (nI tn)), (4, .int y)]) hx hb dX4_out_33 hl (by decide) rfl (fun ls hl => ?_)
            refine lv_iload_n hx hb dX4_out_35 rfl (lv_at hl 3 rfl) ?_
            refine lv_istore (lv' := [(6, .int (nI fn)), (5, .ref (r 3)), (0, .ref (r 0)), (1, .int 1), (2, .int (nI fn)), (3, .int (nI tn)), (4, .int y)]) hx hb dX4_out_36 hl (by decide) rfl (fun ls hl => ?_)
            have hP : va_P E.1 vwCl (CZ E r z v (va_up f 17 (rowF (f 17) fn fn y))) s.heap := by rw [rowF_0]; exact hP
            have hD : va_D A (CZ E r z v (va_up f 17 (rowF (f 17) fn fn y))) := by rw [rowF_0]; exact hD
            refine w_while (σ := Heap × List Loc × Array Slot × Nat) (fun ⟨H, locs, ls, h⟩ => tn + 1 - h) (fun ⟨H, locs, ls, h⟩ => va_P E.1 vwCl (CZ E r z v (va_up f 17 (rowF (f 17) fn h y))) H ∧ va_D A (CZ E r z v (va_up f 17 (rowF (f 17) fn h y))) ∧ va_S A s.heap H locs ∧ lv_has ls 7 [(0, .ref (r 0)), (1, .int 1), (2, .int (nI fn)), (3, .int (nI tn)), (4, .int y), (5, .ref (r 3)), (6, .int (nI h))] ∧ fn ≤ h ∧ h ≤ tn + 1) (fun ⟨H, locs, ls, h⟩ => H) (fun ⟨H, locs, ls, h⟩ => locs) (fun ⟨H, locs, ls, h⟩ => F0 m 38 ls []) ?_ (s.heap, [], ls, fn) ⟨hP, hD, hS, lv_sub hl [2, 3, 4, 5, 6, 1, 0] rfl, Nat.le_refl _, by omega⟩
            rintro ⟨H, locs, ls, h⟩ ⟨hP, hD, hS, hl, h1, h2⟩ ih38
            dsimp only at hP hD hS hl ⊢
            refine lv_iload hx hb dX4_out_38 (lv_at hl 6 rfl) ?_
            refine lv_iload_n hx hb dX4_out_40 rfl (lv_at hl 3 rfl) ?_
            refine n_icmp_gt (tgt := 60) (a := h) (b := tn) hx hb dX4_out_41 (by decide) (by omega) (by omega) (fun c_7 => ?_) (fun c_7 => ?_)
            · skip
              refine lv_aload_n hx hb dX4_out_60 rfl (lv_at hl 0 rfl) ?_
              refine cM_i (As := [.ref (r 0)]) (wr := []) (rM_V ⟨hx, hb, hml, hown, hts⟩ (c_X4_changed l E r z v (va_up f 17 (rowF (f 17) fn h y)) H.size) (cwV 0 hts gX4_out_X4_changed rfl rfl rfl (by decide +kernel) ⟨Nat.le_of_ble_eq_true rfl, Nat.le_of_ble_eq_true rfl⟩) hK hP hD 4 15 rfl rfl rfl hl.1 rfl (Nat.le_of_ble_eq_true rfl) dX4_out_61 ⟨Nat.le_of_ble_eq_true rfl, Nat.le_of_ble_eq_true rfl⟩) hP hD hS hA [0, 1, 2, 3, 4, 5, 6, 7, 8, 9, 10, 11, 12, 13, 14, 15, 16, 17, 18, 19, 20, 21, 22, 23, 24, 25, 26, 27, 28, 29, 30, 31, 32, 33, 34, 35, 36, 37, 38, 39] [] rfl rfl (by decide) (by decide) (fun x_8 u_8 H locs hq_8 hP hD hS => ?_)
              obtain ⟨rfl, rfl⟩ := hq_8
              have hP : va_P E.1 vwCl (CZ E r z v (chg (va_up f 17 (rowF (f 17) fn h y)))) H := hP
              have hD : va_D A (CZ E r z v (chg (va_up f 17 (rowF (f 17) fn h y)))) := hD
              exact qz_ret ((z, v, (chg (va_up f 17 (rowF (f 17) fn h y)))) : CS) hx hb hr hlocks rfl (by rw [t_out, cI_t (by simp_all), nI_clamp (by omega), nI_clamp (by omega)]; obtain rfl : h = tn + 1 := (by omega); exact ⟨rfl, rfl⟩) hP hD hS dX4_out_64
            · skip
              refine lv_aload hx hb dX4_out_44 (lv_at hl 5 rfl) ?_
              refine va_getN (D := E.1) (ci := 2) (v := .ref (r 17)) (C := RX2) (T := TX2) (N := 8) (host := "TwoLakes") (ref := RX2) hx hb hts (fun _ h => (List.mem_cons_of_mem _ (List.mem_append_left _ (List.mem_append_right _ h)))) hown hK.1 hP 3 rfl rfl 7 (by decide) (va_Nw.use rfl (hK.2.1 (RX4, 137, RX2, "isOut", "[Z") (List.mem_of_getElem? (i := 22) rfl))) (fun _ h9 => h9) rfl dX4_out_46 ?_
              refine lv_iload hx hb dX4_out_49 (lv_at hl 6 rfl) ?_
              refine lv_iload hx hb dX4_out_51 (lv_at hl 4 rfl) ?_
              refine n_zast (f := rowF (f 17) fn h y) hx hb hK.1 hP hD hS 8 1 rfl rfl (i := h) (by omega) (by decide) hy dX4_out_53 (fun H locs hP hD hS => ?_)
              have hP : va_P E.1 vwCl (CZ E r z v (va_up (va_up f 17 (rowF (f 17) fn h y)) 17 (upd (rowF (f 17) fn h y) h y))) H := hP
              have hD : va_D A (CZ E r z v (va_up (va_up f 17 (rowF (f 17) fn h y)) 17 (upd (rowF (f 17) fn h y) h y))) := hD
              refine lv_iinc (v := (nI (h + 1))) (lv' := [(6, .int (nI (h + 1))), (0, .ref (r 0)), (1, .int 1), (2, .int (nI fn)), (3, .int (nI tn)), (4, .int y), (5, .ref (r 3))]) hx hb dX4_out_54 hl (k := 6) rfl (nI_1 _) (by decide) rfl (fun ls hl => ?_)
              refine lv_goto (tgt := 38) hx hb dX4_out_57 (by decide) ?_
              have hP : va_P E.1 vwCl (CZ E r z v (va_up f 17 (upd (rowF (f 17) fn h y) h y))) H := hP
              have hD : va_D A (CZ E r z v (va_up f 17 (upd (rowF (f 17) fn h y) h y))) := hD
              rw [rowF_s (by omega)] at hP hD
              exact ih38 (H, locs, ls, h + 1) ⟨hP, hD, hS, lv_sub hl [1, 2, 3, 4, 5, 6, 0] rfl, by omega, by omega⟩ (by dsimp only; omega)
        · skip
          refine lv_iconst (v := 0) hx hb dX4_out_26 (by decide) ?_
          exact qz_ret ((z, v, f) : CS) hx hb hr hlocks rfl (by rw [t_out, cI_f (by simp_all)]; exact ⟨rfl, rfl⟩) hP hD hS dX4_out_27
def c_cnt (v : Nat → Int32) : Nat → Int32 := fun k => match k with
  | 0 => v 32 | 1 => v 4 | 2 => v 5 | 3 => v 15 | 4 => v 25 | 5 => v 33 | 6 => v 16 | 7 => v 26 | _ => v 30
