set_option maxHeartbeats 4000000 in
set_option maxRecDepth 100000 in
theorem c_X4_reveal (l : Launch) (E : GG) (r z : Nat → Nat) (v : Nat → Int32) (f : Nat → Nat → Int32) (sz : Nat) (h : Int32)  : Met l yX4_reveal wsX4_reveal (Rm 2 0 0) (pM E [.ref (r 0), .int h] (CZ E r z v f) sz) (va_Qi (fun (x : Int32) (u : CS) => x = (t_reveal v f h).1 ∧ u = (z, (t_reveal v f h).2.1, (t_reveal v f h).2.2)) (bM E (va_A (CZ E r z v f) sz) (fun (u : CS) => CZ E r u.1 u.2.1 u.2.2)) (va_A (CZ E r z v f) sz)) 0 0 (va_A (CZ E r z v f) sz) := by
  refine ofM (by decide) rfl (Nat.le_of_ble_eq_true rfl) ?_
  intro p e s m below meth c A hx hb hr hlocks hml hown hin hts hK hP hD hS hA hsz hAe ls hl
  rw [← hAe]
  have hl : lv_has ls 2 [(0, .ref (r 0)), (1, .int h)] := hl
  refine lv_iload_n hx hb dX4_reveal_0 rfl (lv_at hl 1 rfl) ?_
  refine lv_iconst (v := 0) hx hb dX4_reveal_1 (by decide) ?_
  refine lv_bipush (v := 24) hx hb dX4_reveal_2 (by decide) ?_
  refine cR_S ⟨hx, hb, hml, hown, hts⟩ (c_X4_within l E h 0 24) (va_cwS 3 hts gX4_reveal_X4_within rfl rfl rfl (by decide +kernel) ⟨Nat.le_of_ble_eq_true rfl, Nat.le_of_ble_eq_true rfl⟩) hK nilP rfl hl.1 rfl (Nat.le_of_ble_eq_true rfl) dX4_reveal_4 ⟨Nat.le_of_ble_eq_true rfl, Nat.le_of_ble_eq_true rfl⟩ ?_
  refine b_if_ne (q := (m_in h 0 24)) (tgt := 12) hx hb dX4_reveal_7 (by decide) (fun c_1 => ?_) (fun c_1 => ?_)
  · skip
    refine lv_aload_n hx hb dX4_reveal_12 rfl (lv_at hl 0 rfl) ?_
    refine lv_iload_n hx hb dX4_reveal_13 rfl (lv_at hl 1 rfl) ?_
    refine va_put (D := E.1) (ci := 4) (v := .int h) (ty := .int) (C := RX4) (T := TX4) (N := 13) hx hb hts (fun _ h => (List.mem_cons_of_mem _ (List.mem_append_right _ h))) tyX4 tyX4_ok nmX4 hown hK.1 hP hD hS 15 rfl rfl 9 (by decide) (hts _ (List.mem_of_getElem? (i := 1) rfl)) (fun _ h9 => h9) rfl (by decide +kernel) rfl rfl (Nat.le_of_ble_eq_true rfl) dX4_reveal_14 (fun H locs hP hD hS => ?_)
    have hP : va_P E.1 vwCl (CZ E r z (upd v 30 h) f) H := hP
    have hD : va_D A (CZ E r z (upd v 30 h) f) := hD
    refine lv_aload_n hx hb dX4_reveal_17 rfl (lv_at hl 0 rfl) ?_
    refine cM_i (As := [.ref (r 0)]) (wr := []) (rM_V ⟨hx, hb, hml, hown, hts⟩ (c_X4_changed l E r z (upd v 30 h) f H.size) (cwV 0 hts gX4_reveal_X4_changed rfl rfl rfl (by decide +kernel) ⟨Nat.le_of_ble_eq_true rfl, Nat.le_of_ble_eq_true rfl⟩) hK hP hD 4 15 rfl rfl rfl hl.1 rfl (Nat.le_of_ble_eq_true rfl) dX4_reveal_18 ⟨Nat.le_of_ble_eq_true rfl, Nat.le_of_ble_eq_true rfl⟩) hP hD hS hA [0, 1, 2, 3, 4, 5, 6, 7, 8, 9, 10, 11, 12, 13, 14, 15, 16, 17, 18, 19, 20, 21, 22, 23, 24, 25, 26, 27, 28, 29, 30, 31, 32, 33, 34, 35, 36, 37, 38, 39] [] rfl rfl (by decide) (by decide) (fun x_2 u_2 H locs hq_2 hP hD hS => ?_)
    obtain ⟨rfl, rfl⟩ := hq_2
    have hP : va_P E.1 vwCl (CZ E r z (upd v 30 h) (chg f)) H := hP
    have hD : va_D A (CZ E r z (upd v 30 h) (chg f)) := hD
    exact qz_ret ((z, (upd v 30 h), (chg f)) : CS) hx hb hr hlocks rfl (by rw [t_reveal, cI_t (by simp_all)]; exact ⟨rfl, rfl⟩) hP hD hS dX4_reveal_21
  · skip
    refine lv_iconst (v := 0) hx hb dX4_reveal_10 (by decide) ?_
    exact qz_ret ((z, v, f) : CS) hx hb hr hlocks rfl (by rw [t_reveal, cI_f (by simp_all)]; exact ⟨rfl, rfl⟩) hP hD hS dX4_reveal_11
noncomputable def t_end (v : Nat → Int32) (f : Nat → Nat → Int32) (n1 : Int32) : AN := cI (m_in n1 0 999) (1, upd v 31 n1, chg (f)) (0, v, f)
set_option maxHeartbeats 4000000 in
set_option maxRecDepth 100000 in
theorem c_X4_end (l : Launch) (E : GG) (r z : Nat → Nat) (v : Nat → Int32) (f : Nat → Nat → Int32) (sz : Nat) (n1 : Int32)  : Met l yX4_end wsX4_end (Rm 2 0 0) (pM E [.ref (r 0), .int n1] (CZ E r z v f) sz) (va_Qi (fun (x : Int32) (u : CS) => x = (t_end v f n1).1 ∧ u = (z, (t_end v f n1).2.1, (t_end v f n1).2.2)) (bM E (va_A (CZ E r z v f) sz) (fun (u : CS) => CZ E r u.1 u.2.1 u.2.2)) (va_A (CZ E r z v f) sz)) 0 0 (va_A (CZ E r z v f) sz) := by
  refine ofM (by decide) rfl (Nat.le_of_ble_eq_true rfl) ?_
  intro p e s m below meth c A hx hb hr hlocks hml hown hin hts hK hP hD hS hA hsz hAe ls hl
  rw [← hAe]
  have hl : lv_has ls 2 [(0, .ref (r 0)), (1, .int n1)] := hl
  refine lv_iload_n hx hb dX4_end_0 rfl (lv_at hl 1 rfl) ?_
  refine lv_iconst (v := 0) hx hb dX4_end_1 (by decide) ?_
  refine lv_sipush (v := 999) hx hb dX4_end_2 (by decide) ?_
  refine cR_S ⟨hx, hb, hml, hown, hts⟩ (c_X4_within l E n1 0 999) (va_cwS 3 hts gX4_end_X4_within rfl rfl rfl (by decide +kernel) ⟨Nat.le_of_ble_eq_true rfl, Nat.le_of_ble_eq_true rfl⟩) hK nilP rfl hl.1 rfl (Nat.le_of_ble_eq_true rfl) dX4_end_5 ⟨Nat.le_of_ble_eq_true rfl, Nat.le_of_ble_eq_true rfl⟩ ?_
  refine b_if_ne (q := (m_in n1 0 999)) (tgt := 13) hx hb dX4_end_8 (by decide) (fun c_1 => ?_) (fun c_1 => ?_)
  · skip
    refine lv_aload_n hx hb dX4_end_13 rfl (lv_at hl 0 rfl) ?_
    refine lv_iload_n hx hb dX4_end_14 rfl (lv_at hl 1 rfl) ?_
    refine va_put (D := E.1) (ci := 4) (v := .int n1) (ty := .int) (C := RX4) (T := TX4) (N := 13) hx hb hts (fun _ h => (List.mem_cons_of_mem _ (List.mem_append_right _ h))) tyX4 tyX4_ok nmX4 hown hK.1 hP hD hS 15 rfl rfl 10 (by decide) (hts _ (List.mem_of_getElem? (i := 1) rfl)) (fun _ h9 => h9) rfl (by decide +kernel) rfl rfl (Nat.le_of_ble_eq_true rfl) dX4_end_15 (fun H locs hP hD hS => ?_)
    have hP : va_P E.1 vwCl (CZ E r z (upd v 31 n1) f) H := hP
    have hD : va_D A (CZ E r z (upd v 31 n1) f) := hD
    refine lv_aload_n hx hb dX4_end_18 rfl (lv_at hl 0 rfl) ?_
    refine cM_i (As := [.ref (r 0)]) (wr := []) (rM_V ⟨hx, hb, hml, hown, hts⟩ (c_X4_changed l E r z (upd v 31 n1) f H.size) (cwV 0 hts gX4_end_X4_changed rfl rfl rfl (by decide +kernel) ⟨Nat.le_of_ble_eq_true rfl, Nat.le_of_ble_eq_true rfl⟩) hK hP hD 4 15 rfl rfl rfl hl.1 rfl (Nat.le_of_ble_eq_true rfl) dX4_end_19 ⟨Nat.le_of_ble_eq_true rfl, Nat.le_of_ble_eq_true rfl⟩) hP hD hS hA [0, 1, 2, 3, 4, 5, 6, 7, 8, 9, 10, 11, 12, 13, 14, 15, 16, 17, 18, 19, 20, 21, 22, 23, 24, 25, 26, 27, 28, 29, 30, 31, 32, 33, 34, 35, 36, 37, 38, 39] [] rfl rfl (by decide) (by decide) (fun x_2 u_2 H locs hq_2 hP hD hS => ?_)
    obtain ⟨rfl, rfl⟩ := hq_2
    have hP : va_P E.1 vwCl (CZ E r z (upd v 31 n1) (chg f)) H := hP
    have hD : va_D A (CZ E r z (upd v 31 n1) (chg f)) := hD
    exact qz_ret ((z, (upd v 31 n1), (chg f)) : CS) hx hb hr hlocks rfl (by rw [t_end, cI_t (by simp_all)]; exact ⟨rfl, rfl⟩) hP hD hS dX4_end_22
  · skip
    refine lv_iconst (v := 0) hx hb dX4_end_11 (by decide) ?_
    exact qz_ret ((z, v, f) : CS) hx hb hr hlocks rfl (by rw [t_end, cI_f (by simp_all)]; exact ⟨rfl, rfl⟩) hP hD hS dX4_end_12
noncomputable def t_flows (v : Nat → Int32) (f : Nat → Nat → Int32) (h : Int32) (i1 : Int32) (o1 : Int32) : AN := cI (m_in h 0 23 ∧ m_in i1 0 9 ∧ m_in o1 0 9) (1, v, chg (va_up (va_up f 13 (upd (f 13) h.toNatClampNeg i1)) 14 (upd (f 14) h.toNatClampNeg o1))) (0, v, f)
