set_option maxHeartbeats 4000000 in
set_option maxRecDepth 100000 in
theorem c_X4_lakes (l : Launch) (E : GG) (r z : Nat → Nat) (v : Nat → Int32) (f : Nat → Nat → Int32) (sz : Nat) (a : Int32) (b : Int32) (u1 : Int32) (l1 : Int32)  : Met l yX4_lakes wsX4_lakes (Rm 2 0 0) (pM E [.ref (r 0), .int a, .int b, .int u1, .int l1] (CZ E r z v f) sz) (va_Qi (fun (x : Int32) (u : CS) => x = (t_lakes v f a b u1 l1).1 ∧ u = (z, (t_lakes v f a b u1 l1).2.1, (t_lakes v f a b u1 l1).2.2)) (bM E (va_A (CZ E r z v f) sz) (fun (u : CS) => CZ E r u.1 u.2.1 u.2.2)) (va_A (CZ E r z v f) sz)) 0 0 (va_A (CZ E r z v f) sz) := by
  refine ofM (by decide) rfl (Nat.le_of_ble_eq_true rfl) ?_
  intro p e s m below meth c A hx hb hr hlocks hml hown hin hts hK hP hD hS hA hsz hAe ls hl
  rw [← hAe]
  have hl : lv_has ls 5 [(0, .ref (r 0)), (1, .int a), (2, .int b), (3, .int u1), (4, .int l1)] := hl
  refine lv_aload_n hx hb dX4_lakes_0 rfl (lv_at hl 0 rfl) ?_
  refine va_get (D := E.1) (ci := 4) (v := .int (v 32)) (C := RX4) (T := TX4) (N := 13) hx hb hts (fun _ h => (List.mem_cons_of_mem _ (List.mem_append_left _ (List.mem_append_right _ h)))) hown hK.1 hP 15 rfl rfl 11 (by decide) (hts _ (List.mem_of_getElem? (i := 1) rfl)) (fun _ h9 => h9) rfl dX4_lakes_1 ?_
  refine lv_if_ne (tgt := 27) hx hb dX4_lakes_4 (by decide) (fun c_1 => ?_) (fun c_1 => ?_)
  · skip
    refine lv_iconst (v := 0) hx hb dX4_lakes_27 (by decide) ?_
    exact qz_ret ((z, v, f) : CS) hx hb hr hlocks rfl (by rw [t_lakes, cI_f (by simp_all)]; exact ⟨rfl, rfl⟩) hP hD hS dX4_lakes_28
  · skip
    refine lv_iload_n hx hb dX4_lakes_7 rfl (lv_at hl 1 rfl) ?_
    refine lv_iconst (v := 1) hx hb dX4_lakes_8 (by decide) ?_
    refine lv_bipush (v := 40) hx hb dX4_lakes_9 (by decide) ?_
    refine cR_S ⟨hx, hb, hml, hown, hts⟩ (c_X4_within l E a 1 40) (va_cwS 3 hts gX4_lakes_X4_within rfl rfl rfl (by decide +kernel) ⟨Nat.le_of_ble_eq_true rfl, Nat.le_of_ble_eq_true rfl⟩) hK nilP rfl hl.1 rfl (Nat.le_of_ble_eq_true rfl) dX4_lakes_11 ⟨Nat.le_of_ble_eq_true rfl, Nat.le_of_ble_eq_true rfl⟩ ?_
    refine b_if_eq (q := (m_in a 1 40)) (tgt := 27) hx hb dX4_lakes_14 (by decide) (fun c_2 => ?_) (fun c_2 => ?_)
    · skip
      refine lv_iconst (v := 0) hx hb dX4_lakes_27 (by decide) ?_
      exact qz_ret ((z, v, f) : CS) hx hb hr hlocks rfl (by rw [t_lakes, cI_f (by simp_all)]; exact ⟨rfl, rfl⟩) hP hD hS dX4_lakes_28
    · skip
      refine lv_iload_n hx hb dX4_lakes_17 rfl (lv_at hl 2 rfl) ?_
      refine lv_iconst (v := 1) hx hb dX4_lakes_18 (by decide) ?_
      refine lv_bipush (v := 40) hx hb dX4_lakes_19 (by decide) ?_
      refine cR_S ⟨hx, hb, hml, hown, hts⟩ (c_X4_within l E b 1 40) (va_cwS 3 hts gX4_lakes_X4_within rfl rfl rfl (by decide +kernel) ⟨Nat.le_of_ble_eq_true rfl, Nat.le_of_ble_eq_true rfl⟩) hK nilP rfl hl.1 rfl (Nat.le_of_ble_eq_true rfl) dX4_lakes_21 ⟨Nat.le_of_ble_eq_true rfl, Nat.le_of_ble_eq_true rfl⟩ ?_
      refine b_if_ne (q := (m_in b 1 40)) (tgt := 29) hx hb dX4_lakes_24 (by decide) (fun c_3 => ?_) (fun c_3 => ?_)
      · skip
        refine lv_iload_n hx hb dX4_lakes_29 rfl (lv_at hl 3 rfl) ?_
        refine lv_iconst (v := 0) hx hb dX4_lakes_30 (by decide) ?_
        refine lv_iload_n hx hb dX4_lakes_31 rfl (lv_at hl 1 rfl) ?_
        refine cR_S ⟨hx, hb, hml, hown, hts⟩ (c_X4_within l E u1 0 a) (va_cwS 3 hts gX4_lakes_X4_within rfl rfl rfl (by decide +kernel) ⟨Nat.le_of_ble_eq_true rfl, Nat.le_of_ble_eq_true rfl⟩) hK nilP rfl hl.1 rfl (Nat.le_of_ble_eq_true rfl) dX4_lakes_32 ⟨Nat.le_of_ble_eq_true rfl, Nat.le_of_ble_eq_true rfl⟩ ?_
        refine b_if_eq (q := (m_in u1 0 a)) (tgt := 48) hx hb dX4_lakes_35 (by decide) (fun c_4 => ?_) (fun c_4 => ?_)
        · skip
          refine lv_iconst (v := 0) hx hb dX4_lakes_48 (by decide) ?_
          exact qz_ret ((z, v, f) : CS) hx hb hr hlocks rfl (by rw [t_lakes, cI_f (by simp_all)]; exact ⟨rfl, rfl⟩) hP hD hS dX4_lakes_49
        · skip
          refine lv_iload hx hb dX4_lakes_38 (lv_at hl 4 rfl) ?_
          refine lv_iconst (v := 0) hx hb dX4_lakes_40 (by decide) ?_
          refine lv_iload_n hx hb dX4_lakes_41 rfl (lv_at hl 2 rfl) ?_
          refine cR_S ⟨hx, hb, hml, hown, hts⟩ (c_X4_within l E l1 0 b) (va_cwS 3 hts gX4_lakes_X4_within rfl rfl rfl (by decide +kernel) ⟨Nat.le_of_ble_eq_true rfl, Nat.le_of_ble_eq_true rfl⟩) hK nilP rfl hl.1 rfl (Nat.le_of_ble_eq_true rfl) dX4_lakes_42 ⟨Nat.le_of_ble_eq_true rfl, Nat.le_of_ble_eq_true rfl⟩ ?_
          refine b_if_ne (q := (m_in l1 0 b)) (tgt := 50) hx hb dX4_lakes_45 (by decide) (fun c_5 => ?_) (fun c_5 => ?_)
          · skip
            refine lv_aload_n hx hb dX4_lakes_50 rfl (lv_at hl 0 rfl) ?_
            refine va_get (D := E.1) (ci := 4) (v := .ref (r 1)) (C := RX4) (T := TX4) (N := 13) hx hb hts (fun _ h => (List.mem_cons_of_mem _ (List.mem_append_left _ (List.mem_append_right _ h)))) hown hK.1 hP 15 rfl rfl 0 (by decide) (hts _ (List.mem_of_getElem? (i := 2) rfl)) (fun _ h9 => h9) rfl dX4_lakes_51 ?_
            refine lv_iload_n hx hb dX4_lakes_54 rfl (lv_at hl 1 rfl) ?_
            refine va_putN (D := E.1) (ci := 1) (v := .int a) (ty := .int) (C := RX1) (T := TX1) (N := 9) (host := "TwoLakes") (ref := RX1) hx hb hts (fun _ h => (List.mem_cons_of_mem _ (List.mem_append_right _ h))) tyX1 tyX1_ok nmX1 hown hK.1 hP hD hS 1 rfl rfl 0 (by decide) (va_Nw.use rfl (hK.2.1 (RX4, 80, RX1, "upperRoom", "I") (List.mem_of_getElem? (i := 0) rfl))) (fun _ h9 => h9) rfl (by decide +kernel) rfl rfl (Nat.le_of_ble_eq_true rfl) dX4_lakes_55 (fun H locs hP hD hS => ?_)
            have hP : va_P E.1 vwCl (CZ E r z (upd v 0 a) f) H := hP
            have hD : va_D A (CZ E r z (upd v 0 a) f) := hD
            refine lv_aload_n hx hb dX4_lakes_58 rfl (lv_at hl 0 rfl) ?_
            refine va_get (D := E.1) (ci := 4) (v := .ref (r 1)) (C := RX4) (T := TX4) (N := 13) hx hb hts (fun _ h => (List.mem_cons_of_mem _ (List.mem_append_left _ (List.mem_append_right _ h)))) hown hK.1 hP 15 rfl rfl 0 (by decide) (hts _ (List.mem_of_getElem? (i := 2) rfl)) (fun _ h9 => h9) rfl dX4_lakes_59 ?_
            refine lv_iload_n hx hb dX4_lakes_62 rfl (lv_at hl 2 rfl) ?_
            refine va_putN (D := E.1) (ci := 1) (v := .int b) (ty := .int) (C := RX1) (T := TX1) (N := 9) (host := "TwoLakes") (ref := RX1) hx hb hts (fun _ h => (List.mem_cons_of_mem _ (List.mem_append_right _ h))) tyX1 tyX1_ok nmX1 hown hK.1 hP hD hS 1 rfl rfl 1 (by decide) (va_Nw.use rfl (hK.2.1 (RX4, 83, RX1, "lowerRoom", "I") (List.mem_of_getElem? (i := 1) rfl))) (fun _ h9 => h9) rfl (by decide +kernel) rfl rfl (Nat.le_of_ble_eq_true rfl) dX4_lakes_63 (fun H locs hP hD hS => ?_)
            have hP : va_P E.1 vwCl (CZ E r z (upd (upd v 0 a) 1 b) f) H := hP
            have hD : va_D A (CZ E r z (upd (upd v 0 a) 1 b) f) := hD
            refine lv_aload_n hx hb dX4_lakes_66 rfl (lv_at hl 0 rfl) ?_
            refine va_get (D := E.1) (ci := 4) (v := .ref (r 1)) (C := RX4) (T := TX4) (N := 13) hx hb hts (fun _ h => (List.mem_cons_of_mem _ (List.mem_append_left _ (List.mem_append_right _ h)))) hown hK.1 hP 15 rfl rfl 0 (by decide) (hts _ (List.mem_of_getElem? (i := 2) rfl)) (fun _ h9 => h9) rfl dX4_lakes_67 ?_
            refine lv_iload_n hx hb dX4_lakes_70 rfl (lv_at hl 3 rfl) ?_
            refine va_putN (D := E.1) (ci := 1) (v := .int u1) (ty := .int) (C := RX1) (T := TX1) (N := 9) (host := "TwoLakes") (ref := RX1) hx hb hts (fun _ h => (List.mem_cons_of_mem _ (List.mem_append_right _ h))) tyX1 tyX1_ok nmX1 hown hK.1 hP hD hS 1 rfl rfl 4 (by decide) (va_Nw.use rfl (hK.2.1 (RX4, 86, RX1, "upper", "I") (List.mem_of_getElem? (i := 6) rfl))) (fun _ h9 => h9) rfl (by decide +kernel) rfl rfl (Nat.le_of_ble_eq_true rfl) dX4_lakes_71 (fun H locs hP hD hS => ?_)
            have hP : va_P E.1 vwCl (CZ E r z (upd (upd (upd v 0 a) 1 b) 4 u1) f) H := hP
            have hD : va_D A (CZ E r z (upd (upd (upd v 0 a) 1 b) 4 u1) f) := hD
            refine lv_aload_n hx hb dX4_lakes_74 rfl (lv_at hl 0 rfl) ?_
            refine va_get (D := E.1) (ci := 4) (v := .ref (r 1)) (C := RX4) (T := TX4) (N := 13) hx hb hts (fun _ h => (List.mem_cons_of_mem _ (List.mem_append_left _ (List.mem_append_right _ h)))) hown hK.1 hP 15 rfl rfl 0 (by decide) (hts _ (List.mem_of_getElem? (i := 2) rfl)) (fun _ h9 => h9) rfl dX4_lakes_75 ?_
            refine lv_iload hx hb dX4_lakes_78 (lv_at hl 4 rfl) ?_
            refine va_putN (D := E.1) (ci := 1) (v := .int l1) (ty := .int) (C := RX1) (T := TX1) (N := 9) (host := "TwoLakes") (ref := RX1) hx hb hts (fun _ h => (List.mem_cons_of_mem _ (List.mem_append_right _ h))) tyX1 tyX1_ok nmX1 hown hK.1 hP hD hS 1 rfl rfl 5 (by decide) (va_Nw.use rfl (hK.2.1 (RX4, 89, RX1, "lower", "I") (List.mem_of_getElem? (i := 7) rfl))) (fun _ h9 => h9) rfl (by decide +kernel) rfl rfl (Nat.le_of_ble_eq_true rfl) dX4_lakes_80 (fun H locs hP hD hS => ?_)
            have hP : va_P E.1 vwCl (CZ E r z (upd (upd (upd (upd v 0 a) 1 b) 4 u1) 5 l1) f) H := hP
            have hD : va_D A (CZ E r z (upd (upd (upd (upd v 0 a) 1 b) 4 u1) 5 l1) f) := hD
            refine lv_aload_n hx hb dX4_lakes_83 rfl (lv_at hl 0 rfl) ?_
            refine cM_i (As := [.ref (r 0)]) (wr := []) (rM_V ⟨hx, hb, hml, hown, hts⟩ (c_X4_changed l E r z (upd (upd (upd (upd v 0 a) 1 b) 4 u1) 5 l1) f H.size) (cwV 0 hts gX4_lakes_X4_changed rfl rfl rfl (by decide +kernel) ⟨Nat.le_of_ble_eq_true rfl, Nat.le_of_ble_eq_true rfl⟩) hK hP hD 4 15 rfl rfl rfl hl.1 rfl (Nat.le_of_ble_eq_true rfl) dX4_lakes_84 ⟨Nat.le_of_ble_eq_true rfl, Nat.le_of_ble_eq_true rfl⟩) hP hD hS hA [0, 1, 2, 3, 4, 5, 6, 7, 8, 9, 10, 11, 12, 13, 14, 15, 16, 17, 18, 19, 20, 21, 22, 23, 24, 25, 26, 27, 28, 29, 30, 31, 32, 33, 34, 35, 36, 37, 38, 39] [] rfl rfl (by decide) (by decide) (fun x_6 u_6 H locs hq_6 hP hD hS => ?_)
            obtain ⟨rfl, rfl⟩ := hq_6
            have hP : va_P E.1 vwCl (CZ E r z (upd (upd (upd (upd v 0 a) 1 b) 4 u1) 5 l1) (chg f)) H := hP
            have hD : va_D A (CZ E r z (upd (upd (upd (upd v 0 a) 1 b) 4 u1) 5 l1) (chg f)) := hD
            exact qz_ret ((z, (upd (upd (upd (upd v 0 a) 1 b) 4 u1) 5 l1), (chg f)) : CS) hx hb hr hlocks rfl (by rw [t_lakes, cI_t (by simp_all)]; exact ⟨rfl, rfl⟩) hP hD hS dX4_lakes_87
          · skip
            refine lv_iconst (v := 0) hx hb dX4_lakes_48 (by decide) ?_
            exact qz_ret ((z, v, f) : CS) hx hb hr hlocks rfl (by rw [t_lakes, cI_f (by simp_all)]; exact ⟨rfl, rfl⟩) hP hD hS dX4_lakes_49
      · skip
        refine lv_iconst (v := 0) hx hb dX4_lakes_27 (by decide) ?_
        exact qz_ret ((z, v, f) : CS) hx hb hr hlocks rfl (by rw [t_lakes, cI_f (by simp_all)]; exact ⟨rfl, rfl⟩) hP hD hS dX4_lakes_28
noncomputable def t_speeds (v : Nat → Int32) (f : Nat → Nat → Int32) (u1 : Int32) (l1 : Int32) : AN := cI (m_in u1 1 40 ∧ m_in l1 1 40) (1, upd (upd v 2 u1) 3 l1, chg (f)) (0, v, f)
set_option maxHeartbeats 4000000 in
set_option maxRecDepth 100000 in
theorem c_X4_speeds (l : Launch) (E : GG) (r z : Nat → Nat) (v : Nat → Int32) (f : Nat → Nat → Int32) (sz : Nat) (u1 : Int32) (l1 : Int32)  : Met l yX4_speeds wsX4_speeds (Rm 2 0 0) (pM E [.ref (r 0), .int u1, .int l1] (CZ E r z v f) sz) (va_Qi (fun (x : Int32) (u : CS) => x = (t_speeds v f u1 l1).1 ∧ u = (z, (t_speeds v f u1 l1).2.1, (t_speeds v f u1 l1).2.2)) (bM E (va_A (CZ E r z v f) sz) (fun (u : CS) => CZ E r u.1 u.2.1 u.2.2)) (va_A (CZ E r z v f) sz)) 0 0 (va_A (CZ E r z v f) sz) := by
  refine ofM (by decide) rfl (Nat.le_of_ble_eq_true rfl) ?_
  intro p e s m below meth c A hx hb hr hlocks hml hown hin hts hK hP hD hS hA hsz hAe ls hl
  rw [← hAe]
  have hl : lv_has ls 3 [(0, .ref (r 0)), (1, .int u1), (2, .int l1)] := hl
  refine lv_iload_n hx hb dX4_speeds_0 rfl (lv_at hl 1 rfl) ?_
  refine lv_iconst (v := 1) hx hb dX4_speeds_1 (by decide) ?_
  refine lv_bipush (v := 40) hx hb dX4_speeds_2 (by decide) ?_
  refine cR_S ⟨hx, hb, hml, hown, hts⟩ (c_X4_within l E u1 1 40) (va_cwS 3 hts gX4_speeds_X4_within rfl rfl rfl (by decide +kernel) ⟨Nat.le_of_ble_eq_true rfl, Nat.le_of_ble_eq_true rfl⟩) hK nilP rfl hl.1 rfl (Nat.le_of_ble_eq_true rfl) dX4_speeds_4 ⟨Nat.le_of_ble_eq_true rfl, Nat.le_of_ble_eq_true rfl⟩ ?_
  refine b_if_eq (q := (m_in u1 1 40)) (tgt := 20) hx hb dX4_speeds_7 (by decide) (fun c_1 => ?_) (fun c_1 => ?_)
  · skip
    refine lv_iconst (v := 0) hx hb dX4_speeds_20 (by decide) ?_
    exact qz_ret ((z, v, f) : CS) hx hb hr hlocks rfl (by rw [t_speeds, cI_f (by simp_all)]; exact ⟨rfl, rfl⟩) hP hD hS dX4_speeds_21
  · skip
    refine lv_iload_n hx hb dX4_speeds_10 rfl (lv_at hl 2 rfl) ?_
    refine lv_iconst (v := 1) hx hb dX4_speeds_11 (by decide) ?_
    refine lv_bipush (v := 40) hx hb dX4_speeds_12 (by decide) ?_
    refine cR_S ⟨hx, hb, hml, hown, hts⟩ (c_X4_within l E l1 1 40) (va_cwS 3 hts gX4_speeds_X4_within rfl rfl rfl (by decide +kernel) ⟨Nat.le_of_ble_eq_true rfl, Nat.le_of_ble_eq_true rfl⟩) hK nilP rfl hl.1 rfl (Nat.le_of_ble_eq_true rfl) dX4_speeds_14 ⟨Nat.le_of_ble_eq_true rfl, Nat.le_of_ble_eq_true rfl⟩ ?_
    refine b_if_ne (q := (m_in l1 1 40)) (tgt := 22) hx hb dX4_speeds_17 (by decide) (fun c_2 => ?_) (fun c_2 => ?_)
    · skip
      refine lv_aload_n hx hb dX4_speeds_22 rfl (lv_at hl 0 rfl) ?_
      refine va_get (D := E.1) (ci := 4) (v := .ref (r 1)) (C := RX4) (T := TX4) (N := 13) hx hb hts (fun _ h => (List.mem_cons_of_mem _ (List.mem_append_left _ (List.mem_append_right _ h)))) hown hK.1 hP 15 rfl rfl 0 (by decide) (hts _ (List.mem_of_getElem? (i := 1) rfl)) (fun _ h9 => h9) rfl dX4_speeds_23 ?_
      refine lv_iload_n hx hb dX4_speeds_26 rfl (lv_at hl 1 rfl) ?_
      refine va_putN (D := E.1) (ci := 1) (v := .int u1) (ty := .int) (C := RX1) (T := TX1) (N := 9) (host := "TwoLakes") (ref := RX1) hx hb hts (fun _ h => (List.mem_cons_of_mem _ (List.mem_append_right _ h))) tyX1 tyX1_ok nmX1 hown hK.1 hP hD hS 1 rfl rfl 2 (by decide) (va_Nw.use rfl (hK.2.1 (RX4, 96, RX1, "upperSpeed", "I") (List.mem_of_getElem? (i := 2) rfl))) (fun _ h9 => h9) rfl (by decide +kernel) rfl rfl (Nat.le_of_ble_eq_true rfl) dX4_speeds_27 (fun H locs hP hD hS => ?_)
      have hP : va_P E.1 vwCl (CZ E r z (upd v 2 u1) f) H := hP
      have hD : va_D A (CZ E r z (upd v 2 u1) f) := hD
      refine lv_aload_n hx hb dX4_speeds_30 rfl (lv_at hl 0 rfl) ?_
      refine va_get (D := E.1) (ci := 4) (v := .ref (r 1)) (C := RX4) (T := TX4) (N := 13) hx hb hts (fun _ h => (List.mem_cons_of_mem _ (List.mem_append_left _ (List.mem_append_right _ h)))) hown hK.1 hP 15 rfl rfl 0 (by decide) (hts _ (List.mem_of_getElem? (i := 1) rfl)) (fun _ h9 => h9) rfl dX4_speeds_31 ?_
      refine lv_iload_n hx hb dX4_speeds_34 rfl (lv_at hl 2 rfl) ?_
      refine va_putN (D := E.1) (ci := 1) (v := .int l1) (ty := .int) (C := RX1) (T := TX1) (N := 9) (host := "TwoLakes") (ref := RX1) hx hb hts (fun _ h => (List.mem_cons_of_mem _ (List.mem_append_right _ h))) tyX1 tyX1_ok nmX1 hown hK.1 hP hD hS 1 rfl rfl 3 (by decide) (va_Nw.use rfl (hK.2.1 (RX4, 99, RX1, "lowerSpeed", "I") (List.mem_of_getElem? (i := 4) rfl))) (fun _ h9 => h9) rfl (by decide +kernel) rfl rfl (Nat.le_of_ble_eq_true rfl) dX4_speeds_35 (fun H locs hP hD hS => ?_)
      have hP : va_P E.1 vwCl (CZ E r z (upd (upd v 2 u1) 3 l1) f) H := hP
      have hD : va_D A (CZ E r z (upd (upd v 2 u1) 3 l1) f) := hD
      refine lv_aload_n hx hb dX4_speeds_38 rfl (lv_at hl 0 rfl) ?_
      refine cM_i (As := [.ref (r 0)]) (wr := []) (rM_V ⟨hx, hb, hml, hown, hts⟩ (c_X4_changed l E r z (upd (upd v 2 u1) 3 l1) f H.size) (cwV 0 hts gX4_speeds_X4_changed rfl rfl rfl (by decide +kernel) ⟨Nat.le_of_ble_eq_true rfl, Nat.le_of_ble_eq_true rfl⟩) hK hP hD 4 15 rfl rfl rfl hl.1 rfl (Nat.le_of_ble_eq_true rfl) dX4_speeds_39 ⟨Nat.le_of_ble_eq_true rfl, Nat.le_of_ble_eq_true rfl⟩) hP hD hS hA [0, 1, 2, 3, 4, 5, 6, 7, 8, 9, 10, 11, 12, 13, 14, 15, 16, 17, 18, 19, 20, 21, 22, 23, 24, 25, 26, 27, 28, 29, 30, 31, 32, 33, 34, 35, 36, 37, 38, 39] [] rfl rfl (by decide) (by decide) (fun x_3 u_3 H locs hq_3 hP hD hS => ?_)
      obtain ⟨rfl, rfl⟩ := hq_3
      have hP : va_P E.1 vwCl (CZ E r z (upd (upd v 2 u1) 3 l1) (chg f)) H := hP
      have hD : va_D A (CZ E r z (upd (upd v 2 u1) 3 l1) (chg f)) := hD
      exact qz_ret ((z, (upd (upd v 2 u1) 3 l1), (chg f)) : CS) hx hb hr hlocks rfl (by rw [t_speeds, cI_t (by simp_all)]; exact ⟨rfl, rfl⟩) hP hD hS dX4_speeds_42
    · skip
      refine lv_iconst (v := 0) hx hb dX4_speeds_20 (by decide) ?_
      exact qz_ret ((z, v, f) : CS) hx hb hr hlocks rfl (by rw [t_speeds, cI_f (by simp_all)]; exact ⟨rfl, rfl⟩) hP hD hS dX4_speeds_21
noncomputable def t_reveal (v : Nat → Int32) (f : Nat → Nat → Int32) (h : Int32) : AN := cI (m_in h 0 24) (1, upd v 30 h, chg (f)) (0, v, f)
