set_option maxHeartbeats 4000000 in
set_option maxRecDepth 100000 in
theorem c_X4_water (l : Launch) (E : GG) (r z : Nat → Nat) (v : Nat → Int32) (f : Nat → Nat → Int32) (sz : Nat) (x : Int32) (V : Nat → Int32) (F : Nat → Nat → Int32) (nw rv up lo m0 m1 : Nat) (hC : CI v f V F nw rv up lo m0 m1) : Met l yX4_water wsX4_water (Rm 6 0 0) (pM E [.ref (r 0), .int x] (CZ E r z v f) sz) (va_Qi (fun (y : Int32) (u : CS) => y = n_water V F nw rv lo (3 * m0 + m1) x ∧ CI u.2.1 u.2.2 V F nw rv up lo m0 m1) (bM E (va_A (CZ E r z v f) sz) (fun (u : CS) => CZ E r u.1 u.2.1 u.2.2)) (va_A (CZ E r z v f) sz)) 0 0 (va_A (CZ E r z v f) sz) := by
  refine ofM (by decide) rfl (Nat.le_of_ble_eq_true rfl) ?_
  intro p e s m below meth c A hx hb hr hlocks hml hown hin hts hK hP hD hS hA hsz hAe ls hl
  rw [← hAe]
  have hl : lv_has ls 4 [(0, .ref (r 0)), (1, .int x)] := hl
  obtain ⟨hnw, hn24, hrv, hr24, hup, hup40, hlo, hlo40, hm0, h03, hm1, h13⟩ := CI_nat hC
  refine lv_iload_n hx hb dX4_water_0 rfl (lv_at hl 1 rfl) ?_
  refine lv_iconst (v := 0) hx hb dX4_water_1 (by decide) ?_
  refine lv_aload_n hx hb dX4_water_2 rfl (lv_at hl 0 rfl) ?_
  refine va_get (D := E.1) (ci := 4) (v := .ref (r 1)) (C := RX4) (T := TX4) (N := 13) hx hb hts (fun _ h => (List.mem_cons_of_mem _ (List.mem_append_left _ (List.mem_append_left _ (List.mem_append_left _ (List.mem_append_left _ (List.mem_append_right _ h))))))) hown hK.1 hP 15 rfl rfl 0 (by decide) (hts _ (List.mem_of_getElem? (i := 1) rfl)) (fun _ h9 => h9) rfl dX4_water_3 ?_
  refine va_getN (D := E.1) (ci := 1) (v := .int (v 0)) (C := RX1) (T := TX1) (N := 9) (host := "TwoLakes") (ref := RX1) hx hb hts (fun _ h => (List.mem_cons_of_mem _ (List.mem_append_left _ (List.mem_append_left _ (List.mem_append_left _ (List.mem_append_right _ h)))))) hown hK.1 hP 1 rfl rfl 0 (by decide) (va_Nw.use rfl (hK.2.1 (RX4, 80, RX1, "upperRoom", "I") (List.mem_of_getElem? (i := 0) rfl))) (fun _ h9 => h9) rfl dX4_water_6 ?_
  refine lv_iconst (v := 1) hx hb dX4_water_9 (by decide) ?_
  refine lv_isub hx hb dX4_water_10 ?_
  refine cR_S ⟨hx, hb, hml, hown, hts⟩ (c_X4_within l E x 0 ((v 0) - 1)) (va_cwS 3 hts gX4_water_X4_within rfl rfl rfl (by decide +kernel) ⟨Nat.le_of_ble_eq_true rfl, Nat.le_of_ble_eq_true rfl⟩) hK nilP rfl hl.1 rfl (Nat.le_of_ble_eq_true rfl) dX4_water_11 ⟨Nat.le_of_ble_eq_true rfl, Nat.le_of_ble_eq_true rfl⟩ ?_
  refine b_if_ne (q := (m_in x 0 ((v 0) - 1))) (tgt := 20) hx hb dX4_water_14 (by decide) (fun c_1 => ?_) (fun c_1 => ?_)
  · skip
    have hwi := (wat_in hC).mp c_1
    obtain ⟨xn, hxn, exn⟩ := nI_of (x := x) hwi.1
    subst exn
    have hxA : (xn : Int) < (V 2).toInt := by have q := t_lt.mp hwi.2; rw [nI_toInt hxn] at q; exact q
    have hA40 := hC.2.1.1.2
    refine lv_aload_n hx hb dX4_water_20 rfl (lv_at hl 0 rfl) ?_
    refine lv_iload_n hx hb dX4_water_21 rfl (lv_at hl 1 rfl) ?_
    refine cM_i (As := [.ref (r 0), .int (nI xn)]) (wr := []) (rM_V ⟨hx, hb, hml, hown, hts⟩ (c_X4_worthWith l E r z v f s.heap.size xn V F nw rv up lo m0 m1 hC (by omega) (by omega)) (cwV 1 hts gX4_water_X4_worthWith rfl rfl rfl (by decide +kernel) ⟨Nat.le_of_ble_eq_true rfl, Nat.le_of_ble_eq_true rfl⟩) hK hP hD 4 15 rfl rfl rfl hl.1 rfl (Nat.le_of_ble_eq_true rfl) dX4_water_22 ⟨Nat.le_of_ble_eq_true rfl, Nat.le_of_ble_eq_true rfl⟩) hP hD hS hA [0, 1, 2, 3, 4, 5, 6, 7, 8, 9, 10, 11, 12, 13, 14, 15, 16, 17, 18, 19, 20, 21, 22, 23, 24, 25, 26, 27, 28, 29, 30, 31, 32, 33, 34, 35, 36, 37, 38, 39] [] rfl rfl (by decide) (by decide) (fun x_2 u_2 H locs hq_2 hP hD hS => ?_)
    obtain ⟨Z_2, V_2, F_2⟩ := u_2
    obtain ⟨ex_2, hC⟩ := hq_2
    dsimp only at hC
    obtain ⟨hnw, hn24, hrv, hr24, hup, hup40, hlo, hlo40, hm0, h03, hm1, h13⟩ := CI_nat hC
    have hP : va_P E.1 vwCl (CZ E r Z_2 V_2 F_2) H := hP
    have hD : va_D A (CZ E r Z_2 V_2 F_2) := hD
    refine lv_istore_n (lv' := [(2, .int x_2), (0, .ref (r 0)), (1, .int (nI xn))]) hx hb dX4_water_25 rfl hl (by decide) rfl (fun ls hl => ?_)
    refine lv_aload_n hx hb dX4_water_26 rfl (lv_at hl 1 rfl) ?_
    refine lv_iload_n hx hb dX4_water_27 rfl (lv_at hl 2 rfl) ?_
    refine lv_iconst (v := 1) hx hb dX4_water_28 (by decide) ?_
    refine lv_iadd hx hb dX4_water_29 ?_
    refine w_top (show ((nI xn) + 1) = (nI (xn + 1)) from nI_add _ _) ?_
    refine cM_i (As := [.ref (r 0), .int (nI (xn + 1))]) (wr := []) (rM_V ⟨hx, hb, hml, hown, hts⟩ (c_X4_worthWith l E r Z_2 V_2 F_2 H.size (xn + 1) V F nw rv up lo m0 m1 hC (by omega) (by omega)) (cwV 1 hts gX4_water_X4_worthWith rfl rfl rfl (by decide +kernel) ⟨Nat.le_of_ble_eq_true rfl, Nat.le_of_ble_eq_true rfl⟩) hK hP hD 4 15 rfl rfl rfl hl.1 rfl (Nat.le_of_ble_eq_true rfl) dX4_water_30 ⟨Nat.le_of_ble_eq_true rfl, Nat.le_of_ble_eq_true rfl⟩) hP hD hS hA [0, 1, 2, 3, 4, 5, 6, 7, 8, 9, 10, 11, 12, 13, 14, 15, 16, 17, 18, 19, 20, 21, 22, 23, 24, 25, 26, 27, 28, 29, 30, 31, 32, 33, 34, 35, 36, 37, 38, 39] [] rfl rfl (by decide) (by decide) (fun x_3 u_3 H locs hq_3 hP hD hS => ?_)
    obtain ⟨Z_3, V_3, F_3⟩ := u_3
    obtain ⟨ex_3, hC⟩ := hq_3
    dsimp only at hC
    obtain ⟨hnw, hn24, hrv, hr24, hup, hup40, hlo, hlo40, hm0, h03, hm1, h13⟩ := CI_nat hC
    have hP : va_P E.1 vwCl (CZ E r Z_3 V_3 F_3) H := hP
    have hD : va_D A (CZ E r Z_3 V_3 F_3) := hD
    refine lv_istore_n (lv' := [(3, .int x_3), (2, .int x_2), (0, .ref (r 0)), (1, .int (nI xn))]) hx hb dX4_water_33 rfl hl (by decide) rfl (fun ls hl => ?_)
    refine lv_iload_n hx hb dX4_water_34 rfl (lv_at hl 1 rfl) ?_
    refine lv_ldc hx hb hown (hts _ (List.mem_of_getElem? (i := 2) rfl)) dX4_water_35 ?_
    refine lv_icmp_eq (tgt := 46) hx hb dX4_water_37 (by decide) (fun c_4 => ?_) (fun c_4 => ?_)
    · skip
      refine lv_ldc hx hb hown (hts _ (List.mem_of_getElem? (i := 2) rfl)) dX4_water_46 ?_
      refine lv_goto (tgt := 54) hx hb dX4_water_48 (by decide) ?_
      exact q_ret ((Z_3, V_3, F_3) : CS) hx hb hr hlocks ⟨by rw [n_water, cI_t hwi, nI_clamp hxn, show 9 * (xn + 1) + (3 * m0 + m1) = 9 * (xn + 1) + 3 * m0 + m1 by omega, show 9 * xn + (3 * m0 + m1) = 9 * xn + 3 * m0 + m1 by omega, ← ex_2, ← ex_3, n_wat, if_pos (Or.inr c_4)], hC⟩ hP hD hS dX4_water_54
    · skip
      refine lv_iload_n hx hb dX4_water_40 rfl (lv_at hl 0 rfl) ?_
      refine lv_ldc hx hb hown (hts _ (List.mem_of_getElem? (i := 2) rfl)) dX4_water_41 ?_
      refine lv_icmp_ne (tgt := 51) hx hb dX4_water_43 (by decide) (fun c_5 => ?_) (fun c_5 => ?_)
      · skip
        refine lv_iload_n hx hb dX4_water_51 rfl (lv_at hl 0 rfl) ?_
        refine lv_iload_n hx hb dX4_water_52 rfl (lv_at hl 1 rfl) ?_
        refine lv_isub hx hb dX4_water_53 ?_
        exact q_ret ((Z_3, V_3, F_3) : CS) hx hb hr hlocks ⟨by rw [n_water, cI_t hwi, nI_clamp hxn, show 9 * (xn + 1) + (3 * m0 + m1) = 9 * (xn + 1) + 3 * m0 + m1 by omega, show 9 * xn + (3 * m0 + m1) = 9 * xn + 3 * m0 + m1 by omega, ← ex_2, ← ex_3, n_wat, if_neg (fun q => q.elim c_5 c_4)], hC⟩ hP hD hS dX4_water_54
      · skip
        refine lv_ldc hx hb hown (hts _ (List.mem_of_getElem? (i := 2) rfl)) dX4_water_46 ?_
        refine lv_goto (tgt := 54) hx hb dX4_water_48 (by decide) ?_
        exact q_ret ((Z_3, V_3, F_3) : CS) hx hb hr hlocks ⟨by rw [n_water, cI_t hwi, nI_clamp hxn, show 9 * (xn + 1) + (3 * m0 + m1) = 9 * (xn + 1) + 3 * m0 + m1 by omega, show 9 * xn + (3 * m0 + m1) = 9 * xn + 3 * m0 + m1 by omega, ← ex_2, ← ex_3, n_wat, if_pos (Or.inl c_5)], hC⟩ hP hD hS dX4_water_54
  · skip
    refine lv_ldc hx hb hown (hts _ (List.mem_of_getElem? (i := 2) rfl)) dX4_water_17 ?_
    exact q_ret ((z, v, f) : CS) hx hb hr hlocks ⟨by rw [n_water, cI_f (fun q => c_1 ((wat_in hC).mpr q))], hC⟩ hP hD hS dX4_water_19
