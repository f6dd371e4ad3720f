set_option maxHeartbeats 4000000 in
set_option maxRecDepth 100000 in
theorem c_X4_worthWith (l : Launch) (E : GG) (r z : Nat → Nat) (v : Nat → Int32) (f : Nat → Nat → Int32) (sz : Nat) (u1 : Nat) (V : Nat → Int32) (F : Nat → Nat → Int32) (nw rv up lo m0 m1 : Nat) (hC : CI v f V F nw rv up lo m0 m1) (hu40 : u1 ≤ 40) (huA : (u1 : Int) ≤ (V 2).toInt) : Met l yX4_worthWith wsX4_worthWith (Rm 5 0 0) (pM E [.ref (r 0), .int (nI u1)] (CZ E r z v f) sz) (va_Qi (fun (x : Int32) (u : CS) => x = (mA V F (m_sg F nw (nI (u1 + lo))) rv (24 - nw) (9 * u1 + 3 * m0 + m1)) ∧ CI u.2.1 u.2.2 V F nw rv up lo m0 m1) (bM E (va_A (CZ E r z v f) sz) (fun (u : CS) => CZ E r u.1 u.2.1 u.2.2)) (va_A (CZ E r z v f) sz)) 0 0 (va_A (CZ E r z v f) sz) := by
  refine ofM (by decide) rfl (Nat.le_of_ble_eq_true rfl) ?_
  intro p e s m below meth c A hx hb hr hlocks hml hown hin hts hK hP hD hS hA hsz hAe ls hl
  rw [← hAe]
  have hl : lv_has ls 2 [(0, .ref (r 0)), (1, .int (nI u1))] := hl
  obtain ⟨hnw, hn24, hrv, hr24, hup, hup40, hlo, hlo40, hm0, h03, hm1, h13⟩ := CI_nat hC
  refine lv_aload_n hx hb dX4_worthWith_0 rfl (lv_at hl 0 rfl) ?_
  refine va_get (D := E.1) (ci := 4) (v := .ref (r 11)) (C := RX4) (T := TX4) (N := 13) hx hb hts (fun _ h => (List.mem_cons_of_mem _ (List.mem_append_left _ (List.mem_append_left _ (List.mem_append_left _ (List.mem_append_left _ (List.mem_append_right _ h))))))) hown hK.1 hP 15 rfl rfl 7 (by decide) (hts _ (List.mem_of_getElem? (i := 1) rfl)) (fun _ h9 => h9) rfl dX4_worthWith_1 ?_
  refine lv_iload_n hx hb dX4_worthWith_4 rfl (lv_at hl 1 rfl) ?_
  refine n_iald (f := f 11) hx hb hK.1 hP 18 0 rfl rfl (i := u1) (by omega) (by decide) dX4_worthWith_5 ?_
  refine lv_ldc hx hb hown (hts _ (List.mem_of_getElem? (i := 2) rfl)) dX4_worthWith_6 ?_
  refine lv_icmp_ne (tgt := 39) hx hb dX4_worthWith_8 (by decide) (fun c_1 => ?_) (fun c_1 => ?_)
  · skip
    refine lv_aload_n hx hb dX4_worthWith_39 rfl (lv_at hl 0 rfl) ?_
    refine va_get (D := E.1) (ci := 4) (v := .ref (r 11)) (C := RX4) (T := TX4) (N := 13) hx hb hts (fun _ h => (List.mem_cons_of_mem _ (List.mem_append_left _ (List.mem_append_left _ (List.mem_append_left _ (List.mem_append_left _ (List.mem_append_right _ h))))))) hown hK.1 hP 15 rfl rfl 7 (by decide) (hts _ (List.mem_of_getElem? (i := 1) rfl)) (fun _ h9 => h9) rfl dX4_worthWith_40 ?_
    refine lv_iload_n hx hb dX4_worthWith_43 rfl (lv_at hl 1 rfl) ?_
    refine n_iald (f := f 11) hx hb hK.1 hP 18 0 rfl rfl (i := u1) (by omega) (by decide) dX4_worthWith_44 ?_
    exact q_ret ((z, v, f) : CS) hx hb hr hlocks ⟨(hC.2.2.2.2.2.1 u1 hu40 huA).resolve_left c_1, hC⟩ hP hD hS dX4_worthWith_45
  · skip
    refine lv_aload_n hx hb dX4_worthWith_11 rfl (lv_at hl 0 rfl) ?_
    refine lv_iload_n hx hb dX4_worthWith_12 rfl (lv_at hl 1 rfl) ?_
    refine cM_v (As := [.ref (r 0), .int (nI u1)]) (wr := []) (rM_V ⟨hx, hb, hml, hown, hts⟩ (c_X4_planAll l E r z v f s.heap.size u1 nw rv lo hnw hn24 hrv hr24 hlo (CI_op hC hu40)) (cwV 1 hts gX4_worthWith_X4_planAll rfl rfl rfl (by decide +kernel) ⟨Nat.le_of_ble_eq_true rfl, Nat.le_of_ble_eq_true rfl⟩) hK hP hD 4 15 rfl rfl rfl hl.1 rfl (Nat.le_of_ble_eq_true rfl) dX4_worthWith_13 ⟨Nat.le_of_ble_eq_true rfl, Nat.le_of_ble_eq_true rfl⟩) hP hD hS hA [0, 1, 2, 3, 4, 5, 6, 7, 8, 9, 10, 11, 12, 13, 14, 15, 16, 17, 18, 19, 20, 21, 22, 23, 24, 25, 26, 27, 28, 29, 30, 31, 32, 33, 34, 35, 36, 37, 38, 39] [] rfl rfl (by decide) (by decide) (fun u_2 H locs hq_2 hP hD hS => ?_)
    obtain ⟨Z_2, V_2, F_2⟩ := u_2
    obtain ⟨hp1, hp2, hp3, hp4⟩ := hq_2
    dsimp only at hp1 hp2 hp3 hp4
    have hP : va_P E.1 vwCl (CZ E r Z_2 V_2 F_2) H := hP
    have hD : va_D A (CZ E r Z_2 V_2 F_2) := hD
    refine lv_aload_n hx hb dX4_worthWith_16 rfl (lv_at hl 0 rfl) ?_
    refine va_get (D := E.1) (ci := 4) (v := .ref (r 11)) (C := RX4) (T := TX4) (N := 13) hx hb hts (fun _ h => (List.mem_cons_of_mem _ (List.mem_append_left _ (List.mem_append_left _ (List.mem_append_left _ (List.mem_append_left _ (List.mem_append_right _ h))))))) hown hK.1 hP 15 rfl rfl 7 (by decide) (hts _ (List.mem_of_getElem? (i := 1) rfl)) (fun _ h9 => h9) rfl dX4_worthWith_17 ?_
    refine lv_iload_n hx hb dX4_worthWith_20 rfl (lv_at hl 1 rfl) ?_
    refine lv_aload_n hx hb dX4_worthWith_21 rfl (lv_at hl 0 rfl) ?_
    refine va_get (D := E.1) (ci := 4) (v := .ref (r 8)) (C := RX4) (T := TX4) (N := 13) hx hb hts (fun _ h => (List.mem_cons_of_mem _ (List.mem_append_left _ (List.mem_append_left _ (List.mem_append_left _ (List.mem_append_left _ (List.mem_append_right _ h))))))) hown hK.1 hP 15 rfl rfl 5 (by decide) (hts _ (List.mem_of_getElem? (i := 3) rfl)) (fun _ h9 => h9) rfl dX4_worthWith_22 ?_
    refine va_getN (D := E.1) (ci := 3) (v := .ref (Z_2 3)) (C := RX3) (T := TX3) (N := 5) (host := "TwoLakes") (ref := RX3) hx hb hts (fun _ h => (List.mem_cons_of_mem _ (List.mem_append_left _ (List.mem_append_left _ (List.mem_append_left _ (List.mem_append_right _ h)))))) hown hK.1 hP 35 rfl rfl 2 (by decide) (va_Nw.use rfl (hK.2.1 (RX4, 213, RX3, "values", "[I") (List.mem_of_getElem? (i := 33) rfl))) (fun _ h9 => h9) rfl dX4_worthWith_25 ?_
    refine lv_iload_n hx hb dX4_worthWith_28 rfl (lv_at hl 1 rfl) ?_
    refine lv_bipush (v := 9) hx hb dX4_worthWith_29 (by decide) ?_
    refine lv_imul hx hb dX4_worthWith_31 ?_
    refine w_top (show ((nI u1) * 9) = (nI (u1 * 9)) from pk_mul _ _) ?_
    refine lv_aload_n hx hb dX4_worthWith_32 rfl (lv_at hl 0 rfl) ?_
    refine cR_V ⟨hx, hb, hml, hown, hts⟩ (c_X4_modesNow l E r V_2 m0 m1 ((hp1 15 (by decide)).trans hm0) ((hp1 25 (by decide)).trans hm1)) (cwV 0 hts gX4_worthWith_X4_modesNow rfl rfl rfl (by decide +kernel) ⟨Nat.le_of_ble_eq_true rfl, Nat.le_of_ble_eq_true rfl⟩) hK (hP.sub (ws' := TW E r V_2) [15, 2, 3] rfl) 4 0 rfl rfl rfl hl.1 rfl (Nat.le_of_ble_eq_true rfl) dX4_worthWith_33 ⟨Nat.le_of_ble_eq_true rfl, Nat.le_of_ble_eq_true rfl⟩ ?_
    refine lv_iadd hx hb dX4_worthWith_36 ?_
    refine w_top (show ((nI (u1 * 9)) + (nI (m0 * 3 + m1))) = (nI ((u1 * 9) + (m0 * 3 + m1))) from nI_add _ _) ?_
    refine n_iald (f := F_2 31) hx hb hK.1 hP 37 0 rfl rfl (i := (u1 * 9) + (m0 * 3 + m1)) (by omega) (by decide) dX4_worthWith_37 ?_
    refine w_top (show (F_2 31 ((u1 * 9) + (m0 * 3 + m1))) = (mA V F (m_sg F nw (nI (u1 + lo))) rv (24 - nw) (9 * u1 + 3 * m0 + m1)) from ((congrFun hp3 _).trans (CI_worth hC hu40 huA))) ?_
    refine n_iast (f := F_2 11) hx hb hK.1 hP hD hS 18 0 rfl rfl (i := u1) (by omega) (by decide) dX4_worthWith_38 (fun H locs hP hD hS => ?_)
    have hP : va_P E.1 vwCl (CZ E r Z_2 V_2 (va_up F_2 11 (upd (F_2 11) u1 (mA V F (m_sg F nw (nI (u1 + lo))) rv (24 - nw) (9 * u1 + 3 * m0 + m1))))) H := hP
    have hD : va_D A (CZ E r Z_2 V_2 (va_up F_2 11 (upd (F_2 11) u1 (mA V F (m_sg F nw (nI (u1 + lo))) rv (24 - nw) (9 * u1 + 3 * m0 + m1))))) := hD
    refine lv_aload_n hx hb dX4_worthWith_39 rfl (lv_at hl 0 rfl) ?_
    refine va_get (D := E.1) (ci := 4) (v := .ref (r 11)) (C := RX4) (T := TX4) (N := 13) hx hb hts (fun _ h => (List.mem_cons_of_mem _ (List.mem_append_left _ (List.mem_append_left _ (List.mem_append_left _ (List.mem_append_left _ (List.mem_append_right _ h))))))) hown hK.1 hP 15 rfl rfl 7 (by decide) (hts _ (List.mem_of_getElem? (i := 1) rfl)) (fun _ h9 => h9) rfl dX4_worthWith_40 ?_
    refine lv_iload_n hx hb dX4_worthWith_43 rfl (lv_at hl 1 rfl) ?_
    refine n_iald (f := upd (F_2 11) u1 (mA V F (m_sg F nw (nI (u1 + lo))) rv (24 - nw) (9 * u1 + 3 * m0 + m1))) hx hb hK.1 hP 18 0 rfl rfl (i := u1) (by omega) (by decide) dX4_worthWith_44 ?_
    refine w_top (show (upd (F_2 11) u1 (mA V F (m_sg F nw (nI (u1 + lo))) rv (24 - nw) (9 * u1 + 3 * m0 + m1)) u1) = (mA V F (m_sg F nw (nI (u1 + lo))) rv (24 - nw) (9 * u1 + 3 * m0 + m1)) from pk_us) ?_
    exact q_ret ((Z_2, V_2, (va_up F_2 11 (upd (F_2 11) u1 (mA V F (m_sg F nw (nI (u1 + lo))) rv (24 - nw) (9 * u1 + 3 * m0 + m1))))) : CS) hx hb hr hlocks ⟨rfl, CI_w hC hp1 (fun k hk => (up_ne (by omega)).trans (hp2 k (by omega))) (u := u1) rfl (Or.inr (show upd (F_2 11) u1 (mA V F (m_sg F nw (nI (u1 + lo))) rv (24 - nw) (9 * u1 + 3 * m0 + m1)) = upd (f 11) u1 (mA V F (m_sg F nw (nI (u1 + lo))) rv (24 - nw) (9 * u1 + 3 * m0 + m1)) by rw [hp2 11 (by omega)]))⟩ hP hD hS dX4_worthWith_45
