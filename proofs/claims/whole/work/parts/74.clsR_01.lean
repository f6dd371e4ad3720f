set_option maxHeartbeats 4000000 in
set_option maxRecDepth 100000 in
theorem c_X4_worth (l : Launch) (E : GG) (r z : Nat → Nat) (v : Nat → Int32) (f : Nat → Nat → Int32) (sz : Nat)  (V : Nat → Int32) (F : Nat → Nat → Int32) (nw rv up lo m0 m1 : Nat) (hC : CI v f V F nw rv up lo m0 m1) : Met l yX4_worth wsX4_worth (Rm 6 0 0) (pM E [.ref (r 0)] (CZ E r z v f) sz) (va_Qi (fun (x : Int32) (u : CS) => x = mA V F (m_sg F nw (nI (up + lo))) rv (24 - nw) (9 * up + 3 * m0 + m1) ∧ CI u.2.1 u.2.2 V F nw rv up lo m0 m1) (bM E (va_A (CZ E r z v f) sz) (fun (u : CS) => CZ E r u.1 u.2.1 u.2.2)) (va_A (CZ E r z v f) sz)) 0 0 (va_A (CZ E r z v f) sz) := by
  refine ofM (by decide) rfl (Nat.le_of_ble_eq_true rfl) ?_
  intro p e s m below meth c A hx hb hr hlocks hml hown hin hts hK hP hD hS hA hsz hAe ls hl
  rw [← hAe]
  have hl : lv_has ls 1 [(0, .ref (r 0))] := hl
  obtain ⟨hnw, hn24, hrv, hr24, hup, hup40, hlo, hlo40, hm0, h03, hm1, h13⟩ := CI_nat hC
  refine lv_aload_n hx hb dX4_worth_0 rfl (lv_at hl 0 rfl) ?_
  refine lv_aload_n hx hb dX4_worth_1 rfl (lv_at hl 0 rfl) ?_
  refine va_get (D := E.1) (ci := 4) (v := .ref (r 1)) (C := RX4) (T := TX4) (N := 13) hx hb hts (fun _ h => (List.mem_cons_of_mem _ (List.mem_append_left _ (List.mem_append_left _ (List.mem_append_left _ (List.mem_append_left _ (List.mem_append_right _ h))))))) hown hK.1 hP 15 rfl rfl 0 (by decide) (hts _ (List.mem_of_getElem? (i := 1) rfl)) (fun _ h9 => h9) rfl dX4_worth_2 ?_
  refine va_getN (D := E.1) (ci := 1) (v := .int (v 4)) (C := RX1) (T := TX1) (N := 9) (host := "TwoLakes") (ref := RX1) hx hb hts (fun _ h => (List.mem_cons_of_mem _ (List.mem_append_left _ (List.mem_append_left _ (List.mem_append_left _ (List.mem_append_right _ h)))))) hown hK.1 hP 1 rfl rfl 4 (by decide) (va_Nw.use rfl (hK.2.1 (RX4, 86, RX1, "upper", "I") (List.mem_of_getElem? (i := 6) rfl))) (fun _ h9 => h9) rfl dX4_worth_5 ?_
  refine w_top (show (v 4) = nI up from hup) ?_
  refine cM_i (As := [.ref (r 0), .int (nI up)]) (wr := []) (rM_V ⟨hx, hb, hml, hown, hts⟩ (c_X4_worthWith l E r z v f s.heap.size up V F nw rv up lo m0 m1 hC hup40 hC.2.2.2.1) (cwV 1 hts gX4_worth_X4_worthWith rfl rfl rfl (by decide +kernel) ⟨Nat.le_of_ble_eq_true rfl, Nat.le_of_ble_eq_true rfl⟩) hK hP hD 4 15 rfl rfl rfl hl.1 rfl (Nat.le_of_ble_eq_true rfl) dX4_worth_8 ⟨Nat.le_of_ble_eq_true rfl, Nat.le_of_ble_eq_true rfl⟩) hP hD hS hA [0, 1, 2, 3, 4, 5, 6, 7, 8, 9, 10, 11, 12, 13, 14, 15, 16, 17, 18, 19, 20, 21, 22, 23, 24, 25, 26, 27, 28, 29, 30, 31, 32, 33, 34, 35, 36, 37, 38, 39] [] rfl rfl (by decide) (by decide) (fun x_1 u_1 H locs hq_1 hP hD hS => ?_)
  obtain ⟨Z_1, V_1, F_1⟩ := u_1
  obtain ⟨ex_1, hC⟩ := hq_1
  dsimp only at hC
  obtain ⟨hnw, hn24, hrv, hr24, hup, hup40, hlo, hlo40, hm0, h03, hm1, h13⟩ := CI_nat hC
  have hP : va_P E.1 vwCl (CZ E r Z_1 V_1 F_1) H := hP
  have hD : va_D A (CZ E r Z_1 V_1 F_1) := hD
  exact q_ret ((Z_1, V_1, F_1) : CS) hx hb hr hlocks ⟨ex_1, hC⟩ hP hD hS dX4_worth_11
