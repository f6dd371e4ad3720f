set_option maxHeartbeats 4000000 in
set_option maxRecDepth 100000 in
theorem c_X5_worth (l : Launch) (E : GG) (r : Nat → Nat) (v : Nat → Int32) (f : Nat → Nat → Int32) (B C : Nat → Int32) (sz : Nat)  (nw rv up lo m0 m1 : Nat) (hnw : v 1 = nI nw) (hn24 : nw ≤ 24) (hrv : v 19 = nI rv) (hr24 : rv ≤ 24) (h40 : (v 2).toInt ≤ 40) (hup : v 4 = nI up) (hu40 : up ≤ 40) (hlo : v 5 = nI lo) (hm0 : f 21 0 = nI m0) (h03 : m0 < 3) (hm1 : f 21 1 = nI m1) (h13 : m1 < 3) : Met l yX5_worth wsX5_worth (Rm 7 1 25) (pM E [.ref (r 0)] (MW E r v f B C) sz) (va_Qi (fun (x : Int32) (u : MS) => x = mA v f (m_sg f nw (nI (up + lo))) rv (24 - nw) (9 * up + 3 * m0 + m1) ∧ u.1 = upd v 0 0 ∧ u.2.1 = f) (bM E (va_A (MW E r v f B C) sz) (MWu E r)) (va_A (MW E r v f B C) sz)) 1 25 (va_A (MW E r v f B C) sz) := by
  refine ofM (by decide) rfl (Nat.le_of_ble_eq_true rfl) ?_
  intro p e s m below meth c A hx hb hr hlocks hml hown hin hts hK hP hD hS hA hsz hAe ls hl
  rw [← hAe]
  have hl : lv_has ls 1 [(0, .ref (r 0))] := hl
  refine lv_aload_n hx hb dX5_worth_0 rfl (lv_at hl 0 rfl) ?_
  refine lv_iconst (v := 0) hx hb dX5_worth_1 (by decide) ?_
  refine va_put (D := E.1) (ci := 5) (v := .int 0) (ty := .int) (C := RX5) (T := TX5) (N := 26) hx hb hts (fun _ h => (List.mem_cons_of_mem _ (List.mem_append_right _ h))) tyX5 tyX5_ok nmX5 hown hK.1 hP hD hS 0 rfl rfl 0 (by decide) (hts _ (List.mem_of_getElem? (i := 1) rfl)) (fun _ h9 => h9) rfl (by decide +kernel) rfl rfl (Nat.le_of_ble_eq_true rfl) dX5_worth_2 (fun H locs hP hD hS => ?_)
  have hP : va_P E.1 vwCl (MW E r (upd v 0 0) f B C) H := hP
  have hD : va_D A (MW E r (upd v 0 0) f B C) := hD
  refine lv_aload_n hx hb dX5_worth_5 rfl (lv_at hl 0 rfl) ?_
  refine cM_i (As := [.ref (r 0)]) (wr := []) (rM_V ⟨hx, hb, hml, hown, hts⟩ (c_X5_worthNow l E r (upd v 0 0) f B C H.size nw rv up lo m0 m1 hnw hn24 hrv hr24 h40 hup hu40 hlo hm0 h03 hm1 h13) (cwV 0 hts gX5_worth_X5_worthNow rfl rfl rfl (by decide +kernel) ⟨Nat.le_of_ble_eq_true rfl, Nat.le_of_ble_eq_true rfl⟩) hK hP hD 5 0 rfl rfl rfl hl.1 rfl (Nat.le_of_ble_eq_true rfl) dX5_worth_6 ⟨Nat.le_of_ble_eq_true rfl, Nat.le_of_ble_eq_true rfl⟩) hP hD hS hA [0, 1, 2, 3, 4, 5, 6, 7, 8, 9, 10, 11, 12, 13, 14, 15] [] rfl rfl (by decide) (by decide) (fun x_1 u_1 H locs hq_1 hP hD hS => ?_)
  obtain ⟨v_, f_, B_1, C_1⟩ := u_1
  obtain ⟨ex_1, e1, e2⟩ := hq_1
  dsimp only at e1 e2
  replace e1 := e1.symm
  replace e2 := e2.symm
  subst e1 e2
  have hP : va_P E.1 vwCl (MW E r (upd v 0 0) f B_1 C_1) H := hP
  have hD : va_D A (MW E r (upd v 0 0) f B_1 C_1) := hD
  refine W.widen (k := 1) (n := 25) (Nat.le_of_ble_eq_true rfl) (Nat.le_of_ble_eq_true rfl) ?_
  exact q_ret (((upd v 0 0), f, B_1, C_1) : MS) hx hb hr hlocks ⟨by rw [ex_1, mA_0], rfl, rfl⟩ hP hD hS dX5_worth_9
