set_option maxHeartbeats 4000000 in
set_option maxRecDepth 100000 in
theorem c_X4_legal (l : Launch) (E : GG) (r z : Nat → Nat) (v : Nat → Int32) (f : Nat → Nat → Int32) (sz : Nat) (a : Int32) (b : Int32) (V : Nat → Int32) (F : Nat → Nat → Int32) (nw rv up lo m0 m1 : Nat) (hC : CI v f V F nw rv up lo m0 m1) : Met l yX4_legal wsX4_legal (Rm 4 0 0) (pM E [.ref (r 0), .int a, .int b] (CZ E r z v f) sz) (va_Qi (fun (x : Int32) (u : CS) => x = n_legal V F nw a b ∧ CI u.2.1 u.2.2 V F nw rv up lo m0 m1) (bM E (va_A (CZ E r z v f) sz) (fun (u : CS) => CZ E r u.1 u.2.1 u.2.2)) (va_A (CZ E r z v f) sz)) 0 0 (va_A (CZ E r z v f) sz) := by
  refine ofM (by decide) rfl (Nat.le_of_ble_eq_true rfl) ?_
  intro p e s m below meth c A hx hb hr hlocks hml hown hin hts hK hP hD hS hA hsz hAe ls hl
  rw [← hAe]
  have hl : lv_has ls 3 [(0, .ref (r 0)), (1, .int a), (2, .int b)] := hl
  obtain ⟨hnw, hn24, hrv, hr24, hup, hup40, hlo, hlo40, hm0, h03, hm1, h13⟩ := CI_nat hC
  refine lv_iload_n hx hb dX4_legal_0 rfl (lv_at hl 1 rfl) ?_
  refine cR_S ⟨hx, hb, hml, hown, hts⟩ (c_X4_isMode l E a) (va_cwS 1 hts gX4_legal_X4_isMode rfl rfl rfl (by decide +kernel) ⟨Nat.le_of_ble_eq_true rfl, Nat.le_of_ble_eq_true rfl⟩) hK nilP rfl hl.1 rfl (Nat.le_of_ble_eq_true rfl) dX4_legal_1 ⟨Nat.le_of_ble_eq_true rfl, Nat.le_of_ble_eq_true rfl⟩ ?_
  refine b_if_eq (q := (m_in a 0 2)) (tgt := 23) hx hb dX4_legal_4 (by decide) (fun c_1 => ?_) (fun c_1 => ?_)
  · skip
    refine lv_iconst (v := (-1)) hx hb dX4_legal_23 (by decide) ?_
    exact q_ret ((z, v, f) : CS) hx hb hr hlocks ⟨by rw [n_legal, cI_f (fun q => c_1 q.1.1)], hC⟩ hP hD hS dX4_legal_24
  · skip
    refine lv_iload_n hx hb dX4_legal_7 rfl (lv_at hl 2 rfl) ?_
    refine cR_S ⟨hx, hb, hml, hown, hts⟩ (c_X4_isMode l E b) (va_cwS 1 hts gX4_legal_X4_isMode rfl rfl rfl (by decide +kernel) ⟨Nat.le_of_ble_eq_true rfl, Nat.le_of_ble_eq_true rfl⟩) hK nilP rfl hl.1 rfl (Nat.le_of_ble_eq_true rfl) dX4_legal_8 ⟨Nat.le_of_ble_eq_true rfl, Nat.le_of_ble_eq_true rfl⟩ ?_
    refine b_if_eq (q := (m_in b 0 2)) (tgt := 23) hx hb dX4_legal_11 (by decide) (fun c_2 => ?_) (fun c_2 => ?_)
    · skip
      refine lv_iconst (v := (-1)) hx hb dX4_legal_23 (by decide) ?_
      exact q_ret ((z, v, f) : CS) hx hb hr hlocks ⟨by rw [n_legal, cI_f (fun q => c_2 q.1.2)], hC⟩ hP hD hS dX4_legal_24
    · skip
      refine lv_aload_n hx hb dX4_legal_14 rfl (lv_at hl 0 rfl) ?_
      refine va_get (D := E.1) (ci := 4) (v := .int (v 32)) (C := RX4) (T := TX4) (N := 13) hx hb hts (fun _ h => (List.mem_cons_of_mem _ (List.mem_append_left _ (List.mem_append_left _ (List.mem_append_left _ (List.mem_append_right _ h)))))) hown hK.1 hP 15 rfl rfl 11 (by decide) (hts _ (List.mem_of_getElem? (i := 1) rfl)) (fun _ h9 => h9) rfl dX4_legal_15 ?_
      refine w_top (show (v 32) = nI nw from hnw) ?_
      refine lv_bipush (v := 24) hx hb dX4_legal_18 (by decide) ?_
      refine n_icmp_lt (tgt := 25) (a := nw) (b := 24) hx hb dX4_legal_20 (by decide) (by omega) (by omega) (fun c_3 => ?_) (fun c_3 => ?_)
      · skip
        obtain ⟨an, han, ean⟩ : ∃ j : Nat, j ≤ 2 ∧ a = nI j := ⟨_, (inN c_1 2 (by decide) (by decide)).2, (inN c_1 2 (by decide) (by decide)).1⟩
        subst ean
        obtain ⟨bn, hbn, ebn⟩ : ∃ j : Nat, j ≤ 2 ∧ b = nI j := ⟨_, (inN c_2 2 (by decide) (by decide)).2, (inN c_2 2 (by decide) (by decide)).1⟩
        subst ebn
        refine lv_aload_n hx hb dX4_legal_25 rfl (lv_at hl 0 rfl) ?_
        refine lv_iload_n hx hb dX4_legal_26 rfl (lv_at hl 1 rfl) ?_
        refine lv_iconst (v := 3) hx hb dX4_legal_27 (by decide) ?_
        refine lv_imul hx hb dX4_legal_28 ?_
        refine w_top (show ((nI an) * 3) = (nI (an * 3)) from pk_mul _ _) ?_
        refine lv_iload_n hx hb dX4_legal_29 rfl (lv_at hl 2 rfl) ?_
        refine lv_iadd hx hb dX4_legal_30 ?_
        refine w_top (show ((nI (an * 3)) + (nI bn)) = (nI ((an * 3) + bn)) from nI_add _ _) ?_
        refine cM_i (As := [.ref (r 0), .int (nI ((an * 3) + bn))]) (wr := []) (rM_V ⟨hx, hb, hml, hown, hts⟩ (c_X4_isLegalNow l E r z v f s.heap.size ((an * 3) + bn) nw m0 m1 hnw (by omega) hm0 h03 hm1 h13 (by omega)) (cwV 1 hts gX4_legal_X4_isLegalNow rfl rfl rfl (by decide +kernel) ⟨Nat.le_of_ble_eq_true rfl, Nat.le_of_ble_eq_true rfl⟩) hK hP hD 4 15 rfl rfl rfl hl.1 rfl (Nat.le_of_ble_eq_true rfl) dX4_legal_31 ⟨Nat.le_of_ble_eq_true rfl, Nat.le_of_ble_eq_true rfl⟩) hP hD hS hA [0, 1, 2, 3, 4, 5, 6, 7, 8, 9, 10, 11, 12, 13, 14, 15, 16, 17, 18, 19, 20, 21, 22, 23, 24, 25, 26, 27, 28, 29, 30, 31, 32, 33, 34, 35, 36, 37, 38, 39] [] rfl rfl (by decide) (by decide) (fun x_4 u_4 H locs hq_4 hP hD hS => ?_)
        obtain ⟨rfl, rfl⟩ := hq_4
        have hP : va_P E.1 vwCl (CZ E r z v (lookF v f nw (v 4 + v 5) 9)) H := hP
        have hD : va_D A (CZ E r z v (lookF v f nw (v 4 + v 5) 9)) := hD
        refine b_if_eq (q := (cLegal v f nw (m0 * 3 + m1) ((an * 3) + bn))) (tgt := 41) hx hb dX4_legal_34 (by decide) (fun c_5 => ?_) (fun c_5 => ?_)
        · skip
          refine lv_iconst (v := 0) hx hb dX4_legal_41 (by decide) ?_
          exact q_ret ((z, v, (lookF v f nw (v 4 + v 5) 9)) : CS) hx hb hr hlocks ⟨by have e := CI_legal (d := an * 3 + bn) hC (by omega); rw [show (an * 3 + bn) / 3 = an by omega, show (an * 3 + bn) % 3 = bn by omega] at e; rw [n_legal, cI_t ⟨⟨c_1, c_2⟩, by omega⟩, bI_f (fun q => c_5 (e.mpr q))], CI_look hC⟩ hP hD hS dX4_legal_42
        · skip
          refine lv_iconst (v := 1) hx hb dX4_legal_37 (by decide) ?_
          refine lv_goto (tgt := 42) hx hb dX4_legal_38 (by decide) ?_
          exact q_ret ((z, v, (lookF v f nw (v 4 + v 5) 9)) : CS) hx hb hr hlocks ⟨by have e := CI_legal (d := an * 3 + bn) hC (by omega); rw [show (an * 3 + bn) / 3 = an by omega, show (an * 3 + bn) % 3 = bn by omega] at e; rw [n_legal, cI_t ⟨⟨c_1, c_2⟩, by omega⟩, bI_t (e.mp c_5)], CI_look hC⟩ hP hD hS dX4_legal_42
      · skip
        refine lv_iconst (v := (-1)) hx hb dX4_legal_23 (by decide) ?_
        exact q_ret ((z, v, f) : CS) hx hb hr hlocks ⟨by rw [n_legal, cI_f (fun q => q.2 (by omega))], hC⟩ hP hD hS dX4_legal_24
