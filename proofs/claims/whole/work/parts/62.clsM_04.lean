set_option maxHeartbeats 4000000 in
set_option maxRecDepth 100000 in
theorem c_X4_weights (l : Launch) (E : GG) (r z : Nat → Nat) (v : Nat → Int32) (f : Nat → Nat → Int32) (sz : Nat) (a : Int32) (b : Int32) (c1 : Int32)  : Met l yX4_weights wsX4_weights (Rm 2 0 0) (pM E [.ref (r 0), .int a, .int b, .int c1] (CZ E r z v f) sz) (va_Qi (fun (x : Int32) (u : CS) => x = (t_weights v f a b c1).1 ∧ u = (z, (t_weights v f a b c1).2.1, (t_weights v f a b c1).2.2)) (bM E (va_A (CZ E r z v f) sz) (fun (u : CS) => CZ E r u.1 u.2.1 u.2.2)) (va_A (CZ E r z v f) sz)) 0 0 (va_A (CZ E r z v f) sz) := by
  refine ofM (by decide) rfl (Nat.le_of_ble_eq_true rfl) ?_
  intro p e s m below meth c A hx hb hr hlocks hml hown hin hts hK hP hD hS hA hsz hAe ls hl
  rw [← hAe]
  have hl : lv_has ls 4 [(0, .ref (r 0)), (1, .int a), (2, .int b), (3, .int c1)] := hl
  refine lv_iload_n hx hb dX4_weights_0 rfl (lv_at hl 1 rfl) ?_
  refine lv_iconst (v := 0) hx hb dX4_weights_1 (by decide) ?_
  refine lv_bipush (v := 9) hx hb dX4_weights_2 (by decide) ?_
  refine cR_S ⟨hx, hb, hml, hown, hts⟩ (c_X4_within l E a 0 9) (va_cwS 3 hts gX4_weights_X4_within rfl rfl rfl (by decide +kernel) ⟨Nat.le_of_ble_eq_true rfl, Nat.le_of_ble_eq_true rfl⟩) hK nilP rfl hl.1 rfl (Nat.le_of_ble_eq_true rfl) dX4_weights_4 ⟨Nat.le_of_ble_eq_true rfl, Nat.le_of_ble_eq_true rfl⟩ ?_
  refine b_if_eq (q := (m_in a 0 9)) (tgt := 30) hx hb dX4_weights_7 (by decide) (fun c_1 => ?_) (fun c_1 => ?_)
  · skip
    refine lv_iconst (v := 0) hx hb dX4_weights_30 (by decide) ?_
    exact qz_ret ((z, v, f) : CS) hx hb hr hlocks rfl (by rw [t_weights, cI_f (by simp_all)]; exact ⟨rfl, rfl⟩) hP hD hS dX4_weights_31
  · skip
    refine lv_iload_n hx hb dX4_weights_10 rfl (lv_at hl 2 rfl) ?_
    refine lv_iconst (v := 0) hx hb dX4_weights_11 (by decide) ?_
    refine lv_bipush (v := 9) hx hb dX4_weights_12 (by decide) ?_
    refine cR_S ⟨hx, hb, hml, hown, hts⟩ (c_X4_within l E b 0 9) (va_cwS 3 hts gX4_weights_X4_within rfl rfl rfl (by decide +kernel) ⟨Nat.le_of_ble_eq_true rfl, Nat.le_of_ble_eq_true rfl⟩) hK nilP rfl hl.1 rfl (Nat.le_of_ble_eq_true rfl) dX4_weights_14 ⟨Nat.le_of_ble_eq_true rfl, Nat.le_of_ble_eq_true rfl⟩ ?_
    refine b_if_eq (q := (m_in b 0 9)) (tgt := 30) hx hb dX4_weights_17 (by decide) (fun c_2 => ?_) (fun c_2 => ?_)
    · skip
      refine lv_iconst (v := 0) hx hb dX4_weights_30 (by decide) ?_
      exact qz_ret ((z, v, f) : CS) hx hb hr hlocks rfl (by rw [t_weights, cI_f (by simp_all)]; exact ⟨rfl, rfl⟩) hP hD hS dX4_weights_31
    · skip
      refine lv_iload_n hx hb dX4_weights_20 rfl (lv_at hl 3 rfl) ?_
      refine lv_iconst (v := 0) hx hb dX4_weights_21 (by decide) ?_
      refine lv_bipush (v := 9) hx hb dX4_weights_22 (by decide) ?_
      refine cR_S ⟨hx, hb, hml, hown, hts⟩ (c_X4_within l E c1 0 9) (va_cwS 3 hts gX4_weights_X4_within rfl rfl rfl (by decide +kernel) ⟨Nat.le_of_ble_eq_true rfl, Nat.le_of_ble_eq_true rfl⟩) hK nilP rfl hl.1 rfl (Nat.le_of_ble_eq_true rfl) dX4_weights_24 ⟨Nat.le_of_ble_eq_true rfl, Nat.le_of_ble_eq_true rfl⟩ ?_
      refine b_if_ne (q := (m_in c1 0 9)) (tgt := 32) hx hb dX4_weights_27 (by decide) (fun c_3 => ?_) (fun c_3 => ?_)
      · skip
        refine lv_iload_n hx hb dX4_weights_32 rfl (lv_at hl 1 rfl) ?_
        refine lv_iload_n hx hb dX4_weights_33 rfl (lv_at hl 2 rfl) ?_
        refine lv_iadd hx hb dX4_weights_34 ?_
        refine lv_iload_n hx hb dX4_weights_35 rfl (lv_at hl 3 rfl) ?_
        refine lv_iadd hx hb dX4_weights_36 ?_
        refine lv_if_ne (tgt := 42) hx hb dX4_weights_37 (by decide) (fun c_4 => ?_) (fun c_4 => ?_)
        · skip
          refine lv_aload_n hx hb dX4_weights_42 rfl (lv_at hl 0 rfl) ?_
          refine va_get (D := E.1) (ci := 4) (v := .ref (r 10)) (C := RX4) (T := TX4) (N := 13) hx hb hts (fun _ h => (List.mem_cons_of_mem _ (List.mem_append_right _ h))) hown hK.1 hP 15 rfl rfl 6 (by decide) (hts _ (List.mem_of_getElem? (i := 1) rfl)) (fun _ h9 => h9) rfl dX4_weights_43 ?_
          refine lv_iconst (v := 0) hx hb dX4_weights_46 (by decide) ?_
          refine lv_iload_n hx hb dX4_weights_47 rfl (lv_at hl 1 rfl) ?_
          refine n_iast (f := f 10) hx hb hK.1 hP hD hS 17 0 rfl rfl (i := 0) (by omega) (by decide) dX4_weights_48 (fun H locs hP hD hS => ?_)
          have hP : va_P E.1 vwCl (CZ E r z v (va_up f 10 (upd (f 10) 0 a))) H := hP
          have hD : va_D A (CZ E r z v (va_up f 10 (upd (f 10) 0 a))) := hD
          refine lv_aload_n hx hb dX4_weights_49 rfl (lv_at hl 0 rfl) ?_
          refine va_get (D := E.1) (ci := 4) (v := .ref (r 10)) (C := RX4) (T := TX4) (N := 13) hx hb hts (fun _ h => (List.mem_cons_of_mem _ (List.mem_append_right _ h))) hown hK.1 hP 15 rfl rfl 6 (by decide) (hts _ (List.mem_of_getElem? (i := 1) rfl)) (fun _ h9 => h9) rfl dX4_weights_50 ?_
          refine lv_iconst (v := 1) hx hb dX4_weights_53 (by decide) ?_
          refine lv_iload_n hx hb dX4_weights_54 rfl (lv_at hl 2 rfl) ?_
          refine n_iast (f := upd (f 10) 0 a) hx hb hK.1 hP hD hS 17 0 rfl rfl (i := 1) (by omega) (by decide) dX4_weights_55 (fun H locs hP hD hS => ?_)
          have hP : va_P E.1 vwCl (CZ E r z v (va_up (va_up f 10 (upd (f 10) 0 a)) 10 (upd (upd (f 10) 0 a) 1 b))) H := hP
          have hD : va_D A (CZ E r z v (va_up (va_up f 10 (upd (f 10) 0 a)) 10 (upd (upd (f 10) 0 a) 1 b))) := hD
          refine lv_aload_n hx hb dX4_weights_56 rfl (lv_at hl 0 rfl) ?_
          refine va_get (D := E.1) (ci := 4) (v := .ref (r 10)) (C := RX4) (T := TX4) (N := 13) hx hb hts (fun _ h => (List.mem_cons_of_mem _ (List.mem_append_right _ h))) hown hK.1 hP 15 rfl rfl 6 (by decide) (hts _ (List.mem_of_getElem? (i := 1) rfl)) (fun _ h9 => h9) rfl dX4_weights_57 ?_
          refine lv_iconst (v := 2) hx hb dX4_weights_60 (by decide) ?_
          refine lv_iload_n hx hb dX4_weights_61 rfl (lv_at hl 3 rfl) ?_
          refine n_iast (f := upd (upd (f 10) 0 a) 1 b) hx hb hK.1 hP hD hS 17 0 rfl rfl (i := 2) (by omega) (by decide) dX4_weights_62 (fun H locs hP hD hS => ?_)
          have hP : va_P E.1 vwCl (CZ E r z v (va_up (va_up (va_up f 10 (upd (f 10) 0 a)) 10 (upd (upd (f 10) 0 a) 1 b)) 10 (upd (upd (upd (f 10) 0 a) 1 b) 2 c1))) H := hP
          have hD : va_D A (CZ E r z v (va_up (va_up (va_up f 10 (upd (f 10) 0 a)) 10 (upd (upd (f 10) 0 a) 1 b)) 10 (upd (upd (upd (f 10) 0 a) 1 b) 2 c1))) := hD
          refine lv_aload_n hx hb dX4_weights_63 rfl (lv_at hl 0 rfl) ?_
          refine cM_i (As := [.ref (r 0)]) (wr := []) (rM_V ⟨hx, hb, hml, hown, hts⟩ (c_X4_changed l E r z v (va_up (va_up (va_up f 10 (upd (f 10) 0 a)) 10 (upd (upd (f 10) 0 a) 1 b)) 10 (upd (upd (upd (f 10) 0 a) 1 b) 2 c1)) H.size) (cwV 0 hts gX4_weights_X4_changed rfl rfl rfl (by decide +kernel) ⟨Nat.le_of_ble_eq_true rfl, Nat.le_of_ble_eq_true rfl⟩) hK hP hD 4 15 rfl rfl rfl hl.1 rfl (Nat.le_of_ble_eq_true rfl) dX4_weights_64 ⟨Nat.le_of_ble_eq_true rfl, Nat.le_of_ble_eq_true rfl⟩) hP hD hS hA [0, 1, 2, 3, 4, 5, 6, 7, 8, 9, 10, 11, 12, 13, 14, 15, 16, 17, 18, 19, 20, 21, 22, 23, 24, 25, 26, 27, 28, 29, 30, 31, 32, 33, 34, 35, 36, 37, 38, 39] [] rfl rfl (by decide) (by decide) (fun x_5 u_5 H locs hq_5 hP hD hS => ?_)
          obtain ⟨rfl, rfl⟩ := hq_5
          have hP : va_P E.1 vwCl (CZ E r z v (chg (va_up (va_up (va_up f 10 (upd (f 10) 0 a)) 10 (upd (upd (f 10) 0 a) 1 b)) 10 (upd (upd (upd (f 10) 0 a) 1 b) 2 c1)))) H := hP
          have hD : va_D A (CZ E r z v (chg (va_up (va_up (va_up f 10 (upd (f 10) 0 a)) 10 (upd (upd (f 10) 0 a) 1 b)) 10 (upd (upd (upd (f 10) 0 a) 1 b) 2 c1)))) := hD
          exact qz_ret ((z, v, (chg (va_up (va_up (va_up f 10 (upd (f 10) 0 a)) 10 (upd (upd (f 10) 0 a) 1 b)) 10 (upd (upd (upd (f 10) 0 a) 1 b) 2 c1)))) : CS) hx hb hr hlocks rfl (by rw [t_weights, cI_t (by simp_all)]; exact ⟨rfl, rfl⟩) hP hD hS dX4_weights_67
        · skip
          refine lv_iconst (v := 0) hx hb dX4_weights_40 (by decide) ?_
          exact qz_ret ((z, v, f) : CS) hx hb hr hlocks rfl (by rw [t_weights, cI_f (by simp_all)]; exact ⟨rfl, rfl⟩) hP hD hS dX4_weights_41
      · skip
        refine lv_iconst (v := 0) hx hb dX4_weights_30 (by decide) ?_
        exact qz_ret ((z, v, f) : CS) hx hb hr hlocks rfl (by rw [t_weights, cI_f (by simp_all)]; exact ⟨rfl, rfl⟩) hP hD hS dX4_weights_31
noncomputable def t_machine (v : Nat → Int32) (f : Nat → Nat → Int32) (k : Int32) (d1 : Int32) (g1 : Int32) (u1 : Int32) (t1 : Int32) (s1 : Int32) : AN := cI (m_in k 0 1 ∧ m_in d1 0 99 ∧ m_in g1 0 99 ∧ m_in u1 0 99 ∧ m_in t1 0 99 ∧ m_in s1 0 99) (1, if k = 0 then upd (upd (upd (upd (upd v 10 d1) 11 g1) 12 u1) 13 t1) 14 s1 else upd (upd (upd (upd (upd v 20 d1) 21 g1) 22 u1) 23 t1) 24 s1, chg (f)) (0, v, f)
set_option maxHeartbeats 4000000 in
set_option maxRecDepth 100000 in
theorem c_X4_machine (l : Launch) (E : GG) (r z : Nat → Nat) (v : Nat → Int32) (f : Nat → Nat → Int32) (sz : Nat) (k : Int32) (d1 : Int32) (g1 : Int32) (u1 : Int32) (t1 : Int32) (s1 : Int32)  : Met l yX4_machine wsX4_machine (Rm 2 0 0) (pM E [.ref (r 0), .int k, .int d1, .int g1, .int u1, .int t1, .int s1] (CZ E r z v f) sz) (va_Qi (fun (x : Int32) (u : CS) => x = (t_machine v f k d1 g1 u1 t1 s1).1 ∧ u = (z, (t_machine v f k d1 g1 u1 t1 s1).2.1, (t_machine v f k d1 g1 u1 t1 s1).2.2)) (bM E (va_A (CZ E r z v f) sz) (fun (u : CS) => CZ E r u.1 u.2.1 u.2.2)) (va_A (CZ E r z v f) sz)) 0 0 (va_A (CZ E r z v f) sz) := by
  refine ofM (by decide) rfl (Nat.le_of_ble_eq_true rfl) ?_
  intro p e s m below meth c A hx hb hr hlocks hml hown hin hts hK hP hD hS hA hsz hAe ls hl
  rw [← hAe]
  have hl : lv_has ls 8 [(0, .ref (r 0)), (1, .int k), (2, .int d1), (3, .int g1), (4, .int u1), (5, .int t1), (6, .int s1)] := hl
  refine lv_iload_n hx hb dX4_machine_0 rfl (lv_at hl 1 rfl) ?_
  refine cR_S ⟨hx, hb, hml, hown, hts⟩ (c_X4_isMachine l E k) (va_cwS 1 hts gX4_machine_X4_isMachine rfl rfl rfl (by decide +kernel) ⟨Nat.le_of_ble_eq_true rfl, Nat.le_of_ble_eq_true rfl⟩) hK nilP rfl hl.1 rfl (Nat.le_of_ble_eq_true rfl) dX4_machine_1 ⟨Nat.le_of_ble_eq_true rfl, Nat.le_of_ble_eq_true rfl⟩ ?_
  refine b_if_eq (q := (m_in k 0 1)) (tgt := 21) hx hb dX4_machine_4 (by decide) (fun c_1 => ?_) (fun c_1 => ?_)
  · skip
    refine lv_iconst (v := 0) hx hb dX4_machine_21 (by decide) ?_
    exact qz_ret ((z, v, f) : CS) hx hb hr hlocks rfl (by rw [t_machine, cI_f (by simp_all)]; exact ⟨rfl, rfl⟩) hP hD hS dX4_machine_22
  · skip
    refine lv_iload_n hx hb dX4_machine_7 rfl (lv_at hl 2 rfl) ?_
    refine cR_S ⟨hx, hb, hml, hown, hts⟩ (c_X4_isOfMachine l E d1) (va_cwS 1 hts gX4_machine_X4_isOfMachine rfl rfl rfl (by decide +kernel) ⟨Nat.le_of_ble_eq_true rfl, Nat.le_of_ble_eq_true rfl⟩) hK nilP rfl hl.1 rfl (Nat.le_of_ble_eq_true rfl) dX4_machine_8 ⟨Nat.le_of_ble_eq_true rfl, Nat.le_of_ble_eq_true rfl⟩ ?_
    refine b_if_eq (q := (m_in d1 0 99)) (tgt := 21) hx hb dX4_machine_11 (by decide) (fun c_2 => ?_) (fun c_2 => ?_)
    · skip
      refine lv_iconst (v := 0) hx hb dX4_machine_21 (by decide) ?_
      exact qz_ret ((z, v, f) : CS) hx hb hr hlocks rfl (by rw [t_machine, cI_f (by simp_all)]; exact ⟨rfl, rfl⟩) hP hD hS dX4_machine_22
    · skip
      refine lv_iload_n hx hb dX4_machine_14 rfl (lv_at hl 3 rfl) ?_
      refine cR_S ⟨hx, hb, hml, hown, hts⟩ (c_X4_isOfMachine l E g1) (va_cwS 1 hts gX4_machine_X4_isOfMachine rfl rfl rfl (by decide +kernel) ⟨Nat.le_of_ble_eq_true rfl, Nat.le_of_ble_eq_true rfl⟩) hK nilP rfl hl.1 rfl (Nat.le_of_ble_eq_true rfl) dX4_machine_15 ⟨Nat.le_of_ble_eq_true rfl, Nat.le_of_ble_eq_true rfl⟩ ?_
      refine b_if_ne (q := (m_in g1 0 99)) (tgt := 23) hx hb dX4_machine_18 (by decide) (fun c_3 => ?_) (fun c_3 => ?_)
      · skip
        refine lv_iload hx hb dX4_machine_23 (lv_at hl 4 rfl) ?_
        refine cR_S ⟨hx, hb, hml, hown, hts⟩ (c_X4_isOfMachine l E u1) (va_cwS 1 hts gX4_machine_X4_isOfMachine rfl rfl rfl (by decide +kernel) ⟨Nat.le_of_ble_eq_true rfl, Nat.le_of_ble_eq_true rfl⟩) hK nilP rfl hl.1 rfl (Nat.le_of_ble_eq_true rfl) dX4_machine_25 ⟨Nat.le_of_ble_eq_true rfl, Nat.le_of_ble_eq_true rfl⟩ ?_
        refine b_if_eq (q := (m_in u1 0 99)) (tgt := 47) hx hb dX4_machine_28 (by decide) (fun c_4 => ?_) (fun c_4 => ?_)
        · skip
          refine lv_iconst (v := 0) hx hb dX4_machine_47 (by decide) ?_
          exact qz_ret ((z, v, f) : CS) hx hb hr hlocks rfl (by rw [t_machine, cI_f (by simp_all)]; exact ⟨rfl, rfl⟩) hP hD hS dX4_machine_48
        · skip
          refine lv_iload hx hb dX4_machine_31 (lv_at hl 5 rfl) ?_
          refine cR_S ⟨hx, hb, hml, hown, hts⟩ (c_X4_isOfMachine l E t1) (va_cwS 1 hts gX4_machine_X4_isOfMachine rfl rfl rfl (by decide +kernel) ⟨Nat.le_of_ble_eq_true rfl, Nat.le_of_ble_eq_true rfl⟩) hK nilP rfl hl.1 rfl (Nat.le_of_ble_eq_true rfl) dX4_machine_33 ⟨Nat.le_of_ble_eq_true rfl, Nat.le_of_ble_eq_true rfl⟩ ?_
          refine b_if_eq (q := (m_in t1 0 99)) (tgt := 47) hx hb dX4_machine_36 (by decide) (fun c_5 => ?_) (fun c_5 => ?_)
          · skip
            refine lv_iconst (v := 0) hx hb dX4_machine_47 (by decide) ?_
            exact qz_ret ((z, v, f) : CS) hx hb hr hlocks rfl (by rw [t_machine, cI_f (by simp_all)]; exact ⟨rfl, rfl⟩) hP hD hS dX4_machine_48
          · skip
            refine lv_iload hx hb dX4_machine_39 (lv_at hl 6 rfl) ?_
            refine cR_S ⟨hx, hb, hml, hown, hts⟩ (c_X4_isOfMachine l E s1) (va_cwS 1 hts gX4_machine_X4_isOfMachine rfl rfl rfl (by decide +kernel) ⟨Nat.le_of_ble_eq_true rfl, Nat.le_of_ble_eq_true rfl⟩) hK nilP rfl hl.1 rfl (Nat.le_of_ble_eq_true rfl) dX4_machine_41 ⟨Nat.le_of_ble_eq_true rfl, Nat.le_of_ble_eq_true rfl⟩ ?_
            refine b_if_ne (q := (m_in s1 0 99)) (tgt := 49) hx hb dX4_machine_44 (by decide) (fun c_6 => ?_) (fun c_6 => ?_)
            · skip
              rcases in01 c_1 with rfl | rfl
              · skip
                refine lv_aload_n hx hb dX4_machine_49 rfl (lv_at hl 0 rfl) ?_
                refine lv_iload_n hx hb dX4_machine_50 rfl (lv_at hl 1 rfl) ?_
                refine cQ_V ⟨hx, hb, hml, hown, hts⟩ (c_X4_machineOf0 l E r v) (cwV 1 hts gX4_machine_X4_machineOf rfl rfl rfl (by decide +kernel) ⟨Nat.le_of_ble_eq_true rfl, Nat.le_of_ble_eq_true rfl⟩) hK (hP.sub (ws' := [((r 0), .inr (4, [.ref (r 1), .ref (r 2), .ref (r 3), .ref (r 4), .ref (r 9), .ref (r 8), .ref (r 10), .ref (r 11), .ref (r 12), .int (v 30), .int (v 31), .int (v 32), .int (v 33)]))]) [15] rfl) 4 0 rfl rfl rfl hl.1 rfl (Nat.le_of_ble_eq_true rfl) dX4_machine_51 ⟨Nat.le_of_ble_eq_true rfl, Nat.le_of_ble_eq_true rfl⟩ ?_
                refine lv_astore (lv' := [(7, .ref (r 2)), (0, .ref (r 0)), (1, .int 0), (2, .int d1), (3, .int g1), (4, .int u1), (5, .int t1), (6, .int s1)]) hx hb dX4_machine_54 hl (by decide) rfl (fun ls hl => ?_)
                refine lv_aload hx hb dX4_machine_56 (lv_at hl 0 rfl) ?_
                refine lv_iload_n hx hb dX4_machine_58 rfl (lv_at hl 3 rfl) ?_
                refine va_putN (D := E.1) (ci := 2) (v := .int d1) (ty := .int) (C := RX2) (T := TX2) (N := 8) (host := "TwoLakes") (ref := RX2) hx hb hts (fun _ h => (List.mem_cons_of_mem _ (List.mem_append_left _ (List.mem_append_right _ h)))) tyX2 tyX2_ok nmX2 hown hK.1 hP hD hS 2 rfl rfl 0 (by decide) (va_Nw.use rfl (hK.2.1 (RX4, 122, RX2, "down", "I") (List.mem_of_getElem? (i := 14) rfl))) (fun _ h9 => h9) rfl (by decide +kernel) rfl rfl (Nat.le_of_ble_eq_true rfl) dX4_machine_59 (fun H locs hP hD hS => ?_)
                have hP : va_P E.1 vwCl (CZ E r z (upd v 10 d1) f) H := hP
                have hD : va_D A (CZ E r z (upd v 10 d1) f) := hD
                refine lv_aload hx hb dX4_machine_62 (lv_at hl 0 rfl) ?_
                refine lv_iload_n hx hb dX4_machine_64 rfl (lv_at hl 4 rfl) ?_
                refine va_putN (D := E.1) (ci := 2) (v := .int g1) (ty := .int) (C := RX2) (T := TX2) (N := 8) (host := "TwoLakes") (ref := RX2) hx hb hts (fun _ h => (List.mem_cons_of_mem _ (List.mem_append_left _ (List.mem_append_right _ h)))) tyX2 tyX2_ok nmX2 hown hK.1 hP hD hS 2 rfl rfl 1 (by decide) (va_Nw.use rfl (hK.2.1 (RX4, 125, RX2, "gives", "I") (List.mem_of_getElem? (i := 15) rfl))) (fun _ h9 => h9) rfl (by decide +kernel) rfl rfl (Nat.le_of_ble_eq_true rfl) dX4_machine_65 (fun H locs hP hD hS => ?_)
                have hP : va_P E.1 vwCl (CZ E r z (upd (upd v 10 d1) 11 g1) f) H := hP
                have hD : va_D A (CZ E r z (upd (upd v 10 d1) 11 g1) f) := hD
                refine lv_aload hx hb dX4_machine_68 (lv_at hl 0 rfl) ?_
                refine lv_iload hx hb dX4_machine_70 (lv_at hl 5 rfl) ?_
                refine va_putN (D := E.1) (ci := 2) (v := .int u1) (ty := .int) (C := RX2) (T := TX2) (N := 8) (host := "TwoLakes") (ref := RX2) hx hb hts (fun _ h => (List.mem_cons_of_mem _ (List.mem_append_left _ (List.mem_append_right _ h)))) tyX2 tyX2_ok nmX2 hown hK.1 hP hD hS 2 rfl rfl 2 (by decide) (va_Nw.use rfl (hK.2.1 (RX4, 128, RX2, "lifts", "I") (List.mem_of_getElem? (i := 16) rfl))) (fun _ h9 => h9) rfl (by decide +kernel) rfl rfl (Nat.le_of_ble_eq_true rfl) dX4_machine_72 (fun H locs hP hD hS => ?_)
                have hP : va_P E.1 vwCl (CZ E r z (upd (upd (upd v 10 d1) 11 g1) 12 u1) f) H := hP
                have hD : va_D A (CZ E r z (upd (upd (upd v 10 d1) 11 g1) 12 u1) f) := hD
                refine lv_aload hx hb dX4_machine_75 (lv_at hl 0 rfl) ?_
                refine lv_iload hx hb dX4_machine_77 (lv_at hl 6 rfl) ?_
                refine va_putN (D := E.1) (ci := 2) (v := .int t1) (ty := .int) (C := RX2) (T := TX2) (N := 8) (host := "TwoLakes") (ref := RX2) hx hb hts (fun _ h => (List.mem_cons_of_mem _ (List.mem_append_left _ (List.mem_append_right _ h)))) tyX2 tyX2_ok nmX2 hown hK.1 hP hD hS 2 rfl rfl 3 (by decide) (va_Nw.use rfl (hK.2.1 (RX4, 131, RX2, "takes", "I") (List.mem_of_getElem? (i := 17) rfl))) (fun _ h9 => h9) rfl (by decide +kernel) rfl rfl (Nat.le_of_ble_eq_true rfl) dX4_machine_79 (fun H locs hP hD hS => ?_)
                have hP : va_P E.1 vwCl (CZ E r z (upd (upd (upd (upd v 10 d1) 11 g1) 12 u1) 13 t1) f) H := hP
                have hD : va_D A (CZ E r z (upd (upd (upd (upd v 10 d1) 11 g1) 12 u1) 13 t1) f) := hD
                refine lv_aload hx hb dX4_machine_82 (lv_at hl 0 rfl) ?_
                refine lv_iload hx hb dX4_machine_84 (lv_at hl 7 rfl) ?_
                refine va_putN (D := E.1) (ci := 2) (v := .int s1) (ty := .int) (C := RX2) (T := TX2) (N := 8) (host := "TwoLakes") (ref := RX2) hx hb hts (fun _ h => (List.mem_cons_of_mem _ (List.mem_append_left _ (List.mem_append_right _ h)))) tyX2 tyX2_ok nmX2 hown hK.1 hP hD hS 2 rfl rfl 4 (by decide) (va_Nw.use rfl (hK.2.1 (RX4, 134, RX2, "startCost", "I") (List.mem_of_getElem? (i := 18) rfl))) (fun _ h9 => h9) rfl (by decide +kernel) rfl rfl (Nat.le_of_ble_eq_true rfl) dX4_machine_86 (fun H locs hP hD hS => ?_)
                have hP : va_P E.1 vwCl (CZ E r z (upd (upd (upd (upd (upd v 10 d1) 11 g1) 12 u1) 13 t1) 14 s1) f) H := hP
                have hD : va_D A (CZ E r z (upd (upd (upd (upd (upd v 10 d1) 11 g1) 12 u1) 13 t1) 14 s1) f) := hD
                refine lv_aload_n hx hb dX4_machine_89 rfl (lv_at hl 1 rfl) ?_
                refine cM_i (As := [.ref (r 0)]) (wr := []) (rM_V ⟨hx, hb, hml, hown, hts⟩ (c_X4_changed l E r z (upd (upd (upd (upd (upd v 10 d1) 11 g1) 12 u1) 13 t1) 14 s1) f H.size) (cwV 0 hts gX4_machine_X4_changed rfl rfl rfl (by decide +kernel) ⟨Nat.le_of_ble_eq_true rfl, Nat.le_of_ble_eq_true rfl⟩) hK hP hD 4 15 rfl rfl rfl hl.1 rfl (Nat.le_of_ble_eq_true rfl) dX4_machine_90 ⟨Nat.le_of_ble_eq_true rfl, Nat.le_of_ble_eq_true rfl⟩) hP hD hS hA [0, 1, 2, 3, 4, 5, 6, 7, 8, 9, 10, 11, 12, 13, 14, 15, 16, 17, 18, 19, 20, 21, 22, 23, 24, 25, 26, 27, 28, 29, 30, 31, 32, 33, 34, 35, 36, 37, 38, 39] [] rfl rfl (by decide) (by decide) (fun x_7 u_7 H locs hq_7 hP hD hS => ?_)
                obtain ⟨rfl, rfl⟩ := hq_7
                have hP : va_P E.1 vwCl (CZ E r z (upd (upd (upd (upd (upd v 10 d1) 11 g1) 12 u1) 13 t1) 14 s1) (chg f)) H := hP
                have hD : va_D A (CZ E r z (upd (upd (upd (upd (upd v 10 d1) 11 g1) 12 u1) 13 t1) 14 s1) (chg f)) := hD
                exact qz_ret ((z, (upd (upd (upd (upd (upd v 10 d1) 11 g1) 12 u1) 13 t1) 14 s1), (chg f)) : CS) hx hb hr hlocks rfl (by rw [t_machine, cI_t (by simp_all)]; exact ⟨rfl, rfl⟩) hP hD hS dX4_machine_93
              · skip
                refine lv_aload_n hx hb dX4_machine_49 rfl (lv_at hl 0 rfl) ?_
                refine lv_iload_n hx hb dX4_machine_50 rfl (lv_at hl 1 rfl) ?_
                refine cQ_V ⟨hx, hb, hml, hown, hts⟩ (c_X4_machineOf1 l E r v) (cwV 1 hts gX4_machine_X4_machineOf rfl rfl rfl (by decide +kernel) ⟨Nat.le_of_ble_eq_true rfl, Nat.le_of_ble_eq_true rfl⟩) hK (hP.sub (ws' := [((r 0), .inr (4, [.ref (r 1), .ref (r 2), .ref (r 3), .ref (r 4), .ref (r 9), .ref (r 8), .ref (r 10), .ref (r 11), .ref (r 12), .int (v 30), .int (v 31), .int (v 32), .int (v 33)]))]) [15] rfl) 4 0 rfl rfl rfl hl.1 rfl (Nat.le_of_ble_eq_true rfl) dX4_machine_51 ⟨Nat.le_of_ble_eq_true rfl, Nat.le_of_ble_eq_true rfl⟩ ?_
                refine lv_astore (lv' := [(7, .ref (r 3)), (0, .ref (r 0)), (1, .int 1), (2, .int d1), (3, .int g1), (4, .int u1), (5, .int t1), (6, .int s1)]) hx hb dX4_machine_54 hl (by decide) rfl (fun ls hl => ?_)
                refine lv_aload hx hb dX4_machine_56 (lv_at hl 0 rfl) ?_
                refine lv_iload_n hx hb dX4_machine_58 rfl (lv_at hl 3 rfl) ?_
                refine va_putN (D := E.1) (ci := 2) (v := .int d1) (ty := .int) (C := RX2) (T := TX2) (N := 8) (host := "TwoLakes") (ref := RX2) hx hb hts (fun _ h => (List.mem_cons_of_mem _ (List.mem_append_left _ (List.mem_append_right _ h)))) tyX2 tyX2_ok nmX2 hown hK.1 hP hD hS 3 rfl rfl 0 (by decide) (va_Nw.use rfl (hK.2.1 (RX4, 122, RX2, "down", "I") (List.mem_of_getElem? (i := 14) rfl))) (fun _ h9 => h9) rfl (by decide +kernel) rfl rfl (Nat.le_of_ble_eq_true rfl) dX4_machine_59 (fun H locs hP hD hS => ?_)
                have hP : va_P E.1 vwCl (CZ E r z (upd v 20 d1) f) H := hP
                have hD : va_D A (CZ E r z (upd v 20 d1) f) := hD
                refine lv_aload hx hb dX4_machine_62 (lv_at hl 0 rfl) ?_
                refine lv_iload_n hx hb dX4_machine_64 rfl (lv_at hl 4 rfl) ?_
                refine va_putN (D := E.1) (ci := 2) (v := .int g1) (ty := .int) (C := RX2) (T := TX2) (N := 8) (host := "TwoLakes") (ref := RX2) hx hb hts (fun _ h => (List.mem_cons_of_mem _ (List.mem_append_left _ (List.mem_append_right _ h)))) tyX2 tyX2_ok nmX2 hown hK.1 hP hD hS 3 rfl rfl 1 (by decide) (va_Nw.use rfl (hK.2.1 (RX4, 125, RX2, "gives", "I") (List.mem_of_getElem? (i := 15) rfl))) (fun _ h9 => h9) rfl (by decide +kernel) rfl rfl (Nat.le_of_ble_eq_true rfl) dX4_machine_65 (fun H locs hP hD hS => ?_)
                have hP : va_P E.1 vwCl (CZ E r z (upd (upd v 20 d1) 21 g1) f) H := hP
                have hD : va_D A (CZ E r z (upd (upd v 20 d1) 21 g1) f) := hD
                refine lv_aload hx hb dX4_machine_68 (lv_at hl 0 rfl) ?_
                refine lv_iload hx hb dX4_machine_70 (lv_at hl 5 rfl) ?_
                refine va_putN (D := E.1) (ci := 2) (v := .int u1) (ty := .int) (C := RX2) (T := TX2) (N := 8) (host := "TwoLakes") (ref := RX2) hx hb hts (fun _ h => (List.mem_cons_of_mem _ (List.mem_append_left _ (List.mem_append_right _ h)))) tyX2 tyX2_ok nmX2 hown hK.1 hP hD hS 3 rfl rfl 2 (by decide) (va_Nw.use rfl (hK.2.1 (RX4, 128, RX2, "lifts", "I") (List.mem_of_getElem? (i := 16) rfl))) (fun _ h9 => h9) rfl (by decide +kernel) rfl rfl (Nat.le_of_ble_eq_true rfl) dX4_machine_72 (fun H locs hP hD hS => ?_)
                have hP : va_P E.1 vwCl (CZ E r z (upd (upd (upd v 20 d1) 21 g1) 22 u1) f) H := hP
                have hD : va_D A (CZ E r z (upd (upd (upd v 20 d1) 21 g1) 22 u1) f) := hD
                refine lv_aload hx hb dX4_machine_75 (lv_at hl 0 rfl) ?_
                refine lv_iload hx hb dX4_machine_77 (lv_at hl 6 rfl) ?_
                refine va_putN (D := E.1) (ci := 2) (v := .int t1) (ty := .int) (C := RX2) (T := TX2) (N := 8) (host := "TwoLakes") (ref := RX2) hx hb hts (fun _ h => (List.mem_cons_of_mem _ (List.mem_append_left _ (List.mem_append_right _ h)))) tyX2 tyX2_ok nmX2 hown hK.1 hP hD hS 3 rfl rfl 3 (by decide) (va_Nw.use rfl (hK.2.1 (RX4, 131, RX2, "takes", "I") (List.mem_of_getElem? (i := 17) rfl))) (fun _ h9 => h9) rfl (by decide +kernel) rfl rfl (Nat.le_of_ble_eq_true rfl) dX4_machine_79 (fun H locs hP hD hS => ?_)
                have hP : va_P E.1 vwCl (CZ E r z (upd (upd (upd (upd v 20 d1) 21 g1) 22 u1) 23 t1) f) H := hP
                have hD : va_D A (CZ E r z (upd (upd (upd (upd v 20 d1) 21 g1) 22 u1) 23 t1) f) := hD
                refine lv_aload hx hb dX4_machine_82 (lv_at hl 0 rfl) ?_
                refine lv_iload hx hb dX4_machine_84 (lv_at hl 7 rfl) ?_
                refine va_putN (D := E.1) (ci := 2) (v := .int s1) (ty := .int) (C := RX2) (T := TX2) (N := 8) (host := "TwoLakes") (ref := RX2) hx hb hts (fun _ h => (List.mem_cons_of_mem _ (List.mem_append_left _ (List.mem_append_right _ h)))) tyX2 tyX2_ok nmX2 hown hK.1 hP hD hS 3 rfl rfl 4 (by decide) (va_Nw.use rfl (hK.2.1 (RX4, 134, RX2, "startCost", "I") (List.mem_of_getElem? (i := 18) rfl))) (fun _ h9 => h9) rfl (by decide +kernel) rfl rfl (Nat.le_of_ble_eq_true rfl) dX4_machine_86 (fun H locs hP hD hS => ?_)
                have hP : va_P E.1 vwCl (CZ E r z (upd (upd (upd (upd (upd v 20 d1) 21 g1) 22 u1) 23 t1) 24 s1) f) H := hP
                have hD : va_D A (CZ E r z (upd (upd (upd (upd (upd v 20 d1) 21 g1) 22 u1) 23 t1) 24 s1) f) := hD
                refine lv_aload_n hx hb dX4_machine_89 rfl (lv_at hl 1 rfl) ?_
                refine cM_i (As := [.ref (r 0)]) (wr := []) (rM_V ⟨hx, hb, hml, hown, hts⟩ (c_X4_changed l E r z (upd (upd (upd (upd (upd v 20 d1) 21 g1) 22 u1) 23 t1) 24 s1) f H.size) (cwV 0 hts gX4_machine_X4_changed rfl rfl rfl (by decide +kernel) ⟨Nat.le_of_ble_eq_true rfl, Nat.le_of_ble_eq_true rfl⟩) hK hP hD 4 15 rfl rfl rfl hl.1 rfl (Nat.le_of_ble_eq_true rfl) dX4_machine_90 ⟨Nat.le_of_ble_eq_true rfl, Nat.le_of_ble_eq_true rfl⟩) hP hD hS hA [0, 1, 2, 3, 4, 5, 6, 7, 8, 9, 10, 11, 12, 13, 14, 15, 16, 17, 18, 19, 20, 21, 22, 23, 24, 25, 26, 27, 28, 29, 30, 31, 32, 33, 34, 35, 36, 37, 38, 39] [] rfl rfl (by decide) (by decide) (fun x_8 u_8 H locs hq_8 hP hD hS => ?_)
                obtain ⟨rfl, rfl⟩ := hq_8
                have hP : va_P E.1 vwCl (CZ E r z (upd (upd (upd (upd (upd v 20 d1) 21 g1) 22 u1) 23 t1) 24 s1) (chg f)) H := hP
                have hD : va_D A (CZ E r z (upd (upd (upd (upd (upd v 20 d1) 21 g1) 22 u1) 23 t1) 24 s1) (chg f)) := hD
                exact qz_ret ((z, (upd (upd (upd (upd (upd v 20 d1) 21 g1) 22 u1) 23 t1) 24 s1), (chg f)) : CS) hx hb hr hlocks rfl (by rw [t_machine, cI_t (by simp_all)]; exact ⟨rfl, rfl⟩) hP hD hS dX4_machine_93
            · skip
              refine lv_iconst (v := 0) hx hb dX4_machine_47 (by decide) ?_
              exact qz_ret ((z, v, f) : CS) hx hb hr hlocks rfl (by rw [t_machine, cI_f (by simp_all)]; exact ⟨rfl, rfl⟩) hP hD hS dX4_machine_48
      · skip
        refine lv_iconst (v := 0) hx hb dX4_machine_21 (by decide) ?_
        exact qz_ret ((z, v, f) : CS) hx hb hr hlocks rfl (by rw [t_machine, cI_f (by simp_all)]; exact ⟨rfl, rfl⟩) hP hD hS dX4_machine_22
noncomputable def t_price (v : Nat → Int32) (f : Nat → Nat → Int32) (w : Int32) (h : Int32) (n1 : Int32) : AN := cI (m_in w 0 2 ∧ m_in h 0 23 ∧ m_in n1 (-99) 999) (1, v, chg (va_up f (24 + w.toNatClampNeg) (upd (f (24 + w.toNatClampNeg)) h.toNatClampNeg n1))) (0, v, f)
