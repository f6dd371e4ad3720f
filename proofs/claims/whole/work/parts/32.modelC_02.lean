set_option maxHeartbeats 4000000 in
set_option maxRecDepth 100000 in
theorem c_X5_machine (l : Launch) (E : GG) (r : Nat → Nat) (v : Nat → Int32) (f : Nat → Nat → Int32) (B C : Nat → Int32) (sz : Nat) (k : Int32) (d1 : Int32) (g1 : Int32) (u1 : Int32) (t1 : Int32) (s1 : Int32)  : Met l yX5_machine wsX5_machine (Rm 1 0 0) (pM E [.ref (r 0), .int k, .int d1, .int g1, .int u1, .int t1, .int s1] (MW E r v f B C) sz) (va_Qi (fun (x : Int32) (u : MS) => x = (s_machine v f k d1 g1 u1 t1 s1).1 ∧ u = ((s_machine v f k d1 g1 u1 t1 s1).2.1, (s_machine v f k d1 g1 u1 t1 s1).2.2, B, C)) (bM E (va_A (MW E r v f B C) sz) (MWu E r)) (va_A (MW E r v f B C) sz)) 0 0 (va_A (MW E r v f B C) sz) := by
  refine ofM (by decide) rfl (Nat.le_of_ble_eq_true rfl) ?_
  intro p e s m below meth c A hx hb hr hlocks hml hown hin hts hK hP hD hS hA hsz hAe ls hl
  rw [← hAe]
  have hl : lv_has ls 7 [(0, .ref (r 0)), (1, .int k), (2, .int d1), (3, .int g1), (4, .int u1), (5, .int t1), (6, .int s1)] := hl
  refine lv_aload_n hx hb dX5_machine_0 rfl (lv_at hl 0 rfl) ?_
  refine lv_iconst (v := 0) hx hb dX5_machine_1 (by decide) ?_
  refine va_put (D := E.1) (ci := 5) (v := .int 0) (ty := .int) (C := RX5) (T := TX5) (N := 26) hx hb hts (fun _ h => (List.mem_cons_of_mem _ (List.mem_append_right _ h))) tyX5 tyX5_ok nmX5 hown hK.1 hP hD hS 0 rfl rfl 0 (by decide) (hts _ (List.mem_of_getElem? (i := 1) rfl)) (fun _ h9 => h9) rfl (by decide +kernel) rfl rfl (Nat.le_of_ble_eq_true rfl) dX5_machine_2 (fun H locs hP hD hS => ?_)
  have hP : va_P E.1 vwCl (MW E r (upd v 0 0) f B C) H := hP
  have hD : va_D A (MW E r (upd v 0 0) f B C) := hD
  refine lv_iload_n hx hb dX5_machine_5 rfl (lv_at hl 1 rfl) ?_
  refine lv_iconst (v := 0) hx hb dX5_machine_6 (by decide) ?_
  refine lv_iconst (v := 1) hx hb dX5_machine_7 (by decide) ?_
  refine cR_S ⟨hx, hb, hml, hown, hts⟩ (c_X5_within l E k 0 1) (va_cwS 3 hts gX5_machine_X5_within rfl rfl rfl (by decide +kernel) ⟨Nat.le_of_ble_eq_true rfl, Nat.le_of_ble_eq_true rfl⟩) hK nilP rfl hl.1 rfl (Nat.le_of_ble_eq_true rfl) dX5_machine_8 ⟨Nat.le_of_ble_eq_true rfl, Nat.le_of_ble_eq_true rfl⟩ ?_
  refine b_if_eq (q := (m_in k 0 1)) (tgt := 67) hx hb dX5_machine_11 (by decide) (fun c_1 => ?_) (fun c_1 => ?_)
  · skip
    refine lv_iconst (v := 0) hx hb dX5_machine_67 (by decide) ?_
    exact qz_ret (((upd v 0 0), f, B, C) : MS) hx hb hr hlocks rfl (by rw [s_machine, cI_f (by simp_all)]; exact ⟨rfl, rfl⟩) hP hD hS dX5_machine_68
  · skip
    refine lv_iload_n hx hb dX5_machine_14 rfl (lv_at hl 2 rfl) ?_
    refine lv_iconst (v := 0) hx hb dX5_machine_15 (by decide) ?_
    refine lv_bipush (v := 99) hx hb dX5_machine_16 (by decide) ?_
    refine cR_S ⟨hx, hb, hml, hown, hts⟩ (c_X5_within l E d1 0 99) (va_cwS 3 hts gX5_machine_X5_within rfl rfl rfl (by decide +kernel) ⟨Nat.le_of_ble_eq_true rfl, Nat.le_of_ble_eq_true rfl⟩) hK nilP rfl hl.1 rfl (Nat.le_of_ble_eq_true rfl) dX5_machine_18 ⟨Nat.le_of_ble_eq_true rfl, Nat.le_of_ble_eq_true rfl⟩ ?_
    refine b_if_eq (q := (m_in d1 0 99)) (tgt := 67) hx hb dX5_machine_21 (by decide) (fun c_2 => ?_) (fun c_2 => ?_)
    · skip
      refine lv_iconst (v := 0) hx hb dX5_machine_67 (by decide) ?_
      exact qz_ret (((upd v 0 0), f, B, C) : MS) hx hb hr hlocks rfl (by rw [s_machine, cI_f (by simp_all)]; exact ⟨rfl, rfl⟩) hP hD hS dX5_machine_68
    · skip
      refine lv_iload_n hx hb dX5_machine_24 rfl (lv_at hl 3 rfl) ?_
      refine lv_iconst (v := 0) hx hb dX5_machine_25 (by decide) ?_
      refine lv_bipush (v := 99) hx hb dX5_machine_26 (by decide) ?_
      refine cR_S ⟨hx, hb, hml, hown, hts⟩ (c_X5_within l E g1 0 99) (va_cwS 3 hts gX5_machine_X5_within rfl rfl rfl (by decide +kernel) ⟨Nat.le_of_ble_eq_true rfl, Nat.le_of_ble_eq_true rfl⟩) hK nilP rfl hl.1 rfl (Nat.le_of_ble_eq_true rfl) dX5_machine_28 ⟨Nat.le_of_ble_eq_true rfl, Nat.le_of_ble_eq_true rfl⟩ ?_
      refine b_if_eq (q := (m_in g1 0 99)) (tgt := 67) hx hb dX5_machine_31 (by decide) (fun c_3 => ?_) (fun c_3 => ?_)
      · skip
        refine lv_iconst (v := 0) hx hb dX5_machine_67 (by decide) ?_
        exact qz_ret (((upd v 0 0), f, B, C) : MS) hx hb hr hlocks rfl (by rw [s_machine, cI_f (by simp_all)]; exact ⟨rfl, rfl⟩) hP hD hS dX5_machine_68
      · skip
        refine lv_iload hx hb dX5_machine_34 (lv_at hl 4 rfl) ?_
        refine lv_iconst (v := 0) hx hb dX5_machine_36 (by decide) ?_
        refine lv_bipush (v := 99) hx hb dX5_machine_37 (by decide) ?_
        refine cR_S ⟨hx, hb, hml, hown, hts⟩ (c_X5_within l E u1 0 99) (va_cwS 3 hts gX5_machine_X5_within rfl rfl rfl (by decide +kernel) ⟨Nat.le_of_ble_eq_true rfl, Nat.le_of_ble_eq_true rfl⟩) hK nilP rfl hl.1 rfl (Nat.le_of_ble_eq_true rfl) dX5_machine_39 ⟨Nat.le_of_ble_eq_true rfl, Nat.le_of_ble_eq_true rfl⟩ ?_
        refine b_if_eq (q := (m_in u1 0 99)) (tgt := 67) hx hb dX5_machine_42 (by decide) (fun c_4 => ?_) (fun c_4 => ?_)
        · skip
          refine lv_iconst (v := 0) hx hb dX5_machine_67 (by decide) ?_
          exact qz_ret (((upd v 0 0), f, B, C) : MS) hx hb hr hlocks rfl (by rw [s_machine, cI_f (by simp_all)]; exact ⟨rfl, rfl⟩) hP hD hS dX5_machine_68
        · skip
          refine lv_iload hx hb dX5_machine_45 (lv_at hl 5 rfl) ?_
          refine lv_iconst (v := 0) hx hb dX5_machine_47 (by decide) ?_
          refine lv_bipush (v := 99) hx hb dX5_machine_48 (by decide) ?_
          refine cR_S ⟨hx, hb, hml, hown, hts⟩ (c_X5_within l E t1 0 99) (va_cwS 3 hts gX5_machine_X5_within rfl rfl rfl (by decide +kernel) ⟨Nat.le_of_ble_eq_true rfl, Nat.le_of_ble_eq_true rfl⟩) hK nilP rfl hl.1 rfl (Nat.le_of_ble_eq_true rfl) dX5_machine_50 ⟨Nat.le_of_ble_eq_true rfl, Nat.le_of_ble_eq_true rfl⟩ ?_
          refine b_if_eq (q := (m_in t1 0 99)) (tgt := 67) hx hb dX5_machine_53 (by decide) (fun c_5 => ?_) (fun c_5 => ?_)
          · skip
            refine lv_iconst (v := 0) hx hb dX5_machine_67 (by decide) ?_
            exact qz_ret (((upd v 0 0), f, B, C) : MS) hx hb hr hlocks rfl (by rw [s_machine, cI_f (by simp_all)]; exact ⟨rfl, rfl⟩) hP hD hS dX5_machine_68
          · skip
            refine lv_iload hx hb dX5_machine_56 (lv_at hl 6 rfl) ?_
            refine lv_iconst (v := 0) hx hb dX5_machine_58 (by decide) ?_
            refine lv_bipush (v := 99) hx hb dX5_machine_59 (by decide) ?_
            refine cR_S ⟨hx, hb, hml, hown, hts⟩ (c_X5_within l E s1 0 99) (va_cwS 3 hts gX5_machine_X5_within rfl rfl rfl (by decide +kernel) ⟨Nat.le_of_ble_eq_true rfl, Nat.le_of_ble_eq_true rfl⟩) hK nilP rfl hl.1 rfl (Nat.le_of_ble_eq_true rfl) dX5_machine_61 ⟨Nat.le_of_ble_eq_true rfl, Nat.le_of_ble_eq_true rfl⟩ ?_
            refine b_if_ne (q := (m_in s1 0 99)) (tgt := 69) hx hb dX5_machine_64 (by decide) (fun c_6 => ?_) (fun c_6 => ?_)
            · skip
              have hh := (inN c_1 1 (by decide) (by decide)).2
              refine lv_aload_n hx hb dX5_machine_69 rfl (lv_at hl 0 rfl) ?_
              refine va_get (D := E.1) (ci := 5) (v := .ref (r 11)) (C := RX5) (T := TX5) (N := 26) hx hb hts (fun _ h => (List.mem_cons_of_mem _ (List.mem_append_right _ h))) hown hK.1 hP 0 rfl rfl 11 (by decide) (hts _ (List.mem_of_getElem? (i := 2) rfl)) (fun _ h9 => h9) rfl dX5_machine_70 ?_
              refine lv_iload_n hx hb dX5_machine_73 rfl (lv_at hl 1 rfl) ?_
              refine w_top (show k = nI k.toNatClampNeg from (inN c_1 1 (by decide) (by decide)).1) ?_
              refine lv_iload_n hx hb dX5_machine_74 rfl (lv_at hl 2 rfl) ?_
              refine n_iast (f := f 11) hx hb hK.1 hP hD hS 4 0 rfl rfl (i := k.toNatClampNeg) (by omega) (by decide) dX5_machine_75 (fun H locs hP hD hS => ?_)
              have hP : va_P E.1 vwCl (MW E r (upd v 0 0) (va_up f 11 (upd (f 11) k.toNatClampNeg d1)) B C) H := hP
              have hD : va_D A (MW E r (upd v 0 0) (va_up f 11 (upd (f 11) k.toNatClampNeg d1)) B C) := hD
              refine lv_aload_n hx hb dX5_machine_76 rfl (lv_at hl 0 rfl) ?_
              refine va_get (D := E.1) (ci := 5) (v := .ref (r 12)) (C := RX5) (T := TX5) (N := 26) hx hb hts (fun _ h => (List.mem_cons_of_mem _ (List.mem_append_right _ h))) hown hK.1 hP 0 rfl rfl 12 (by decide) (hts _ (List.mem_of_getElem? (i := 3) rfl)) (fun _ h9 => h9) rfl dX5_machine_77 ?_
              refine lv_iload_n hx hb dX5_machine_80 rfl (lv_at hl 1 rfl) ?_
              refine w_top (show k = nI k.toNatClampNeg from (inN c_1 1 (by decide) (by decide)).1) ?_
              refine lv_iload_n hx hb dX5_machine_81 rfl (lv_at hl 3 rfl) ?_
              refine n_iast (f := f 12) hx hb hK.1 hP hD hS 5 0 rfl rfl (i := k.toNatClampNeg) (by omega) (by decide) dX5_machine_82 (fun H locs hP hD hS => ?_)
              have hP : va_P E.1 vwCl (MW E r (upd v 0 0) (va_up (va_up f 11 (upd (f 11) k.toNatClampNeg d1)) 12 (upd (f 12) k.toNatClampNeg g1)) B C) H := hP
              have hD : va_D A (MW E r (upd v 0 0) (va_up (va_up f 11 (upd (f 11) k.toNatClampNeg d1)) 12 (upd (f 12) k.toNatClampNeg g1)) B C) := hD
              refine lv_aload_n hx hb dX5_machine_83 rfl (lv_at hl 0 rfl) ?_
              refine va_get (D := E.1) (ci := 5) (v := .ref (r 13)) (C := RX5) (T := TX5) (N := 26) hx hb hts (fun _ h => (List.mem_cons_of_mem _ (List.mem_append_right _ h))) hown hK.1 hP 0 rfl rfl 13 (by decide) (hts _ (List.mem_of_getElem? (i := 4) rfl)) (fun _ h9 => h9) rfl dX5_machine_84 ?_
              refine lv_iload_n hx hb dX5_machine_87 rfl (lv_at hl 1 rfl) ?_
              refine w_top (show k = nI k.toNatClampNeg from (inN c_1 1 (by decide) (by decide)).1) ?_
              refine lv_iload hx hb dX5_machine_88 (lv_at hl 4 rfl) ?_
              refine n_iast (f := f 13) hx hb hK.1 hP hD hS 6 0 rfl rfl (i := k.toNatClampNeg) (by omega) (by decide) dX5_machine_90 (fun H locs hP hD hS => ?_)
              have hP : va_P E.1 vwCl (MW E r (upd v 0 0) (va_up (va_up (va_up f 11 (upd (f 11) k.toNatClampNeg d1)) 12 (upd (f 12) k.toNatClampNeg g1)) 13 (upd (f 13) k.toNatClampNeg u1)) B C) H := hP
              have hD : va_D A (MW E r (upd v 0 0) (va_up (va_up (va_up f 11 (upd (f 11) k.toNatClampNeg d1)) 12 (upd (f 12) k.toNatClampNeg g1)) 13 (upd (f 13) k.toNatClampNeg u1)) B C) := hD
              refine lv_aload_n hx hb dX5_machine_91 rfl (lv_at hl 0 rfl) ?_
              refine va_get (D := E.1) (ci := 5) (v := .ref (r 14)) (C := RX5) (T := TX5) (N := 26) hx hb hts (fun _ h => (List.mem_cons_of_mem _ (List.mem_append_right _ h))) hown hK.1 hP 0 rfl rfl 14 (by decide) (hts _ (List.mem_of_getElem? (i := 5) rfl)) (fun _ h9 => h9) rfl dX5_machine_92 ?_
              refine lv_iload_n hx hb dX5_machine_95 rfl (lv_at hl 1 rfl) ?_
              refine w_top (show k = nI k.toNatClampNeg from (inN c_1 1 (by decide) (by decide)).1) ?_
              refine lv_iload hx hb dX5_machine_96 (lv_at hl 5 rfl) ?_
              refine n_iast (f := f 14) hx hb hK.1 hP hD hS 7 0 rfl rfl (i := k.toNatClampNeg) (by omega) (by decide) dX5_machine_98 (fun H locs hP hD hS => ?_)
              have hP : va_P E.1 vwCl (MW E r (upd v 0 0) (va_up (va_up (va_up (va_up f 11 (upd (f 11) k.toNatClampNeg d1)) 12 (upd (f 12) k.toNatClampNeg g1)) 13 (upd (f 13) k.toNatClampNeg u1)) 14 (upd (f 14) k.toNatClampNeg t1)) B C) H := hP
              have hD : va_D A (MW E r (upd v 0 0) (va_up (va_up (va_up (va_up f 11 (upd (f 11) k.toNatClampNeg d1)) 12 (upd (f 12) k.toNatClampNeg g1)) 13 (upd (f 13) k.toNatClampNeg u1)) 14 (upd (f 14) k.toNatClampNeg t1)) B C) := hD
              refine lv_aload_n hx hb dX5_machine_99 rfl (lv_at hl 0 rfl) ?_
              refine va_get (D := E.1) (ci := 5) (v := .ref (r 15)) (C := RX5) (T := TX5) (N := 26) hx hb hts (fun _ h => (List.mem_cons_of_mem _ (List.mem_append_right _ h))) hown hK.1 hP 0 rfl rfl 15 (by decide) (hts _ (List.mem_of_getElem? (i := 6) rfl)) (fun _ h9 => h9) rfl dX5_machine_100 ?_
              refine lv_iload_n hx hb dX5_machine_103 rfl (lv_at hl 1 rfl) ?_
              refine w_top (show k = nI k.toNatClampNeg from (inN c_1 1 (by decide) (by decide)).1) ?_
              refine lv_iload hx hb dX5_machine_104 (lv_at hl 6 rfl) ?_
              refine n_iast (f := f 15) hx hb hK.1 hP hD hS 8 0 rfl rfl (i := k.toNatClampNeg) (by omega) (by decide) dX5_machine_106 (fun H locs hP hD hS => ?_)
              have hP : va_P E.1 vwCl (MW E r (upd v 0 0) (va_up (va_up (va_up (va_up (va_up f 11 (upd (f 11) k.toNatClampNeg d1)) 12 (upd (f 12) k.toNatClampNeg g1)) 13 (upd (f 13) k.toNatClampNeg u1)) 14 (upd (f 14) k.toNatClampNeg t1)) 15 (upd (f 15) k.toNatClampNeg s1)) B C) H := hP
              have hD : va_D A (MW E r (upd v 0 0) (va_up (va_up (va_up (va_up (va_up f 11 (upd (f 11) k.toNatClampNeg d1)) 12 (upd (f 12) k.toNatClampNeg g1)) 13 (upd (f 13) k.toNatClampNeg u1)) 14 (upd (f 14) k.toNatClampNeg t1)) 15 (upd (f 15) k.toNatClampNeg s1)) B C) := hD
              refine lv_iconst (v := 1) hx hb dX5_machine_107 (by decide) ?_
              exact qz_ret (((upd v 0 0), (va_up (va_up (va_up (va_up (va_up f 11 (upd (f 11) k.toNatClampNeg d1)) 12 (upd (f 12) k.toNatClampNeg g1)) 13 (upd (f 13) k.toNatClampNeg u1)) 14 (upd (f 14) k.toNatClampNeg t1)) 15 (upd (f 15) k.toNatClampNeg s1)), B, C) : MS) hx hb hr hlocks rfl (by rw [s_machine, cI_t (by simp_all)]; exact ⟨rfl, rfl⟩) hP hD hS dX5_machine_108
            · skip
              refine lv_iconst (v := 0) hx hb dX5_machine_67 (by decide) ?_
              exact qz_ret (((upd v 0 0), f, B, C) : MS) hx hb hr hlocks rfl (by rw [s_machine, cI_f (by simp_all)]; exact ⟨rfl, rfl⟩) hP hD hS dX5_machine_68
noncomputable def s_weights (v : Nat → Int32) (f : Nat → Nat → Int32) (a : Int32) (b : Int32) (c1 : Int32) : AN := cI (m_in a 0 9 ∧ m_in b 0 9 ∧ m_in c1 0 9 ∧ ¬ a + b + c1 = 0) (1, upd v 0 0, va_up (va_up (va_up f 17 (upd (f 17) 0 a)) 17 (upd (upd (f 17) 0 a) 1 b)) 17 (upd (upd (upd (f 17) 0 a) 1 b) 2 c1)) (0, upd v 0 0, f)
set_option maxHeartbeats 4000000 in
set_option maxRecDepth 100000 in
theorem c_X5_weights (l : Launch) (E : GG) (r : Nat → Nat) (v : Nat → Int32) (f : Nat → Nat → Int32) (B C : Nat → Int32) (sz : Nat) (a : Int32) (b : Int32) (c1 : Int32)  : Met l yX5_weights wsX5_weights (Rm 1 0 0) (pM E [.ref (r 0), .int a, .int b, .int c1] (MW E r v f B C) sz) (va_Qi (fun (x : Int32) (u : MS) => x = (s_weights v f a b c1).1 ∧ u = ((s_weights v f a b c1).2.1, (s_weights v f a b c1).2.2, B, C)) (bM E (va_A (MW E r v f B C) sz) (MWu E r)) (va_A (MW E r v f B C) sz)) 0 0 (va_A (MW E r v f B C) sz) := by
  refine ofM (by decide) rfl (Nat.le_of_ble_eq_true rfl) ?_
  intro p e s m below meth c A hx hb hr hlocks hml hown hin hts hK hP hD hS hA hsz hAe ls hl
  rw [← hAe]
  have hl : lv_has ls 4 [(0, .ref (r 0)), (1, .int a), (2, .int b), (3, .int c1)] := hl
  refine lv_aload_n hx hb dX5_weights_0 rfl (lv_at hl 0 rfl) ?_
  refine lv_iconst (v := 0) hx hb dX5_weights_1 (by decide) ?_
  refine va_put (D := E.1) (ci := 5) (v := .int 0) (ty := .int) (C := RX5) (T := TX5) (N := 26) hx hb hts (fun _ h => (List.mem_cons_of_mem _ (List.mem_append_right _ h))) tyX5 tyX5_ok nmX5 hown hK.1 hP hD hS 0 rfl rfl 0 (by decide) (hts _ (List.mem_of_getElem? (i := 1) rfl)) (fun _ h9 => h9) rfl (by decide +kernel) rfl rfl (Nat.le_of_ble_eq_true rfl) dX5_weights_2 (fun H locs hP hD hS => ?_)
  have hP : va_P E.1 vwCl (MW E r (upd v 0 0) f B C) H := hP
  have hD : va_D A (MW E r (upd v 0 0) f B C) := hD
  refine lv_iload_n hx hb dX5_weights_5 rfl (lv_at hl 1 rfl) ?_
  refine lv_iconst (v := 0) hx hb dX5_weights_6 (by decide) ?_
  refine lv_bipush (v := 9) hx hb dX5_weights_7 (by decide) ?_
  refine cR_S ⟨hx, hb, hml, hown, hts⟩ (c_X5_within l E a 0 9) (va_cwS 3 hts gX5_weights_X5_within rfl rfl rfl (by decide +kernel) ⟨Nat.le_of_ble_eq_true rfl, Nat.le_of_ble_eq_true rfl⟩) hK nilP rfl hl.1 rfl (Nat.le_of_ble_eq_true rfl) dX5_weights_9 ⟨Nat.le_of_ble_eq_true rfl, Nat.le_of_ble_eq_true rfl⟩ ?_
  refine b_if_eq (q := (m_in a 0 9)) (tgt := 43) hx hb dX5_weights_12 (by decide) (fun c_1 => ?_) (fun c_1 => ?_)
  · skip
    refine lv_iconst (v := 0) hx hb dX5_weights_43 (by decide) ?_
    exact qz_ret (((upd v 0 0), f, B, C) : MS) hx hb hr hlocks rfl (by rw [s_weights, cI_f (by simp_all)]; exact ⟨rfl, rfl⟩) hP hD hS dX5_weights_44
  · skip
    refine lv_iload_n hx hb dX5_weights_15 rfl (lv_at hl 2 rfl) ?_
    refine lv_iconst (v := 0) hx hb dX5_weights_16 (by decide) ?_
    refine lv_bipush (v := 9) hx hb dX5_weights_17 (by decide) ?_
    refine cR_S ⟨hx, hb, hml, hown, hts⟩ (c_X5_within l E b 0 9) (va_cwS 3 hts gX5_weights_X5_within rfl rfl rfl (by decide +kernel) ⟨Nat.le_of_ble_eq_true rfl, Nat.le_of_ble_eq_true rfl⟩) hK nilP rfl hl.1 rfl (Nat.le_of_ble_eq_true rfl) dX5_weights_19 ⟨Nat.le_of_ble_eq_true rfl, Nat.le_of_ble_eq_true rfl⟩ ?_
    refine b_if_eq (q := (m_in b 0 9)) (tgt := 43) hx hb dX5_weights_22 (by decide) (fun c_2 => ?_) (fun c_2 => ?_)
    · skip
      refine lv_iconst (v := 0) hx hb dX5_weights_43 (by decide) ?_
      exact qz_ret (((upd v 0 0), f, B, C) : MS) hx hb hr hlocks rfl (by rw [s_weights, cI_f (by simp_all)]; exact ⟨rfl, rfl⟩) hP hD hS dX5_weights_44
    · skip
      refine lv_iload_n hx hb dX5_weights_25 rfl (lv_at hl 3 rfl) ?_
      refine lv_iconst (v := 0) hx hb dX5_weights_26 (by decide) ?_
      refine lv_bipush (v := 9) hx hb dX5_weights_27 (by decide) ?_
      refine cR_S ⟨hx, hb, hml, hown, hts⟩ (c_X5_within l E c1 0 9) (va_cwS 3 hts gX5_weights_X5_within rfl rfl rfl (by decide +kernel) ⟨Nat.le_of_ble_eq_true rfl, Nat.le_of_ble_eq_true rfl⟩) hK nilP rfl hl.1 rfl (Nat.le_of_ble_eq_true rfl) dX5_weights_29 ⟨Nat.le_of_ble_eq_true rfl, Nat.le_of_ble_eq_true rfl⟩ ?_
      refine b_if_eq (q := (m_in c1 0 9)) (tgt := 43) hx hb dX5_weights_32 (by decide) (fun c_3 => ?_) (fun c_3 => ?_)
      · skip
        refine lv_iconst (v := 0) hx hb dX5_weights_43 (by decide) ?_
        exact qz_ret (((upd v 0 0), f, B, C) : MS) hx hb hr hlocks rfl (by rw [s_weights, cI_f (by simp_all)]; exact ⟨rfl, rfl⟩) hP hD hS dX5_weights_44
      · skip
        refine lv_iload_n hx hb dX5_weights_35 rfl (lv_at hl 1 rfl) ?_
        refine lv_iload_n hx hb dX5_weights_36 rfl (lv_at hl 2 rfl) ?_
        refine lv_iadd hx hb dX5_weights_37 ?_
        refine lv_iload_n hx hb dX5_weights_38 rfl (lv_at hl 3 rfl) ?_
        refine lv_iadd hx hb dX5_weights_39 ?_
        refine lv_if_ne (tgt := 45) hx hb dX5_weights_40 (by decide) (fun c_4 => ?_) (fun c_4 => ?_)
        · skip
          refine lv_aload_n hx hb dX5_weights_45 rfl (lv_at hl 0 rfl) ?_
          refine va_get (D := E.1) (ci := 5) (v := .ref (r 17)) (C := RX5) (T := TX5) (N := 26) hx hb hts (fun _ h => (List.mem_cons_of_mem _ (List.mem_append_right _ h))) hown hK.1 hP 0 rfl rfl 17 (by decide) (hts _ (List.mem_of_getElem? (i := 2) rfl)) (fun _ h9 => h9) rfl dX5_weights_46 ?_
          refine lv_iconst (v := 0) hx hb dX5_weights_49 (by decide) ?_
          refine lv_iload_n hx hb dX5_weights_50 rfl (lv_at hl 1 rfl) ?_
          refine n_iast (f := f 17) hx hb hK.1 hP hD hS 10 0 rfl rfl (i := 0) (by omega) (by decide) dX5_weights_51 (fun H locs hP hD hS => ?_)
          have hP : va_P E.1 vwCl (MW E r (upd v 0 0) (va_up f 17 (upd (f 17) 0 a)) B C) H := hP
          have hD : va_D A (MW E r (upd v 0 0) (va_up f 17 (upd (f 17) 0 a)) B C) := hD
          refine lv_aload_n hx hb dX5_weights_52 rfl (lv_at hl 0 rfl) ?_
          refine va_get (D := E.1) (ci := 5) (v := .ref (r 17)) (C := RX5) (T := TX5) (N := 26) hx hb hts (fun _ h => (List.mem_cons_of_mem _ (List.mem_append_right _ h))) hown hK.1 hP 0 rfl rfl 17 (by decide) (hts _ (List.mem_of_getElem? (i := 2) rfl)) (fun _ h9 => h9) rfl dX5_weights_53 ?_
          refine lv_iconst (v := 1) hx hb dX5_weights_56 (by decide) ?_
          refine lv_iload_n hx hb dX5_weights_57 rfl (lv_at hl 2 rfl) ?_
          refine n_iast (f := upd (f 17) 0 a) hx hb hK.1 hP hD hS 10 0 rfl rfl (i := 1) (by omega) (by decide) dX5_weights_58 (fun H locs hP hD hS => ?_)
          have hP : va_P E.1 vwCl (MW E r (upd v 0 0) (va_up (va_up f 17 (upd (f 17) 0 a)) 17 (upd (upd (f 17) 0 a) 1 b)) B C) H := hP
          have hD : va_D A (MW E r (upd v 0 0) (va_up (va_up f 17 (upd (f 17) 0 a)) 17 (upd (upd (f 17) 0 a) 1 b)) B C) := hD
          refine lv_aload_n hx hb dX5_weights_59 rfl (lv_at hl 0 rfl) ?_
          refine va_get (D := E.1) (ci := 5) (v := .ref (r 17)) (C := RX5) (T := TX5) (N := 26) hx hb hts (fun _ h => (List.mem_cons_of_mem _ (List.mem_append_right _ h))) hown hK.1 hP 0 rfl rfl 17 (by decide) (hts _ (List.mem_of_getElem? (i := 2) rfl)) (fun _ h9 => h9) rfl dX5_weights_60 ?_
          refine lv_iconst (v := 2) hx hb dX5_weights_63 (by decide) ?_
          refine lv_iload_n hx hb dX5_weights_64 rfl (lv_at hl 3 rfl) ?_
          refine n_iast (f := upd (upd (f 17) 0 a) 1 b) hx hb hK.1 hP hD hS 10 0 rfl rfl (i := 2) (by omega) (by decide) dX5_weights_65 (fun H locs hP hD hS => ?_)
          have hP : va_P E.1 vwCl (MW E r (upd v 0 0) (va_up (va_up (va_up f 17 (upd (f 17) 0 a)) 17 (upd (upd (f 17) 0 a) 1 b)) 17 (upd (upd (upd (f 17) 0 a) 1 b) 2 c1)) B C) H := hP
          have hD : va_D A (MW E r (upd v 0 0) (va_up (va_up (va_up f 17 (upd (f 17) 0 a)) 17 (upd (upd (f 17) 0 a) 1 b)) 17 (upd (upd (upd (f 17) 0 a) 1 b) 2 c1)) B C) := hD
          refine lv_iconst (v := 1) hx hb dX5_weights_66 (by decide) ?_
          exact qz_ret (((upd v 0 0), (va_up (va_up (va_up f 17 (upd (f 17) 0 a)) 17 (upd (upd (f 17) 0 a) 1 b)) 17 (upd (upd (upd (f 17) 0 a) 1 b) 2 c1)), B, C) : MS) hx hb hr hlocks rfl (by rw [s_weights, cI_t (by simp_all)]; exact ⟨rfl, rfl⟩) hP hD hS dX5_weights_67
        · skip
          refine lv_iconst (v := 0) hx hb dX5_weights_43 (by decide) ?_
          exact qz_ret (((upd v 0 0), f, B, C) : MS) hx hb hr hlocks rfl (by rw [s_weights, cI_f (by simp_all)]; exact ⟨rfl, rfl⟩) hP hD hS dX5_weights_44
noncomputable def s_price (v : Nat → Int32) (f : Nat → Nat → Int32) (w : Int32) (h : Int32) (n1 : Int32) : AN := cI (m_in w 0 2 ∧ m_in h 0 23 ∧ m_in n1 (-99) 999) (1, upd v 0 0, va_up f 18 (upd (f 18) (24 * w.toNatClampNeg + h.toNatClampNeg) n1)) (0, upd v 0 0, f)
set_option maxHeartbeats 4000000 in
set_option maxRecDepth 100000 in
theorem c_X5_price (l : Launch) (E : GG) (r : Nat → Nat) (v : Nat → Int32) (f : Nat → Nat → Int32) (B C : Nat → Int32) (sz : Nat) (w : Int32) (h : Int32) (n1 : Int32)  : Met l yX5_price wsX5_price (Rm 2 0 0) (pM E [.ref (r 0), .int w, .int h, .int n1] (MW E r v f B C) sz) (va_Qi (fun (x : Int32) (u : MS) => x = (s_price v f w h n1).1 ∧ u = ((s_price v f w h n1).2.1, (s_price v f w h n1).2.2, B, C)) (bM E (va_A (MW E r v f B C) sz) (MWu E r)) (va_A (MW E r v f B C) sz)) 0 0 (va_A (MW E r v f B C) sz) := by
  refine ofM (by decide) rfl (Nat.le_of_ble_eq_true rfl) ?_
  intro p e s m below meth c A hx hb hr hlocks hml hown hin hts hK hP hD hS hA hsz hAe ls hl
  rw [← hAe]
  have hl : lv_has ls 4 [(0, .ref (r 0)), (1, .int w), (2, .int h), (3, .int n1)] := hl
  refine lv_aload_n hx hb dX5_price_0 rfl (lv_at hl 0 rfl) ?_
  refine lv_iconst (v := 0) hx hb dX5_price_1 (by decide) ?_
  refine va_put (D := E.1) (ci := 5) (v := .int 0) (ty := .int) (C := RX5) (T := TX5) (N := 26) hx hb hts (fun _ h => (List.mem_cons_of_mem _ (List.mem_append_right _ h))) tyX5 tyX5_ok nmX5 hown hK.1 hP hD hS 0 rfl rfl 0 (by decide) (hts _ (List.mem_of_getElem? (i := 1) rfl)) (fun _ h9 => h9) rfl (by decide +kernel) rfl rfl (Nat.le_of_ble_eq_true rfl) dX5_price_2 (fun H locs hP hD hS => ?_)
  have hP : va_P E.1 vwCl (MW E r (upd v 0 0) f B C) H := hP
  have hD : va_D A (MW E r (upd v 0 0) f B C) := hD
  refine lv_iload_n hx hb dX5_price_5 rfl (lv_at hl 1 rfl) ?_
  refine cR_S ⟨hx, hb, hml, hown, hts⟩ (c_X5_isWorld l E w) (va_cwS 1 hts gX5_price_X5_isWorld rfl rfl rfl (by decide +kernel) ⟨Nat.le_of_ble_eq_true rfl, Nat.le_of_ble_eq_true rfl⟩) hK nilP rfl hl.1 rfl (Nat.le_of_ble_eq_true rfl) dX5_price_6 ⟨Nat.le_of_ble_eq_true rfl, Nat.le_of_ble_eq_true rfl⟩ ?_
  refine b_if_eq (q := (m_in w 0 2)) (tgt := 31) hx hb dX5_price_9 (by decide) (fun c_1 => ?_) (fun c_1 => ?_)
  · skip
    refine lv_iconst (v := 0) hx hb dX5_price_31 (by decide) ?_
    exact qz_ret (((upd v 0 0), f, B, C) : MS) hx hb hr hlocks rfl (by rw [s_price, cI_f (by simp_all)]; exact ⟨rfl, rfl⟩) hP hD hS dX5_price_32
  · skip
    refine lv_iload_n hx hb dX5_price_12 rfl (lv_at hl 2 rfl) ?_
    refine cR_S ⟨hx, hb, hml, hown, hts⟩ (c_X5_isHour l E h) (va_cwS 1 hts gX5_price_X5_isHour rfl rfl rfl (by decide +kernel) ⟨Nat.le_of_ble_eq_true rfl, Nat.le_of_ble_eq_true rfl⟩) hK nilP rfl hl.1 rfl (Nat.le_of_ble_eq_true rfl) dX5_price_13 ⟨Nat.le_of_ble_eq_true rfl, Nat.le_of_ble_eq_true rfl⟩ ?_
    refine b_if_eq (q := (m_in h 0 23)) (tgt := 31) hx hb dX5_price_16 (by decide) (fun c_2 => ?_) (fun c_2 => ?_)
    · skip
      refine lv_iconst (v := 0) hx hb dX5_price_31 (by decide) ?_
      exact qz_ret (((upd v 0 0), f, B, C) : MS) hx hb hr hlocks rfl (by rw [s_price, cI_f (by simp_all)]; exact ⟨rfl, rfl⟩) hP hD hS dX5_price_32
    · skip
      refine lv_iload_n hx hb dX5_price_19 rfl (lv_at hl 3 rfl) ?_
      refine lv_bipush (v := (-99)) hx hb dX5_price_20 (by decide) ?_
      refine lv_sipush (v := 999) hx hb dX5_price_22 (by decide) ?_
      refine cR_S ⟨hx, hb, hml, hown, hts⟩ (c_X5_within l E n1 (-99) 999) (va_cwS 3 hts gX5_price_X5_within rfl rfl rfl (by decide +kernel) ⟨Nat.le_of_ble_eq_true rfl, Nat.le_of_ble_eq_true rfl⟩) hK nilP rfl hl.1 rfl (Nat.le_of_ble_eq_true rfl) dX5_price_25 ⟨Nat.le_of_ble_eq_true rfl, Nat.le_of_ble_eq_true rfl⟩ ?_
      refine b_if_ne (q := (m_in n1 (-99) 999)) (tgt := 33) hx hb dX5_price_28 (by decide) (fun c_3 => ?_) (fun c_3 => ?_)
      · skip
        have hw := (inN c_1 2 (by decide) (by decide)).2
        have hh := (inN c_2 23 (by decide) (by decide)).2
        refine lv_aload_n hx hb dX5_price_33 rfl (lv_at hl 0 rfl) ?_
        refine va_get (D := E.1) (ci := 5) (v := .ref (r 18)) (C := RX5) (T := TX5) (N := 26) hx hb hts (fun _ h => (List.mem_cons_of_mem _ (List.mem_append_right _ h))) hown hK.1 hP 0 rfl rfl 18 (by decide) (hts _ (List.mem_of_getElem? (i := 2) rfl)) (fun _ h9 => h9) rfl dX5_price_34 ?_
        refine lv_bipush (v := 24) hx hb dX5_price_37 (by decide) ?_
        refine lv_iload_n hx hb dX5_price_39 rfl (lv_at hl 1 rfl) ?_
        refine w_top (show w = nI w.toNatClampNeg from (inN c_1 2 (by decide) (by decide)).1) ?_
        refine lv_imul hx hb dX5_price_40 ?_
        refine w_top (show (24 * (nI w.toNatClampNeg)) = (nI (24 * w.toNatClampNeg)) from pk_mul _ _) ?_
        refine lv_iload_n hx hb dX5_price_41 rfl (lv_at hl 2 rfl) ?_
        refine w_top (show h = nI h.toNatClampNeg from (inN c_2 23 (by decide) (by decide)).1) ?_
        refine lv_iadd hx hb dX5_price_42 ?_
        refine w_top (show ((nI (24 * w.toNatClampNeg)) + (nI h.toNatClampNeg)) = (nI ((24 * w.toNatClampNeg) + h.toNatClampNeg)) from nI_add _ _) ?_
        refine lv_iload_n hx hb dX5_price_43 rfl (lv_at hl 3 rfl) ?_
        refine n_iast (f := f 18) hx hb hK.1 hP hD hS 11 0 rfl rfl (i := (24 * w.toNatClampNeg) + h.toNatClampNeg) (by omega) (by decide) dX5_price_44 (fun H locs hP hD hS => ?_)
        have hP : va_P E.1 vwCl (MW E r (upd v 0 0) (va_up f 18 (upd (f 18) ((24 * w.toNatClampNeg) + h.toNatClampNeg) n1)) B C) H := hP
        have hD : va_D A (MW E r (upd v 0 0) (va_up f 18 (upd (f 18) ((24 * w.toNatClampNeg) + h.toNatClampNeg) n1)) B C) := hD
        refine lv_iconst (v := 1) hx hb dX5_price_45 (by decide) ?_
        exact qz_ret (((upd v 0 0), (va_up f 18 (upd (f 18) ((24 * w.toNatClampNeg) + h.toNatClampNeg) n1)), B, C) : MS) hx hb hr hlocks rfl (by rw [s_price, cI_t (by simp_all)]; exact ⟨rfl, rfl⟩) hP hD hS dX5_price_46
      · skip
        refine lv_iconst (v := 0) hx hb dX5_price_31 (by decide) ?_
        exact qz_ret (((upd v 0 0), f, B, C) : MS) hx hb hr hlocks rfl (by rw [s_price, cI_f (by simp_all)]; exact ⟨rfl, rfl⟩) hP hD hS dX5_price_32
