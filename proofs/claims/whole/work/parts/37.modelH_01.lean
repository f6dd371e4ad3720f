set_option maxHeartbeats 4000000 in
set_option maxRecDepth 100000 in
theorem c_X5_water (l : Launch) (E : GG) (r : Nat → Nat) (v : Nat → Int32) (f : Nat → Nat → Int32) (B C : Nat → Int32) (sz : Nat) (x : Int32) (nw rv up lo m0 m1 : Nat) (hnw : v 1 = nI nw) (hn24 : nw ≤ 24) (hrv : v 19 = nI rv) (hr24 : rv ≤ 24) (h40 : (v 2).toInt ≤ 40) (hup : v 4 = nI up) (hu40 : up ≤ 40) (hlo : v 5 = nI lo) (hm0 : f 21 0 = nI m0) (h03 : m0 < 3) (hm1 : f 21 1 = nI m1) (h13 : m1 < 3) : Met l yX5_water wsX5_water (Rm 6 2 50) (pM E [.ref (r 0), .int x] (MW E r v f B C) sz) (va_Qi (fun (z : Int32) (u : MS) => z = n_water v f nw rv lo (3 * m0 + m1) x ∧ u.1 = upd v 0 0 ∧ u.2.1 = f) (bM E (va_A (MW E r v f B C) sz) (MWu E r)) (va_A (MW E r v f B C) sz)) 2 50 (va_A (MW E r v f B C) sz) := by
  refine ofM (by decide) rfl (Nat.le_of_ble_eq_true rfl) ?_
  intro p e s m below meth c A hx hb hr hlocks hml hown hin hts hK hP hD hS hA hsz hAe ls hl
  rw [← hAe]
  have hl : lv_has ls 4 [(0, .ref (r 0)), (1, .int x)] := hl
  refine lv_aload_n hx hb dX5_water_0 rfl (lv_at hl 0 rfl) ?_
  refine lv_iconst (v := 0) hx hb dX5_water_1 (by decide) ?_
  refine va_put (D := E.1) (ci := 5) (v := .int 0) (ty := .int) (C := RX5) (T := TX5) (N := 26) hx hb hts (fun _ h => (List.mem_cons_of_mem _ (List.mem_append_right _ h))) tyX5 tyX5_ok nmX5 hown hK.1 hP hD hS 0 rfl rfl 0 (by decide) (hts _ (List.mem_of_getElem? (i := 1) rfl)) (fun _ h9 => h9) rfl (by decide +kernel) rfl rfl (Nat.le_of_ble_eq_true rfl) dX5_water_2 (fun H locs hP hD hS => ?_)
  have hP : va_P E.1 vwCl (MW E r (upd v 0 0) f B C) H := hP
  have hD : va_D A (MW E r (upd v 0 0) f B C) := hD
  refine lv_iload_n hx hb dX5_water_5 rfl (lv_at hl 1 rfl) ?_
  refine lv_if_lt (tgt := 17) hx hb dX5_water_6 (by decide) (fun c_1 => ?_) (fun c_1 => ?_)
  · skip
    refine lv_ldc hx hb hown (hts _ (List.mem_of_getElem? (i := 3) rfl)) dX5_water_17 ?_
    refine W.widen (k := 2) (n := 50) (Nat.le_of_ble_eq_true rfl) (Nat.le_of_ble_eq_true rfl) ?_
    exact q_ret (((upd v 0 0), f, B, C) : MS) hx hb hr hlocks ⟨by rw [n_water, cI_f (by simp_all)], rfl, rfl⟩ hP hD hS dX5_water_19
  · skip
    refine lv_iload_n hx hb dX5_water_9 rfl (lv_at hl 1 rfl) ?_
    refine lv_aload_n hx hb dX5_water_10 rfl (lv_at hl 0 rfl) ?_
    refine va_get (D := E.1) (ci := 5) (v := .int (v 2)) (C := RX5) (T := TX5) (N := 26) hx hb hts (fun _ h => (List.mem_cons_of_mem _ (List.mem_append_right _ h))) hown hK.1 hP 0 rfl rfl 2 (by decide) (hts _ (List.mem_of_getElem? (i := 2) rfl)) (fun _ h9 => h9) rfl dX5_water_11 ?_
    refine lv_icmp_lt (tgt := 20) hx hb dX5_water_14 (by decide) (fun c_2 => ?_) (fun c_2 => ?_)
    · skip
      obtain ⟨xn, hxn, exn⟩ := nI_of (x := x) c_1
      have hx40 : xn < 40 := by have h9 := Int32.lt_iff_toInt_lt.mp c_2; rw [exn, nI_toInt hxn] at h9; omega
      subst exn
      refine lv_aload_n hx hb dX5_water_20 rfl (lv_at hl 0 rfl) ?_
      refine lv_iload_n hx hb dX5_water_21 rfl (lv_at hl 1 rfl) ?_
      refine lv_iconst (v := 1) hx hb dX5_water_22 (by decide) ?_
      refine lv_iadd hx hb dX5_water_23 ?_
      refine w_top (show ((nI xn) + 1) = (nI (xn + 1)) from nI_add _ _) ?_
      refine lv_aload_n hx hb dX5_water_24 rfl (lv_at hl 0 rfl) ?_
      refine va_get (D := E.1) (ci := 5) (v := .int (v 5)) (C := RX5) (T := TX5) (N := 26) hx hb hts (fun _ h => (List.mem_cons_of_mem _ (List.mem_append_right _ h))) hown hK.1 hP 0 rfl rfl 5 (by decide) (hts _ (List.mem_of_getElem? (i := 4) rfl)) (fun _ h9 => h9) rfl dX5_water_25 ?_
      refine w_top (show (v 5) = nI lo from hlo) ?_
      refine lv_iadd hx hb dX5_water_28 ?_
      refine w_top (show ((nI (xn + 1)) + (nI lo)) = (nI ((xn + 1) + lo)) from nI_add _ _) ?_
      refine cM_v (As := [.ref (r 0), .int (nI ((xn + 1) + lo))]) (wr := []) (rM_V ⟨hx, hb, hml, hown, hts⟩ (c_X5_laysOut l E r (upd v 0 0) f B C H.size (nI ((xn + 1) + lo)) nw rv hnw hn24 hrv hr24 h40) (cwV 1 hts gX5_water_X5_laysOut rfl rfl rfl (by decide +kernel) ⟨Nat.le_of_ble_eq_true rfl, Nat.le_of_ble_eq_true rfl⟩) hK hP hD 5 0 rfl rfl rfl hl.1 rfl (Nat.le_of_ble_eq_true rfl) dX5_water_29 ⟨Nat.le_of_ble_eq_true rfl, Nat.le_of_ble_eq_true rfl⟩) hP hD hS hA [0, 1, 2, 3, 4, 5, 6, 7, 8, 9, 10, 11, 12, 13, 14, 15] [] rfl rfl (by decide) (by decide) (fun u_3 H locs hq_3 hP hD hS => ?_)
      obtain ⟨v_, f_, B_3, C_3⟩ := u_3
      obtain ⟨e1, e2, hB_3, hC_3⟩ := hq_3
      dsimp only at e1 e2 hB_3 hC_3
      replace e1 := e1.symm
      replace e2 := e2.symm
      subst e1 e2
      have hP : va_P E.1 vwCl (MW E r (upd v 0 0) f B_3 C_3) H := hP
      have hD : va_D A (MW E r (upd v 0 0) f B_3 C_3) := hD
      refine lv_aload_n hx hb dX5_water_32 rfl (lv_at hl 0 rfl) ?_
      refine va_get (D := E.1) (ci := 5) (v := .ref (r 25)) (C := RX5) (T := TX5) (N := 26) hx hb hts (fun _ h => (List.mem_cons_of_mem _ (List.mem_append_right _ h))) hown hK.1 hP 0 rfl rfl 25 (by decide) (hts _ (List.mem_of_getElem? (i := 5) rfl)) (fun _ h9 => h9) rfl dX5_water_33 ?_
      refine lv_sipush (v := 369) hx hb dX5_water_36 (by decide) ?_
      refine lv_aload_n hx hb dX5_water_39 rfl (lv_at hl 0 rfl) ?_
      refine va_get (D := E.1) (ci := 5) (v := .int (v 1)) (C := RX5) (T := TX5) (N := 26) hx hb hts (fun _ h => (List.mem_cons_of_mem _ (List.mem_append_right _ h))) hown hK.1 hP 0 rfl rfl 1 (by decide) (hts _ (List.mem_of_getElem? (i := 6) rfl)) (fun _ h9 => h9) rfl dX5_water_40 ?_
      refine w_top (show (v 1) = nI nw from hnw) ?_
      refine lv_imul hx hb dX5_water_43 ?_
      refine w_top (show (369 * (nI nw)) = (nI (369 * nw)) from pk_mul _ _) ?_
      refine lv_bipush (v := 9) hx hb dX5_water_44 (by decide) ?_
      refine lv_iload_n hx hb dX5_water_46 rfl (lv_at hl 1 rfl) ?_
      refine lv_iconst (v := 1) hx hb dX5_water_47 (by decide) ?_
      refine lv_iadd hx hb dX5_water_48 ?_
      refine w_top (show ((nI xn) + 1) = (nI (xn + 1)) from nI_add _ _) ?_
      refine lv_imul hx hb dX5_water_49 ?_
      refine w_top (show (9 * (nI (xn + 1))) = (nI (9 * (xn + 1))) from pk_mul _ _) ?_
      refine lv_iadd hx hb dX5_water_50 ?_
      refine w_top (show ((nI (369 * nw)) + (nI (9 * (xn + 1)))) = (nI ((369 * nw) + (9 * (xn + 1)))) from nI_add _ _) ?_
      refine lv_iconst (v := 3) hx hb dX5_water_51 (by decide) ?_
      refine lv_aload_n hx hb dX5_water_52 rfl (lv_at hl 0 rfl) ?_
      refine va_get (D := E.1) (ci := 5) (v := .ref (r 21)) (C := RX5) (T := TX5) (N := 26) hx hb hts (fun _ h => (List.mem_cons_of_mem _ (List.mem_append_right _ h))) hown hK.1 hP 0 rfl rfl 21 (by decide) (hts _ (List.mem_of_getElem? (i := 7) rfl)) (fun _ h9 => h9) rfl dX5_water_53 ?_
      refine lv_iconst (v := 0) hx hb dX5_water_56 (by decide) ?_
      refine n_iald (f := f 21) hx hb hK.1 hP 12 0 rfl rfl (i := 0) (by omega) (by decide) dX5_water_57 ?_
      refine w_top (show (f 21 0) = nI m0 from hm0) ?_
      refine lv_imul hx hb dX5_water_58 ?_
      refine w_top (show (3 * (nI m0)) = (nI (3 * m0)) from pk_mul _ _) ?_
      refine lv_iadd hx hb dX5_water_59 ?_
      refine w_top (show ((nI ((369 * nw) + (9 * (xn + 1)))) + (nI (3 * m0))) = (nI (((369 * nw) + (9 * (xn + 1))) + (3 * m0))) from nI_add _ _) ?_
      refine lv_aload_n hx hb dX5_water_60 rfl (lv_at hl 0 rfl) ?_
      refine va_get (D := E.1) (ci := 5) (v := .ref (r 21)) (C := RX5) (T := TX5) (N := 26) hx hb hts (fun _ h => (List.mem_cons_of_mem _ (List.mem_append_right _ h))) hown hK.1 hP 0 rfl rfl 21 (by decide) (hts _ (List.mem_of_getElem? (i := 7) rfl)) (fun _ h9 => h9) rfl dX5_water_61 ?_
      refine lv_iconst (v := 1) hx hb dX5_water_64 (by decide) ?_
      refine n_iald (f := f 21) hx hb hK.1 hP 12 0 rfl rfl (i := 1) (by omega) (by decide) dX5_water_65 ?_
      refine w_top (show (f 21 1) = nI m1 from hm1) ?_
      refine lv_iadd hx hb dX5_water_66 ?_
      refine w_top (show ((nI (((369 * nw) + (9 * (xn + 1))) + (3 * m0))) + (nI m1)) = (nI ((((369 * nw) + (9 * (xn + 1))) + (3 * m0)) + m1)) from nI_add _ _) ?_
      refine n_iald (f := C_3) hx hb hK.1 hP 15 0 rfl rfl (i := (((369 * nw) + (9 * (xn + 1))) + (3 * m0)) + m1) (by omega) (by decide) dX5_water_67 ?_
      have ey0 := hC_3 nw (9 * (xn + 1) + 3 * m0 + m1) (Nat.le_refl _) hn24 (by omega)
      rw [show 369 * nw + (9 * (xn + 1) + 3 * m0 + m1) = (((369 * nw) + (9 * (xn + 1))) + (3 * m0)) + m1 by omega] at ey0
      refine lv_istore_n (lv' := [(2, .int (C_3 ((((369 * nw) + (9 * (xn + 1))) + (3 * m0)) + m1))), (0, .ref (r 0)), (1, .int (nI xn))]) hx hb dX5_water_68 rfl hl (by decide) rfl (fun ls hl => ?_)
      refine lv_aload_n hx hb dX5_water_69 rfl (lv_at hl 1 rfl) ?_
      refine lv_iload_n hx hb dX5_water_70 rfl (lv_at hl 2 rfl) ?_
      refine lv_aload_n hx hb dX5_water_71 rfl (lv_at hl 1 rfl) ?_
      refine va_get (D := E.1) (ci := 5) (v := .int (v 5)) (C := RX5) (T := TX5) (N := 26) hx hb hts (fun _ h => (List.mem_cons_of_mem _ (List.mem_append_right _ h))) hown hK.1 hP 0 rfl rfl 5 (by decide) (hts _ (List.mem_of_getElem? (i := 4) rfl)) (fun _ h9 => h9) rfl dX5_water_72 ?_
      refine w_top (show (v 5) = nI lo from hlo) ?_
      refine lv_iadd hx hb dX5_water_75 ?_
      refine w_top (show ((nI xn) + (nI lo)) = (nI (xn + lo)) from nI_add _ _) ?_
      refine cM_v (As := [.ref (r 0), .int (nI (xn + lo))]) (wr := []) (rM_V ⟨hx, hb, hml, hown, hts⟩ (c_X5_laysOut l E r (upd v 0 0) f B_3 C_3 H.size (nI (xn + lo)) nw rv hnw hn24 hrv hr24 h40) (cwV 1 hts gX5_water_X5_laysOut rfl rfl rfl (by decide +kernel) ⟨Nat.le_of_ble_eq_true rfl, Nat.le_of_ble_eq_true rfl⟩) hK hP hD 5 0 rfl rfl rfl hl.1 rfl (Nat.le_of_ble_eq_true rfl) dX5_water_76 ⟨Nat.le_of_ble_eq_true rfl, Nat.le_of_ble_eq_true rfl⟩) hP hD hS hA [0, 1, 2, 3, 4, 5, 6, 7, 8, 9, 10, 11, 12, 13, 14, 15] [] rfl rfl (by decide) (by decide) (fun u_4 H locs hq_4 hP hD hS => ?_)
      obtain ⟨v_, f_, B_4, C_4⟩ := u_4
      obtain ⟨e1, e2, hB_4, hC_4⟩ := hq_4
      dsimp only at e1 e2 hB_4 hC_4
      replace e1 := e1.symm
      replace e2 := e2.symm
      subst e1 e2
      have hP : va_P E.1 vwCl (MW E r (upd v 0 0) f B_4 C_4) H := hP
      have hD : va_D A (MW E r (upd v 0 0) f B_4 C_4) := hD
      refine lv_aload_n hx hb dX5_water_79 rfl (lv_at hl 1 rfl) ?_
      refine va_get (D := E.1) (ci := 5) (v := .ref (r 25)) (C := RX5) (T := TX5) (N := 26) hx hb hts (fun _ h => (List.mem_cons_of_mem _ (List.mem_append_right _ h))) hown hK.1 hP 0 rfl rfl 25 (by decide) (hts _ (List.mem_of_getElem? (i := 5) rfl)) (fun _ h9 => h9) rfl dX5_water_80 ?_
      refine lv_sipush (v := 369) hx hb dX5_water_83 (by decide) ?_
      refine lv_aload_n hx hb dX5_water_86 rfl (lv_at hl 1 rfl) ?_
      refine va_get (D := E.1) (ci := 5) (v := .int (v 1)) (C := RX5) (T := TX5) (N := 26) hx hb hts (fun _ h => (List.mem_cons_of_mem _ (List.mem_append_right _ h))) hown hK.1 hP 0 rfl rfl 1 (by decide) (hts _ (List.mem_of_getElem? (i := 6) rfl)) (fun _ h9 => h9) rfl dX5_water_87 ?_
      refine w_top (show (v 1) = nI nw from hnw) ?_
      refine lv_imul hx hb dX5_water_90 ?_
      refine w_top (show (369 * (nI nw)) = (nI (369 * nw)) from pk_mul _ _) ?_
      refine lv_bipush (v := 9) hx hb dX5_water_91 (by decide) ?_
      refine lv_iload_n hx hb dX5_water_93 rfl (lv_at hl 2 rfl) ?_
      refine lv_imul hx hb dX5_water_94 ?_
      refine w_top (show (9 * (nI xn)) = (nI (9 * xn)) from pk_mul _ _) ?_
      refine lv_iadd hx hb dX5_water_95 ?_
      refine w_top (show ((nI (369 * nw)) + (nI (9 * xn))) = (nI ((369 * nw) + (9 * xn))) from nI_add _ _) ?_
      refine lv_iconst (v := 3) hx hb dX5_water_96 (by decide) ?_
      refine lv_aload_n hx hb dX5_water_97 rfl (lv_at hl 1 rfl) ?_
      refine va_get (D := E.1) (ci := 5) (v := .ref (r 21)) (C := RX5) (T := TX5) (N := 26) hx hb hts (fun _ h => (List.mem_cons_of_mem _ (List.mem_append_right _ h))) hown hK.1 hP 0 rfl rfl 21 (by decide) (hts _ (List.mem_of_getElem? (i := 7) rfl)) (fun _ h9 => h9) rfl dX5_water_98 ?_
      refine lv_iconst (v := 0) hx hb dX5_water_101 (by decide) ?_
      refine n_iald (f := f 21) hx hb hK.1 hP 12 0 rfl rfl (i := 0) (by omega) (by decide) dX5_water_102 ?_
      refine w_top (show (f 21 0) = nI m0 from hm0) ?_
      refine lv_imul hx hb dX5_water_103 ?_
      refine w_top (show (3 * (nI m0)) = (nI (3 * m0)) from pk_mul _ _) ?_
      refine lv_iadd hx hb dX5_water_104 ?_
      refine w_top (show ((nI ((369 * nw) + (9 * xn))) + (nI (3 * m0))) = (nI (((369 * nw) + (9 * xn)) + (3 * m0))) from nI_add _ _) ?_
      refine lv_aload_n hx hb dX5_water_105 rfl (lv_at hl 1 rfl) ?_
      refine va_get (D := E.1) (ci := 5) (v := .ref (r 21)) (C := RX5) (T := TX5) (N := 26) hx hb hts (fun _ h => (List.mem_cons_of_mem _ (List.mem_append_right _ h))) hown hK.1 hP 0 rfl rfl 21 (by decide) (hts _ (List.mem_of_getElem? (i := 7) rfl)) (fun _ h9 => h9) rfl dX5_water_106 ?_
      refine lv_iconst (v := 1) hx hb dX5_water_109 (by decide) ?_
      refine n_iald (f := f 21) hx hb hK.1 hP 12 0 rfl rfl (i := 1) (by omega) (by decide) dX5_water_110 ?_
      refine w_top (show (f 21 1) = nI m1 from hm1) ?_
      refine lv_iadd hx hb dX5_water_111 ?_
      refine w_top (show ((nI (((369 * nw) + (9 * xn)) + (3 * m0))) + (nI m1)) = (nI ((((369 * nw) + (9 * xn)) + (3 * m0)) + m1)) from nI_add _ _) ?_
      refine n_iald (f := C_4) hx hb hK.1 hP 15 0 rfl rfl (i := (((369 * nw) + (9 * xn)) + (3 * m0)) + m1) (by omega) (by decide) dX5_water_112 ?_
      have ey1 := hC_4 nw (9 * xn + 3 * m0 + m1) (Nat.le_refl _) hn24 (by omega)
      rw [show 369 * nw + (9 * xn + 3 * m0 + m1) = (((369 * nw) + (9 * xn)) + (3 * m0)) + m1 by omega] at ey1
      refine lv_istore_n (lv' := [(3, .int (C_4 ((((369 * nw) + (9 * xn)) + (3 * m0)) + m1))), (2, .int (C_3 ((((369 * nw) + (9 * (xn + 1))) + (3 * m0)) + m1))), (0, .ref (r 0)), (1, .int (nI xn))]) hx hb dX5_water_113 rfl hl (by decide) rfl (fun ls hl => ?_)
      refine lv_iload_n hx hb dX5_water_114 rfl (lv_at hl 1 rfl) ?_
      refine lv_ldc hx hb hown (hts _ (List.mem_of_getElem? (i := 3) rfl)) dX5_water_115 ?_
      refine lv_icmp_eq (tgt := 126) hx hb dX5_water_117 (by decide) (fun c_5 => ?_) (fun c_5 => ?_)
      · skip
        refine lv_ldc hx hb hown (hts _ (List.mem_of_getElem? (i := 3) rfl)) dX5_water_126 ?_
        refine lv_goto (tgt := 134) hx hb dX5_water_128 (by decide) ?_
        refine W.widen (k := 2) (n := 50) (Nat.le_of_ble_eq_true rfl) (Nat.le_of_ble_eq_true rfl) ?_
        exact q_ret (((upd v 0 0), f, B_4, C_4) : MS) hx hb hr hlocks ⟨by rw [n_water, cI_t ⟨c_1, c_2⟩, nI_clamp hxn, show 9 * (xn + 1) + (3 * m0 + m1) = 9 * (xn + 1) + 3 * m0 + m1 by omega, show 9 * xn + (3 * m0 + m1) = 9 * xn + 3 * m0 + m1 by omega, ← mA_0 v f _ rv 0, ← mA_0 v f _ rv 0, ← ey0, ← ey1, n_wat, if_pos (by simp_all)], rfl, rfl⟩ hP hD hS dX5_water_134
      · skip
        refine lv_iload_n hx hb dX5_water_120 rfl (lv_at hl 0 rfl) ?_
        refine lv_ldc hx hb hown (hts _ (List.mem_of_getElem? (i := 3) rfl)) dX5_water_121 ?_
        refine lv_icmp_ne (tgt := 131) hx hb dX5_water_123 (by decide) (fun c_6 => ?_) (fun c_6 => ?_)
        · skip
          refine lv_iload_n hx hb dX5_water_131 rfl (lv_at hl 1 rfl) ?_
          refine lv_iload_n hx hb dX5_water_132 rfl (lv_at hl 0 rfl) ?_
          refine lv_isub hx hb dX5_water_133 ?_
          refine W.widen (k := 2) (n := 50) (Nat.le_of_ble_eq_true rfl) (Nat.le_of_ble_eq_true rfl) ?_
          exact q_ret (((upd v 0 0), f, B_4, C_4) : MS) hx hb hr hlocks ⟨by rw [n_water, cI_t ⟨c_1, c_2⟩, nI_clamp hxn, show 9 * (xn + 1) + (3 * m0 + m1) = 9 * (xn + 1) + 3 * m0 + m1 by omega, show 9 * xn + (3 * m0 + m1) = 9 * xn + 3 * m0 + m1 by omega, ← mA_0 v f _ rv 0, ← mA_0 v f _ rv 0, ← ey0, ← ey1, n_wat, if_neg (by simp_all)], rfl, rfl⟩ hP hD hS dX5_water_134
        · skip
          refine lv_ldc hx hb hown (hts _ (List.mem_of_getElem? (i := 3) rfl)) dX5_water_126 ?_
          refine lv_goto (tgt := 134) hx hb dX5_water_128 (by decide) ?_
          refine W.widen (k := 2) (n := 50) (Nat.le_of_ble_eq_true rfl) (Nat.le_of_ble_eq_true rfl) ?_
          exact q_ret (((upd v 0 0), f, B_4, C_4) : MS) hx hb hr hlocks ⟨by rw [n_water, cI_t ⟨c_1, c_2⟩, nI_clamp hxn, show 9 * (xn + 1) + (3 * m0 + m1) = 9 * (xn + 1) + 3 * m0 + m1 by omega, show 9 * xn + (3 * m0 + m1) = 9 * xn + 3 * m0 + m1 by omega, ← mA_0 v f _ rv 0, ← mA_0 v f _ rv 0, ← ey0, ← ey1, n_wat, if_pos (by simp_all)], rfl, rfl⟩ hP hD hS dX5_water_134
    · skip
      refine lv_ldc hx hb hown (hts _ (List.mem_of_getElem? (i := 3) rfl)) dX5_water_17 ?_
      refine W.widen (k := 2) (n := 50) (Nat.le_of_ble_eq_true rfl) (Nat.le_of_ble_eq_true rfl) ?_
      exact q_ret (((upd v 0 0), f, B, C) : MS) hx hb hr hlocks ⟨by rw [n_water, cI_f (by simp_all)], rfl, rfl⟩ hP hD hS dX5_water_19
noncomputable def ok_done (v : Nat → Int32) (f : Nat → Nat → Int32) (nw : Nat) (a b w : Int32) : Prop := (m_in a 0 2 ∧ m_in b 0 2) ∧ m_in w 0 2 ∧ ¬ nw = 24 ∧ m_legal v f nw (v 4) (v 5) (f 21 0) (f 21 1) a b
