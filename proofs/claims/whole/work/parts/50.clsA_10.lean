set_option maxHeartbeats 4000000 in
set_option maxRecDepth 100000 in
theorem c_X0_isForbidden (l : Launch) (E : GG) (r : Nat → Nat) (v : Nat → Int32) (f : Nat → Nat → Int32) (h : Nat) (d : Nat) (hh : h < 24) (hd : d < 9) : Met l yX0_isForbidden wsX0_isForbidden (Rm 1 0 0) (pR E [.ref (r 4), .int (nI h), .int (nI d)] (DW E r v f)) (QcRead (bI (d_forb v f h d))) 0 0 (fun _ => False) := by
  refine ofR (by decide) rfl (Nat.le_of_ble_eq_true rfl) ?_
  intro p e s m below meth c hx hb hr hlocks hml hown hts hK hP ls hl
  have hl : lv_has ls 6 [(0, .ref (r 4)), (1, .int (nI h)), (2, .int (nI d))] := hl
  refine lv_iload_n hx hb dX0_isForbidden_0 rfl (lv_at hl 1 rfl) ?_
  refine lv_bipush (v := 9) hx hb dX0_isForbidden_1 (by decide) ?_
  refine lv_imul hx hb dX0_isForbidden_3 ?_
  refine w_top (show ((nI h) * 9) = (nI (h * 9)) from pk_mul _ _) ?_
  refine lv_iload_n hx hb dX0_isForbidden_4 rfl (lv_at hl 2 rfl) ?_
  refine lv_iadd hx hb dX0_isForbidden_5 ?_
  refine w_top (show ((nI (h * 9)) + (nI d)) = (nI ((h * 9) + d)) from nI_add _ _) ?_
  refine lv_istore_n (lv' := [(3, .int (nI ((h * 9) + d))), (0, .ref (r 4)), (1, .int (nI h)), (2, .int (nI d))]) hx hb dX0_isForbidden_6 rfl hl (by decide) rfl (fun ls hl => ?_)
  refine lv_iload_n hx hb dX0_isForbidden_7 rfl (lv_at hl 3 rfl) ?_
  refine lv_iconst (v := 3) hx hb dX0_isForbidden_8 (by decide) ?_
  refine lv_idiv hx hb dX0_isForbidden_9 (by decide) ?_
  refine w_top (show ((nI d) / 3) = (nI (d / 3)) from pk_div (a := d) (d := 3) (by omega) (by decide) (by decide)) ?_
  refine lv_istore (lv' := [(4, .int (nI (d / 3))), (3, .int (nI ((h * 9) + d))), (0, .ref (r 4)), (1, .int (nI h)), (2, .int (nI d))]) hx hb dX0_isForbidden_10 hl (by decide) rfl (fun ls hl => ?_)
  refine lv_iload_n hx hb dX0_isForbidden_12 rfl (lv_at hl 4 rfl) ?_
  refine lv_iconst (v := 3) hx hb dX0_isForbidden_13 (by decide) ?_
  refine lv_irem hx hb dX0_isForbidden_14 (by decide) ?_
  refine w_top (show ((nI d) - (nI d) / 3 * 3) = (nI (d % 3)) from pk_rem (a := d) (d := 3) (by omega) (by decide) (by decide)) ?_
  refine lv_istore (lv' := [(5, .int (nI (d % 3))), (4, .int (nI (d / 3))), (3, .int (nI ((h * 9) + d))), (0, .ref (r 4)), (1, .int (nI h)), (2, .int (nI d))]) hx hb dX0_isForbidden_15 hl (by decide) rfl (fun ls hl => ?_)
  refine lv_aload_n hx hb dX0_isForbidden_17 rfl (lv_at hl 3 rfl) ?_
  refine va_get (D := E.1) (ci := 0) (v := .ref (r 2)) (C := RX0) (T := TX0) (N := 9) hx hb hts (fun _ h => (List.mem_cons_of_mem _ (List.mem_append_left _ (List.mem_append_left _ (List.mem_append_right _ h))))) hown hK.1 hP 0 rfl rfl 1 (by decide) (hts _ (List.mem_of_getElem? (i := 1) rfl)) (fun _ h9 => h9) rfl dX0_isForbidden_18 ?_
  refine lv_iload hx hb dX0_isForbidden_21 (lv_at hl 1 rfl) ?_
  refine lv_iload_n hx hb dX0_isForbidden_23 rfl (lv_at hl 4 rfl) ?_
  refine cR_VN ⟨hx, hb, hml, hown, hts⟩ (c_X2_canBe l E (r 2) (r 16) (fun k => v (10 + k)) (f 16) (nI (d / 3)) h (by omega)) ⟨(va_cnB 2 hts gX0_isForbidden_X2_canBe_n90 rfl rfl rfl (hK.2.2 (RX0, 90, yX2_canBe) (List.mem_of_getElem? (i := 7) rfl)) (hts _ (List.mem_of_getElem? (i := 11) rfl)) (by decide +kernel) ⟨Nat.le_of_ble_eq_true rfl, Nat.le_of_ble_eq_true rfl⟩), (hts _ (List.mem_of_getElem? (i := 10) rfl)), (hts _ (List.mem_of_getElem? (i := 12) rfl))⟩ hK (hP.sub (ws' := KW E (r 2) (r 16) (fun k => v (10 + k)) (f 16)) [2, 7] rfl) 2 0 rfl rfl rfl hl.1 rfl (Nat.le_of_ble_eq_true rfl) dX0_isForbidden_24 ⟨Nat.le_of_ble_eq_true rfl, Nat.le_of_ble_eq_true rfl⟩ ?_
  refine b_if_eq (q := (k_canBe (f 16) (nI (d / 3)) h)) (tgt := 43) hx hb dX0_isForbidden_27 (by decide) (fun c_1 => ?_) (fun c_1 => ?_)
  · skip
    refine lv_iconst (v := 1) hx hb dX0_isForbidden_43 (by decide) ?_
    exact z_ret hx hb hr hlocks rfl (bI_t (Or.inl (fun z => c_1 z.1))).symm dX0_isForbidden_44
  · skip
    refine lv_aload_n hx hb dX0_isForbidden_30 rfl (lv_at hl 3 rfl) ?_
    refine va_get (D := E.1) (ci := 0) (v := .ref (r 3)) (C := RX0) (T := TX0) (N := 9) hx hb hts (fun _ h => (List.mem_cons_of_mem _ (List.mem_append_left _ (List.mem_append_left _ (List.mem_append_right _ h))))) hown hK.1 hP 0 rfl rfl 2 (by decide) (hts _ (List.mem_of_getElem? (i := 2) rfl)) (fun _ h9 => h9) rfl dX0_isForbidden_31 ?_
    refine lv_iload hx hb dX0_isForbidden_34 (lv_at hl 0 rfl) ?_
    refine lv_iload_n hx hb dX0_isForbidden_36 rfl (lv_at hl 4 rfl) ?_
    refine cR_VN ⟨hx, hb, hml, hown, hts⟩ (c_X2_canBe l E (r 3) (r 17) (fun k => v (20 + k)) (f 17) (nI (d % 3)) h (by omega)) ⟨(va_cnB 2 hts gX0_isForbidden_X2_canBe_n90 rfl rfl rfl (hK.2.2 (RX0, 90, yX2_canBe) (List.mem_of_getElem? (i := 7) rfl)) (hts _ (List.mem_of_getElem? (i := 11) rfl)) (by decide +kernel) ⟨Nat.le_of_ble_eq_true rfl, Nat.le_of_ble_eq_true rfl⟩), (hts _ (List.mem_of_getElem? (i := 10) rfl)), (hts _ (List.mem_of_getElem? (i := 12) rfl))⟩ hK (hP.sub (ws' := KW E (r 3) (r 17) (fun k => v (20 + k)) (f 17)) [3, 8] rfl) 2 0 rfl rfl rfl hl.1 rfl (Nat.le_of_ble_eq_true rfl) dX0_isForbidden_37 ⟨Nat.le_of_ble_eq_true rfl, Nat.le_of_ble_eq_true rfl⟩ ?_
    refine b_if_ne (q := (k_canBe (f 17) (nI (d % 3)) h)) (tgt := 45) hx hb dX0_isForbidden_40 (by decide) (fun c_2 => ?_) (fun c_2 => ?_)
    · skip
      refine lv_aload_n hx hb dX0_isForbidden_45 rfl (lv_at hl 3 rfl) ?_
      refine va_get (D := E.1) (ci := 0) (v := .ref (r 19)) (C := RX0) (T := TX0) (N := 9) hx hb hts (fun _ h => (List.mem_cons_of_mem _ (List.mem_append_left _ (List.mem_append_left _ (List.mem_append_right _ h))))) hown hK.1 hP 0 rfl rfl 4 (by decide) (hts _ (List.mem_of_getElem? (i := 3) rfl)) (fun _ h9 => h9) rfl dX0_isForbidden_46 ?_
      refine lv_iload_n hx hb dX0_isForbidden_49 rfl (lv_at hl 2 rfl) ?_
      refine n_iald (f := f 19) hx hb hK.1 hP 10 0 rfl rfl (i := (h * 9) + d) (by omega) (by decide) dX0_isForbidden_50 ?_
      refine va_mabs hx hb (hml.trans hl.1.symm) hown (hts _ (List.mem_of_getElem? (i := 4) rfl)) (hts _ (List.mem_of_getElem? (i := 5) rfl)) (hts _ (List.mem_of_getElem? (i := 6) rfl)) (hts _ (List.mem_of_getElem? (i := 7) rfl)) (Nat.le_of_ble_eq_true rfl) (Nat.le_of_ble_eq_true rfl) (Nat.le_of_ble_eq_true rfl) (Nat.le_of_ble_eq_true rfl) dX0_isForbidden_51 ?_
      refine lv_aload_n hx hb dX0_isForbidden_54 rfl (lv_at hl 3 rfl) ?_
      refine va_get (D := E.1) (ci := 0) (v := .ref (r 1)) (C := RX0) (T := TX0) (N := 9) hx hb hts (fun _ h => (List.mem_cons_of_mem _ (List.mem_append_left _ (List.mem_append_left _ (List.mem_append_right _ h))))) hown hK.1 hP 0 rfl rfl 0 (by decide) (hts _ (List.mem_of_getElem? (i := 8) rfl)) (fun _ h9 => h9) rfl dX0_isForbidden_55 ?_
      refine va_getN (D := E.1) (ci := 1) (v := .int (v 2)) (C := RX1) (T := TX1) (N := 9) (host := "TwoLakes") (ref := RX1) hx hb hts (fun _ h => (List.mem_cons_of_mem _ (List.mem_append_left _ (List.mem_append_right _ h)))) hown hK.1 hP 1 rfl rfl 2 (by decide) (va_Nw.use rfl (hK.2.1 (RX0, 96, RX1, "upperSpeed", "I") (List.mem_of_getElem? (i := 3) rfl))) (fun _ h9 => h9) rfl dX0_isForbidden_58 ?_
      refine lv_icmp_gt (tgt := 83) hx hb dX0_isForbidden_61 (by decide) (fun c_3 => ?_) (fun c_3 => ?_)
      · skip
        refine lv_iconst (v := 1) hx hb dX0_isForbidden_83 (by decide) ?_
        exact z_ret hx hb hr hlocks rfl (bI_t (Or.inr (Or.inl (Or.inl c_3)))).symm dX0_isForbidden_84
      · skip
        refine lv_aload_n hx hb dX0_isForbidden_64 rfl (lv_at hl 3 rfl) ?_
        refine va_get (D := E.1) (ci := 0) (v := .ref (r 20)) (C := RX0) (T := TX0) (N := 9) hx hb hts (fun _ h => (List.mem_cons_of_mem _ (List.mem_append_left _ (List.mem_append_left _ (List.mem_append_right _ h))))) hown hK.1 hP 0 rfl rfl 5 (by decide) (hts _ (List.mem_of_getElem? (i := 9) rfl)) (fun _ h9 => h9) rfl dX0_isForbidden_65 ?_
        refine lv_iload_n hx hb dX0_isForbidden_68 rfl (lv_at hl 2 rfl) ?_
        refine n_iald (f := f 20) hx hb hK.1 hP 11 0 rfl rfl (i := (h * 9) + d) (by omega) (by decide) dX0_isForbidden_69 ?_
        refine va_mabs hx hb (hml.trans hl.1.symm) hown (hts _ (List.mem_of_getElem? (i := 4) rfl)) (hts _ (List.mem_of_getElem? (i := 5) rfl)) (hts _ (List.mem_of_getElem? (i := 6) rfl)) (hts _ (List.mem_of_getElem? (i := 7) rfl)) (Nat.le_of_ble_eq_true rfl) (Nat.le_of_ble_eq_true rfl) (Nat.le_of_ble_eq_true rfl) (Nat.le_of_ble_eq_true rfl) dX0_isForbidden_70 ?_
        refine lv_aload_n hx hb dX0_isForbidden_73 rfl (lv_at hl 3 rfl) ?_
        refine va_get (D := E.1) (ci := 0) (v := .ref (r 1)) (C := RX0) (T := TX0) (N := 9) hx hb hts (fun _ h => (List.mem_cons_of_mem _ (List.mem_append_left _ (List.mem_append_left _ (List.mem_append_right _ h))))) hown hK.1 hP 0 rfl rfl 0 (by decide) (hts _ (List.mem_of_getElem? (i := 8) rfl)) (fun _ h9 => h9) rfl dX0_isForbidden_74 ?_
        refine va_getN (D := E.1) (ci := 1) (v := .int (v 3)) (C := RX1) (T := TX1) (N := 9) (host := "TwoLakes") (ref := RX1) hx hb hts (fun _ h => (List.mem_cons_of_mem _ (List.mem_append_left _ (List.mem_append_right _ h)))) hown hK.1 hP 1 rfl rfl 3 (by decide) (va_Nw.use rfl (hK.2.1 (RX0, 100, RX1, "lowerSpeed", "I") (List.mem_of_getElem? (i := 5) rfl))) (fun _ h9 => h9) rfl dX0_isForbidden_77 ?_
        refine lv_icmp_le (tgt := 85) hx hb dX0_isForbidden_80 (by decide) (fun c_4 => ?_) (fun c_4 => ?_)
        · skip
          refine lv_aload_n hx hb dX0_isForbidden_85 rfl (lv_at hl 3 rfl) ?_
          refine va_get (D := E.1) (ci := 0) (v := .ref (r 2)) (C := RX0) (T := TX0) (N := 9) hx hb hts (fun _ h => (List.mem_cons_of_mem _ (List.mem_append_left _ (List.mem_append_left _ (List.mem_append_right _ h))))) hown hK.1 hP 0 rfl rfl 1 (by decide) (hts _ (List.mem_of_getElem? (i := 1) rfl)) (fun _ h9 => h9) rfl dX0_isForbidden_86 ?_
          refine lv_iload hx hb dX0_isForbidden_89 (lv_at hl 1 rfl) ?_
          refine lv_iload_n hx hb dX0_isForbidden_91 rfl (lv_at hl 4 rfl) ?_
          refine cR_VN ⟨hx, hb, hml, hown, hts⟩ (c_X2_backup l E (r 2) (r 16) (fun k => v (10 + k)) (f 16) (nI (d / 3)) h (by omega)) ⟨(va_cnB 2 hts gX0_isForbidden_X2_backup_n103 rfl rfl rfl (hK.2.2 (RX0, 103, yX2_backup) (List.mem_of_getElem? (i := 8) rfl)) (hts _ (List.mem_of_getElem? (i := 11) rfl)) (by decide +kernel) ⟨Nat.le_of_ble_eq_true rfl, Nat.le_of_ble_eq_true rfl⟩), (hts _ (List.mem_of_getElem? (i := 15) rfl)), (hts _ (List.mem_of_getElem? (i := 16) rfl))⟩ hK (hP.sub (ws' := KW E (r 2) (r 16) (fun k => v (10 + k)) (f 16)) [2, 7] rfl) 2 0 rfl rfl rfl hl.1 rfl (Nat.le_of_ble_eq_true rfl) dX0_isForbidden_92 ⟨Nat.le_of_ble_eq_true rfl, Nat.le_of_ble_eq_true rfl⟩ ?_
          refine lv_aload_n hx hb dX0_isForbidden_95 rfl (lv_at hl 3 rfl) ?_
          refine va_get (D := E.1) (ci := 0) (v := .ref (r 3)) (C := RX0) (T := TX0) (N := 9) hx hb hts (fun _ h => (List.mem_cons_of_mem _ (List.mem_append_left _ (List.mem_append_left _ (List.mem_append_right _ h))))) hown hK.1 hP 0 rfl rfl 2 (by decide) (hts _ (List.mem_of_getElem? (i := 2) rfl)) (fun _ h9 => h9) rfl dX0_isForbidden_96 ?_
          refine lv_iload hx hb dX0_isForbidden_99 (lv_at hl 0 rfl) ?_
          refine lv_iload_n hx hb dX0_isForbidden_101 rfl (lv_at hl 4 rfl) ?_
          refine cR_VN ⟨hx, hb, hml, hown, hts⟩ (c_X2_backup l E (r 3) (r 17) (fun k => v (20 + k)) (f 17) (nI (d % 3)) h (by omega)) ⟨(va_cnB 2 hts gX0_isForbidden_X2_backup_n103 rfl rfl rfl (hK.2.2 (RX0, 103, yX2_backup) (List.mem_of_getElem? (i := 8) rfl)) (hts _ (List.mem_of_getElem? (i := 11) rfl)) (by decide +kernel) ⟨Nat.le_of_ble_eq_true rfl, Nat.le_of_ble_eq_true rfl⟩), (hts _ (List.mem_of_getElem? (i := 15) rfl)), (hts _ (List.mem_of_getElem? (i := 16) rfl))⟩ hK (hP.sub (ws' := KW E (r 3) (r 17) (fun k => v (20 + k)) (f 17)) [3, 8] rfl) 2 0 rfl rfl rfl hl.1 rfl (Nat.le_of_ble_eq_true rfl) dX0_isForbidden_102 ⟨Nat.le_of_ble_eq_true rfl, Nat.le_of_ble_eq_true rfl⟩ ?_
          refine lv_iadd hx hb dX0_isForbidden_105 ?_
          refine lv_aload_n hx hb dX0_isForbidden_106 rfl (lv_at hl 3 rfl) ?_
          refine va_get (D := E.1) (ci := 0) (v := .ref (r 1)) (C := RX0) (T := TX0) (N := 9) hx hb hts (fun _ h => (List.mem_cons_of_mem _ (List.mem_append_left _ (List.mem_append_left _ (List.mem_append_right _ h))))) hown hK.1 hP 0 rfl rfl 0 (by decide) (hts _ (List.mem_of_getElem? (i := 8) rfl)) (fun _ h9 => h9) rfl dX0_isForbidden_107 ?_
          refine va_getN (D := E.1) (ci := 1) (v := .ref (r 15)) (C := RX1) (T := TX1) (N := 9) (host := "TwoLakes") (ref := RX1) hx hb hts (fun _ h => (List.mem_cons_of_mem _ (List.mem_append_left _ (List.mem_append_right _ h)))) hown hK.1 hP 1 rfl rfl 8 (by decide) (va_Nw.use rfl (hK.2.1 (RX0, 106, RX1, "promised", "[I") (List.mem_of_getElem? (i := 12) rfl))) (fun _ h9 => h9) rfl dX0_isForbidden_110 ?_
          refine lv_iload_n hx hb dX0_isForbidden_113 rfl (lv_at hl 4 rfl) ?_
          refine n_iald (f := f 15) hx hb hK.1 hP 6 0 rfl rfl (i := h) (by omega) (by decide) dX0_isForbidden_114 ?_
          refine lv_icmp_ge (tgt := 122) hx hb dX0_isForbidden_115 (by decide) (fun c_5 => ?_) (fun c_5 => ?_)
          · skip
            refine lv_iconst (v := 0) hx hb dX0_isForbidden_122 (by decide) ?_
            exact z_ret hx hb hr hlocks rfl (bI_f (fun z => z.elim (fun q => q ⟨c_1, c_2⟩) (fun q => q.elim (fun q => q.elim c_3 (fun q => q c_4)) (fun q => q c_5)))).symm dX0_isForbidden_123
          · skip
            refine lv_iconst (v := 1) hx hb dX0_isForbidden_118 (by decide) ?_
            refine lv_goto (tgt := 123) hx hb dX0_isForbidden_119 (by decide) ?_
            exact z_ret hx hb hr hlocks rfl (bI_t (Or.inr (Or.inr c_5))).symm dX0_isForbidden_123
        · skip
          refine lv_iconst (v := 1) hx hb dX0_isForbidden_83 (by decide) ?_
          exact z_ret hx hb hr hlocks rfl (bI_t (Or.inr (Or.inl (Or.inr c_4)))).symm dX0_isForbidden_84
    · skip
      refine lv_iconst (v := 1) hx hb dX0_isForbidden_43 (by decide) ?_
      exact z_ret hx hb hr hlocks rfl (bI_t (Or.inl (fun z => c_2 z.2))).symm dX0_isForbidden_44
