set_option maxHeartbeats 4000000 in
set_option maxRecDepth 100000 in
theorem c_X4_count (l : Launch) (E : GG) (r z : Nat → Nat) (v : Nat → Int32) (f : Nat → Nat → Int32) (sz : Nat) (x : Int32)  : Met l yX4_count wsX4_count (Rm 0 0 0) (pM E [.ref (r 0), .int x] (CZ E r z v f) sz) (va_Qi (fun (y : Int32) (u : CS) => y = n_count (c_cnt v) x ∧ u = (z, v, f)) (bM E (va_A (CZ E r z v f) sz) (fun (u : CS) => CZ E r u.1 u.2.1 u.2.2)) (va_A (CZ E r z v f) sz)) 0 0 (va_A (CZ E r z v f) sz) := by
  refine ofM (by decide) rfl (Nat.le_of_ble_eq_true rfl) ?_
  intro p e s m below meth c A hx hb hr hlocks hml hown hin hts hK hP hD hS hA hsz hAe ls hl
  rw [← hAe]
  have hl : lv_has ls 2 [(0, .ref (r 0)), (1, .int x)] := hl
  refine lv_iload_n hx hb dX4_count_0 rfl (lv_at hl 1 rfl) ?_
  rcases sw8 x with hsw | rfl | rfl | rfl | rfl | rfl | rfl | rfl | rfl | rfl
  · skip
    refine lv_tableOut (tgt := 115) hx hb dX4_count_1 hsw (by decide) ?_
    refine lv_iconst (v := (-1)) hx hb dX4_count_115 (by decide) ?_
    exact q_ret ((z, v, f) : CS) hx hb hr hlocks ⟨(if_pos hsw).symm, rfl⟩ hP hD hS dX4_count_116
  · skip
    refine lv_tableIn (off := 51) (tgt := 52) hx hb dX4_count_1 (by decide) (by decide) rfl (by decide) ?_
    refine lv_aload_n hx hb dX4_count_52 rfl (lv_at hl 0 rfl) ?_
    refine va_get (D := E.1) (ci := 4) (v := .int (v 32)) (C := RX4) (T := TX4) (N := 13) hx hb hts (fun _ h => (List.mem_cons_of_mem _ (List.mem_append_left _ (List.mem_append_left _ (List.mem_append_right _ h))))) hown hK.1 hP 15 rfl rfl 11 (by decide) (hts _ (List.mem_of_getElem? (i := 1) rfl)) (fun _ h9 => h9) rfl dX4_count_53 ?_
    exact q_ret ((z, v, f) : CS) hx hb hr hlocks ⟨by rw [n_count, if_neg (by decide)]; rfl, rfl⟩ hP hD hS dX4_count_56
  · skip
    refine lv_tableIn (off := 56) (tgt := 57) hx hb dX4_count_1 (by decide) (by decide) rfl (by decide) ?_
    refine lv_aload_n hx hb dX4_count_57 rfl (lv_at hl 0 rfl) ?_
    refine va_get (D := E.1) (ci := 4) (v := .ref (r 1)) (C := RX4) (T := TX4) (N := 13) hx hb hts (fun _ h => (List.mem_cons_of_mem _ (List.mem_append_left _ (List.mem_append_left _ (List.mem_append_right _ h))))) hown hK.1 hP 15 rfl rfl 0 (by decide) (hts _ (List.mem_of_getElem? (i := 2) rfl)) (fun _ h9 => h9) rfl dX4_count_58 ?_
    refine va_getN (D := E.1) (ci := 1) (v := .int (v 4)) (C := RX1) (T := TX1) (N := 9) (host := "TwoLakes") (ref := RX1) hx hb hts (fun _ h => (List.mem_cons_of_mem _ (List.mem_append_left _ (List.mem_append_right _ h)))) hown hK.1 hP 1 rfl rfl 4 (by decide) (va_Nw.use rfl (hK.2.1 (RX4, 86, RX1, "upper", "I") (List.mem_of_getElem? (i := 6) rfl))) (fun _ h9 => h9) rfl dX4_count_61 ?_
    exact q_ret ((z, v, f) : CS) hx hb hr hlocks ⟨by rw [n_count, if_neg (by decide)]; rfl, rfl⟩ hP hD hS dX4_count_64
  · skip
    refine lv_tableIn (off := 64) (tgt := 65) hx hb dX4_count_1 (by decide) (by decide) rfl (by decide) ?_
    refine lv_aload_n hx hb dX4_count_65 rfl (lv_at hl 0 rfl) ?_
    refine va_get (D := E.1) (ci := 4) (v := .ref (r 1)) (C := RX4) (T := TX4) (N := 13) hx hb hts (fun _ h => (List.mem_cons_of_mem _ (List.mem_append_left _ (List.mem_append_left _ (List.mem_append_right _ h))))) hown hK.1 hP 15 rfl rfl 0 (by decide) (hts _ (List.mem_of_getElem? (i := 2) rfl)) (fun _ h9 => h9) rfl dX4_count_66 ?_
    refine va_getN (D := E.1) (ci := 1) (v := .int (v 5)) (C := RX1) (T := TX1) (N := 9) (host := "TwoLakes") (ref := RX1) hx hb hts (fun _ h => (List.mem_cons_of_mem _ (List.mem_append_left _ (List.mem_append_right _ h)))) hown hK.1 hP 1 rfl rfl 5 (by decide) (va_Nw.use rfl (hK.2.1 (RX4, 89, RX1, "lower", "I") (List.mem_of_getElem? (i := 7) rfl))) (fun _ h9 => h9) rfl dX4_count_69 ?_
    exact q_ret ((z, v, f) : CS) hx hb hr hlocks ⟨by rw [n_count, if_neg (by decide)]; rfl, rfl⟩ hP hD hS dX4_count_72
  · skip
    refine lv_tableIn (off := 72) (tgt := 73) hx hb dX4_count_1 (by decide) (by decide) rfl (by decide) ?_
    refine lv_aload_n hx hb dX4_count_73 rfl (lv_at hl 0 rfl) ?_
    refine va_get (D := E.1) (ci := 4) (v := .ref (r 2)) (C := RX4) (T := TX4) (N := 13) hx hb hts (fun _ h => (List.mem_cons_of_mem _ (List.mem_append_left _ (List.mem_append_left _ (List.mem_append_right _ h))))) hown hK.1 hP 15 rfl rfl 1 (by decide) (hts _ (List.mem_of_getElem? (i := 3) rfl)) (fun _ h9 => h9) rfl dX4_count_74 ?_
    refine va_getN (D := E.1) (ci := 2) (v := .int (v 15)) (C := RX2) (T := TX2) (N := 8) (host := "TwoLakes") (ref := RX2) hx hb hts (fun _ h => (List.mem_cons_of_mem _ (List.mem_append_right _ h))) hown hK.1 hP 2 rfl rfl 5 (by decide) (va_Nw.use rfl (hK.2.1 (RX4, 177, RX2, "mode", "I") (List.mem_of_getElem? (i := 20) rfl))) (fun _ h9 => h9) rfl dX4_count_77 ?_
    exact q_ret ((z, v, f) : CS) hx hb hr hlocks ⟨by rw [n_count, if_neg (by decide)]; rfl, rfl⟩ hP hD hS dX4_count_80
  · skip
    refine lv_tableIn (off := 80) (tgt := 81) hx hb dX4_count_1 (by decide) (by decide) rfl (by decide) ?_
    refine lv_aload_n hx hb dX4_count_81 rfl (lv_at hl 0 rfl) ?_
    refine va_get (D := E.1) (ci := 4) (v := .ref (r 3)) (C := RX4) (T := TX4) (N := 13) hx hb hts (fun _ h => (List.mem_cons_of_mem _ (List.mem_append_left _ (List.mem_append_left _ (List.mem_append_right _ h))))) hown hK.1 hP 15 rfl rfl 2 (by decide) (hts _ (List.mem_of_getElem? (i := 4) rfl)) (fun _ h9 => h9) rfl dX4_count_82 ?_
    refine va_getN (D := E.1) (ci := 2) (v := .int (v 25)) (C := RX2) (T := TX2) (N := 8) (host := "TwoLakes") (ref := RX2) hx hb hts (fun _ h => (List.mem_cons_of_mem _ (List.mem_append_right _ h))) hown hK.1 hP 3 rfl rfl 5 (by decide) (va_Nw.use rfl (hK.2.1 (RX4, 177, RX2, "mode", "I") (List.mem_of_getElem? (i := 20) rfl))) (fun _ h9 => h9) rfl dX4_count_85 ?_
    exact q_ret ((z, v, f) : CS) hx hb hr hlocks ⟨by rw [n_count, if_neg (by decide)]; rfl, rfl⟩ hP hD hS dX4_count_88
  · skip
    refine lv_tableIn (off := 88) (tgt := 89) hx hb dX4_count_1 (by decide) (by decide) rfl (by decide) ?_
    refine lv_aload_n hx hb dX4_count_89 rfl (lv_at hl 0 rfl) ?_
    refine va_get (D := E.1) (ci := 4) (v := .int (v 33)) (C := RX4) (T := TX4) (N := 13) hx hb hts (fun _ h => (List.mem_cons_of_mem _ (List.mem_append_left _ (List.mem_append_left _ (List.mem_append_right _ h))))) hown hK.1 hP 15 rfl rfl 12 (by decide) (hts _ (List.mem_of_getElem? (i := 5) rfl)) (fun _ h9 => h9) rfl dX4_count_90 ?_
    exact q_ret ((z, v, f) : CS) hx hb hr hlocks ⟨by rw [n_count, if_neg (by decide)]; rfl, rfl⟩ hP hD hS dX4_count_93
  · skip
    refine lv_tableIn (off := 93) (tgt := 94) hx hb dX4_count_1 (by decide) (by decide) rfl (by decide) ?_
    refine lv_aload_n hx hb dX4_count_94 rfl (lv_at hl 0 rfl) ?_
    refine va_get (D := E.1) (ci := 4) (v := .ref (r 2)) (C := RX4) (T := TX4) (N := 13) hx hb hts (fun _ h => (List.mem_cons_of_mem _ (List.mem_append_left _ (List.mem_append_left _ (List.mem_append_right _ h))))) hown hK.1 hP 15 rfl rfl 1 (by decide) (hts _ (List.mem_of_getElem? (i := 3) rfl)) (fun _ h9 => h9) rfl dX4_count_95 ?_
    refine va_getN (D := E.1) (ci := 2) (v := .int (v 16)) (C := RX2) (T := TX2) (N := 8) (host := "TwoLakes") (ref := RX2) hx hb hts (fun _ h => (List.mem_cons_of_mem _ (List.mem_append_right _ h))) hown hK.1 hP 2 rfl rfl 6 (by decide) (va_Nw.use rfl (hK.2.1 (RX4, 180, RX2, "starts", "I") (List.mem_of_getElem? (i := 21) rfl))) (fun _ h9 => h9) rfl dX4_count_98 ?_
    exact q_ret ((z, v, f) : CS) hx hb hr hlocks ⟨by rw [n_count, if_neg (by decide)]; rfl, rfl⟩ hP hD hS dX4_count_101
  · skip
    refine lv_tableIn (off := 101) (tgt := 102) hx hb dX4_count_1 (by decide) (by decide) rfl (by decide) ?_
    refine lv_aload_n hx hb dX4_count_102 rfl (lv_at hl 0 rfl) ?_
    refine va_get (D := E.1) (ci := 4) (v := .ref (r 3)) (C := RX4) (T := TX4) (N := 13) hx hb hts (fun _ h => (List.mem_cons_of_mem _ (List.mem_append_left _ (List.mem_append_left _ (List.mem_append_right _ h))))) hown hK.1 hP 15 rfl rfl 2 (by decide) (hts _ (List.mem_of_getElem? (i := 4) rfl)) (fun _ h9 => h9) rfl dX4_count_103 ?_
    refine va_getN (D := E.1) (ci := 2) (v := .int (v 26)) (C := RX2) (T := TX2) (N := 8) (host := "TwoLakes") (ref := RX2) hx hb hts (fun _ h => (List.mem_cons_of_mem _ (List.mem_append_right _ h))) hown hK.1 hP 3 rfl rfl 6 (by decide) (va_Nw.use rfl (hK.2.1 (RX4, 180, RX2, "starts", "I") (List.mem_of_getElem? (i := 21) rfl))) (fun _ h9 => h9) rfl dX4_count_106 ?_
    exact q_ret ((z, v, f) : CS) hx hb hr hlocks ⟨by rw [n_count, if_neg (by decide)]; rfl, rfl⟩ hP hD hS dX4_count_109
  · skip
    refine lv_tableIn (off := 109) (tgt := 110) hx hb dX4_count_1 (by decide) (by decide) rfl (by decide) ?_
    refine lv_aload_n hx hb dX4_count_110 rfl (lv_at hl 0 rfl) ?_
    refine va_get (D := E.1) (ci := 4) (v := .int (v 30)) (C := RX4) (T := TX4) (N := 13) hx hb hts (fun _ h => (List.mem_cons_of_mem _ (List.mem_append_left _ (List.mem_append_left _ (List.mem_append_right _ h))))) hown hK.1 hP 15 rfl rfl 9 (by decide) (hts _ (List.mem_of_getElem? (i := 6) rfl)) (fun _ h9 => h9) rfl dX4_count_111 ?_
    exact q_ret ((z, v, f) : CS) hx hb hr hlocks ⟨by rw [n_count, if_neg (by decide)]; rfl, rfl⟩ hP hD hS dX4_count_114
