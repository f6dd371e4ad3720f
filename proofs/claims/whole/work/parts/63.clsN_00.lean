/-- a doing is open now; it is legal now; its money; the numbers behind it -/
def cOpen (v : Nat → Int32) (f : Nat → Nat → Int32) (nw d : Nat) : Prop := ¬ v 4 < d_lo v f nw (v 4 + v 5) d ∧ ¬ d_hi v f nw (v 4 + v 5) d < v 4
def cLegal (v : Nat → Int32) (f : Nat → Nat → Int32) (nw m d : Nat) : Prop := ¬ d_cost v m d = -1 ∧ cOpen v f nw d
noncomputable def cMon (v : Nat → Int32) (f : Nat → Nat → Int32) (w nw m d : Nat) : Int32 := f (24 + w) nw * d_en v d - d_cost v m d
noncomputable def cDoV (v : Nat → Int32) (f : Nat → Nat → Int32) (w nw m d : Nat) : Nat → Int32 := upd (upd (upd (upd (upd (upd (upd (upd v 4 (v 4 + d_sh v f nw d)) 5 (v 5 + d_sl v f nw d)) 16 (cI (k_start (v 15) (nI (d / 3))) (v 16 + 1) (v 16))) 15 (nI (d / 3))) 26 (cI (k_start (v 25) (nI (d % 3))) (v 26 + 1) (v 26))) 25 (nI (d % 3))) 33 (v 33 + cMon v f w nw m d)) 32 (nI (nw + 1))
theorem turn_eq (g : Nat → Int32) (q : Prop) (x a : Int32) : upd (cI q (upd g 6 x) g) 5 a = fun k => if k = 5 then a else if k = 6 then cI q x (g 6) else g k := by
  funext k
  show (if k = 5 then a else (cI q (upd g 6 x) g) k) = _
  by_cases h5 : k = 5
  · rw [if_pos h5, if_pos h5]
  · rw [if_neg h5, if_neg h5]
    by_cases hq : q
    · rw [cI_t hq]
      show (if k = 6 then x else g k) = _
      rw [cI_t hq]
    · rw [cI_f hq]
      by_cases h6 : k = 6
      · rw [if_pos h6, cI_f hq, h6]
      · rw [if_neg h6]
theorem look18 {v : Nat → Int32} {f : Nat → Nat → Int32} {h d : Nat} {t : Int32} (hd : d < 9) : lookF v f h t 9 18 (h * 9 + d) = d_en v d := rowH_in hd
theorem look19 {v : Nat → Int32} {f : Nat → Nat → Int32} {h d : Nat} {t : Int32} (hd : d < 9) : lookF v f h t 9 19 (h * 9 + d) = d_sh v f h d := rowH_in hd
theorem look20 {v : Nat → Int32} {f : Nat → Nat → Int32} {h d : Nat} {t : Int32} (hd : d < 9) : lookF v f h t 9 20 (h * 9 + d) = d_sl v f h d := rowH_in hd
theorem look21 {v : Nat → Int32} {f : Nat → Nat → Int32} {h d : Nat} {t : Int32} (hd : d < 9) : lookF v f h t 9 21 (h * 9 + d) = d_lo v f h t d := rowH_in hd
theorem look22 {v : Nat → Int32} {f : Nat → Nat → Int32} {h d : Nat} {t : Int32} (hd : d < 9) : lookF v f h t 9 22 (h * 9 + d) = d_hi v f h t d := rowH_in hd
set_option maxHeartbeats 4000000 in
set_option maxRecDepth 100000 in
theorem c_X4_isLegalNow (l : Launch) (E : GG) (r z : Nat → Nat) (v : Nat → Int32) (f : Nat → Nat → Int32) (sz : Nat) (d : Nat) (nw m0 m1 : Nat) (hnw : v 32 = nI nw) (hn24 : nw < 24) (hm0 : v 15 = nI m0) (h03 : m0 < 3) (hm1 : v 25 = nI m1) (h13 : m1 < 3) (hd : d < 9) : Met l yX4_isLegalNow wsX4_isLegalNow (Rm 3 0 0) (pM E [.ref (r 0), .int (nI d)] (CZ E r z v f) sz) (va_Qi (fun (x : Int32) (u : CS) => x = bI (cLegal v f nw (m0 * 3 + m1) d) ∧ u = (z, v, lookF v f nw (v 4 + v 5) 9)) (bM E (va_A (CZ E r z v f) sz) (fun (u : CS) => CZ E r u.1 u.2.1 u.2.2)) (va_A (CZ E r z v f) sz)) 0 0 (va_A (CZ E r z v f) sz) := by
  refine ofM (by decide) rfl (Nat.le_of_ble_eq_true rfl) ?_
  intro p e s m below meth c A hx hb hr hlocks hml hown hin hts hK hP hD hS hA hsz hAe ls hl
  rw [← hAe]
  have hl : lv_has ls 3 [(0, .ref (r 0)), (1, .int (nI d))] := hl
  refine lv_aload_n hx hb dX4_isLegalNow_0 rfl (lv_at hl 0 rfl) ?_
  refine va_get (D := E.1) (ci := 4) (v := .ref (r 4)) (C := RX4) (T := TX4) (N := 13) hx hb hts (fun _ h => (List.mem_cons_of_mem _ (List.mem_append_left _ (List.mem_append_left _ (List.mem_append_left _ (List.mem_append_right _ h)))))) hown hK.1 hP 15 rfl rfl 3 (by decide) (hts _ (List.mem_of_getElem? (i := 1) rfl)) (fun _ h9 => h9) rfl dX4_isLegalNow_1 ?_
  refine lv_aload_n hx hb dX4_isLegalNow_4 rfl (lv_at hl 0 rfl) ?_
  refine va_get (D := E.1) (ci := 4) (v := .int (v 32)) (C := RX4) (T := TX4) (N := 13) hx hb hts (fun _ h => (List.mem_cons_of_mem _ (List.mem_append_left _ (List.mem_append_left _ (List.mem_append_left _ (List.mem_append_right _ h)))))) hown hK.1 hP 15 rfl rfl 11 (by decide) (hts _ (List.mem_of_getElem? (i := 2) rfl)) (fun _ h9 => h9) rfl dX4_isLegalNow_5 ?_
  refine w_top (show (v 32) = nI nw from hnw) ?_
  refine lv_aload_n hx hb dX4_isLegalNow_8 rfl (lv_at hl 0 rfl) ?_
  refine va_get (D := E.1) (ci := 4) (v := .ref (r 1)) (C := RX4) (T := TX4) (N := 13) hx hb hts (fun _ h => (List.mem_cons_of_mem _ (List.mem_append_left _ (List.mem_append_left _ (List.mem_append_left _ (List.mem_append_right _ h)))))) hown hK.1 hP 15 rfl rfl 0 (by decide) (hts _ (List.mem_of_getElem? (i := 3) rfl)) (fun _ h9 => h9) rfl dX4_isLegalNow_9 ?_
  refine va_getN (D := E.1) (ci := 1) (v := .int (v 4)) (C := RX1) (T := TX1) (N := 9) (host := "TwoLakes") (ref := RX1) hx hb hts (fun _ h => (List.mem_cons_of_mem _ (List.mem_append_left _ (List.mem_append_left _ (List.mem_append_right _ h))))) hown hK.1 hP 1 rfl rfl 4 (by decide) (va_Nw.use rfl (hK.2.1 (RX4, 86, RX1, "upper", "I") (List.mem_of_getElem? (i := 6) rfl))) (fun _ h9 => h9) rfl dX4_isLegalNow_12 ?_
  refine lv_aload_n hx hb dX4_isLegalNow_15 rfl (lv_at hl 0 rfl) ?_
  refine va_get (D := E.1) (ci := 4) (v := .ref (r 1)) (C := RX4) (T := TX4) (N := 13) hx hb hts (fun _ h => (List.mem_cons_of_mem _ (List.mem_append_left _ (List.mem_append_left _ (List.mem_append_left _ (List.mem_append_right _ h)))))) hown hK.1 hP 15 rfl rfl 0 (by decide) (hts _ (List.mem_of_getElem? (i := 3) rfl)) (fun _ h9 => h9) rfl dX4_isLegalNow_16 ?_
  refine va_getN (D := E.1) (ci := 1) (v := .int (v 5)) (C := RX1) (T := TX1) (N := 9) (host := "TwoLakes") (ref := RX1) hx hb hts (fun _ h => (List.mem_cons_of_mem _ (List.mem_append_left _ (List.mem_append_left _ (List.mem_append_right _ h))))) hown hK.1 hP 1 rfl rfl 5 (by decide) (va_Nw.use rfl (hK.2.1 (RX4, 89, RX1, "lower", "I") (List.mem_of_getElem? (i := 7) rfl))) (fun _ h9 => h9) rfl dX4_isLegalNow_19 ?_
  refine lv_iadd hx hb dX4_isLegalNow_22 ?_
  refine cM_v (As := [.ref (r 4), .int (nI nw), .int ((v 4) + (v 5))]) (wr := [((r 0), .inr (4, [.ref (r 1), .ref (r 2), .ref (r 3), .ref (r 4), .ref (r 9), .ref (r 8), .ref (r 10), .ref (r 11), .ref (r 12), .int (v 30), .int (v 31), .int (v 32), .int (v 33)])), ((r 9), .inl (E.2 2, 3, .inr (.inr (.inr (.inr (va_up (va_up (va_up (fun _ => none) 0 (some (r 5))) 1 (some (r 6))) 2 (some (r 7)))))))), ((r 10), .inl (E.2 0, 3, .inl (f 10))), ((r 11), .inl (E.2 0, 41, .inl (f 11))), ((r 12), .inl (E.2 0, 3, .inl (f 12))), ((r 5), .inr (3, [.ref (r 24), .int (v 40), .ref (z 0), .ref (z 4), .ref (r 36)])), ((r 24), .inl (E.2 0, 24, .inl (f 24))), ((z 0), .inl (E.2 0, 369, .inl (f 28))), ((z 4), .inl (E.2 0, 369, .inl (f 32))), ((r 36), .inl (E.2 0, 369, .inl (f 36))), ((r 6), .inr (3, [.ref (r 25), .int (v 41), .ref (z 1), .ref (z 5), .ref (r 37)])), ((r 25), .inl (E.2 0, 24, .inl (f 25))), ((z 1), .inl (E.2 0, 369, .inl (f 29))), ((z 5), .inl (E.2 0, 369, .inl (f 33))), ((r 37), .inl (E.2 0, 369, .inl (f 37))), ((r 7), .inr (3, [.ref (r 26), .int (v 42), .ref (z 2), .ref (z 6), .ref (r 38)])), ((r 26), .inl (E.2 0, 24, .inl (f 26))), ((z 2), .inl (E.2 0, 369, .inl (f 30))), ((z 6), .inl (E.2 0, 369, .inl (f 34))), ((r 38), .inl (E.2 0, 369, .inl (f 38))), ((r 8), .inr (3, [.ref (r 27), .int (v 43), .ref (z 3), .ref (z 7), .ref (r 39)])), ((r 27), .inl (E.2 0, 24, .inl (f 27))), ((z 3), .inl (E.2 0, 369, .inl (f 31))), ((z 7), .inl (E.2 0, 369, .inl (f 35))), ((r 39), .inl (E.2 0, 369, .inl (f 39)))]) (rM_VN ⟨hx, hb, hml, hown, hts⟩ (c_X0_lookAt l E r v f s.heap.size nw ((v 4) + (v 5)) (by omega)) ⟨(va_cnB 2 hts gX4_isLegalNow_X0_lookAt_n183 rfl rfl rfl (hK.2.2 (RX4, 183, yX0_lookAt) (List.mem_of_getElem? (i := 4) rfl)) (hts _ (List.mem_of_getElem? (i := 5) rfl)) (by decide +kernel) ⟨Nat.le_of_ble_eq_true rfl, Nat.le_of_ble_eq_true rfl⟩), (hts _ (List.mem_of_getElem? (i := 4) rfl)), (hts _ (List.mem_of_getElem? (i := 6) rfl))⟩ hK (hP.sub (ws' := DW E r v f) [0, 1, 2, 3, 4, 5, 6, 7, 8, 9, 10, 11, 12, 13, 14] rfl) (hD.sub (ws' := DW E r v f) [0, 1, 2, 3, 4, 5, 6, 7, 8, 9, 10, 11, 12, 13, 14] (by decide) rfl) 0 0 rfl rfl rfl hl.1 rfl (Nat.le_of_ble_eq_true rfl) dX4_isLegalNow_23 ⟨Nat.le_of_ble_eq_true rfl, Nat.le_of_ble_eq_true rfl⟩) hP hD hS hA [0, 1, 2, 3, 4, 5, 6, 7, 8, 9, 10, 11, 12, 13, 14] [15, 16, 17, 18, 19, 20, 21, 22, 23, 24, 25, 26, 27, 28, 29, 30, 31, 32, 33, 34, 35, 36, 37, 38, 39] rfl rfl (by decide) (by decide) (fun u_1 H locs hq_1 hP hD hS => ?_)
  subst hq_1
  have hP := hP.sub (ws' := CZ E r z v (lookF v f nw ((v 4) + (v 5)) 9)) [25, 26, 27, 28, 29, 30, 31, 32, 33, 34, 35, 36, 37, 38, 39, 0, 1, 2, 3, 4, 5, 6, 7, 8, 9, 10, 11, 12, 13, 14, 15, 16, 17, 18, 19, 20, 21, 22, 23, 24] rfl
  have hD := hD.sub (ws' := CZ E r z v (lookF v f nw ((v 4) + (v 5)) 9)) [25, 26, 27, 28, 29, 30, 31, 32, 33, 34, 35, 36, 37, 38, 39, 0, 1, 2, 3, 4, 5, 6, 7, 8, 9, 10, 11, 12, 13, 14, 15, 16, 17, 18, 19, 20, 21, 22, 23, 24] (by decide) rfl
  refine lv_aload_n hx hb dX4_isLegalNow_26 rfl (lv_at hl 0 rfl) ?_
  refine va_get (D := E.1) (ci := 4) (v := .ref (r 4)) (C := RX4) (T := TX4) (N := 13) hx hb hts (fun _ h => (List.mem_cons_of_mem _ (List.mem_append_left _ (List.mem_append_left _ (List.mem_append_left _ (List.mem_append_right _ h)))))) hown hK.1 hP 15 rfl rfl 3 (by decide) (hts _ (List.mem_of_getElem? (i := 1) rfl)) (fun _ h9 => h9) rfl dX4_isLegalNow_27 ?_
  refine lv_aload_n hx hb dX4_isLegalNow_30 rfl (lv_at hl 0 rfl) ?_
  refine cR_V ⟨hx, hb, hml, hown, hts⟩ (c_X4_modesNow l E r v m0 m1 hm0 hm1) (cwV 0 hts gX4_isLegalNow_X4_modesNow rfl rfl rfl (by decide +kernel) ⟨Nat.le_of_ble_eq_true rfl, Nat.le_of_ble_eq_true rfl⟩) hK (hP.sub (ws' := TW E r v) [15, 2, 3] rfl) 4 0 rfl rfl rfl hl.1 rfl (Nat.le_of_ble_eq_true rfl) dX4_isLegalNow_31 ⟨Nat.le_of_ble_eq_true rfl, Nat.le_of_ble_eq_true rfl⟩ ?_
  refine lv_iload_n hx hb dX4_isLegalNow_34 rfl (lv_at hl 1 rfl) ?_
  refine cR_VN ⟨hx, hb, hml, hown, hts⟩ (c_X0_startCost l E r v (lookF v f nw ((v 4) + (v 5)) 9) (m0 * 3 + m1) d (by omega) (by omega)) ⟨(va_cnB 2 hts gX4_isLegalNow_X0_startCost_n191 rfl rfl rfl (hK.2.2 (RX4, 191, yX0_startCost) (List.mem_of_getElem? (i := 12) rfl)) (hts _ (List.mem_of_getElem? (i := 5) rfl)) (by decide +kernel) ⟨Nat.le_of_ble_eq_true rfl, Nat.le_of_ble_eq_true rfl⟩), (hts _ (List.mem_of_getElem? (i := 77) rfl)), (hts _ (List.mem_of_getElem? (i := 78) rfl))⟩ hK (hP.sub (ws' := DW E r v (lookF v f nw ((v 4) + (v 5)) 9)) [0, 1, 2, 3, 4, 5, 6, 7, 8, 9, 10, 11, 12, 13, 14] rfl) 0 0 rfl rfl rfl hl.1 rfl (Nat.le_of_ble_eq_true rfl) dX4_isLegalNow_35 ⟨Nat.le_of_ble_eq_true rfl, Nat.le_of_ble_eq_true rfl⟩ ?_
  refine w_join (fun z9 : Int32 => z9 = bI (¬ (d_cost v (m0 * 3 + m1) d) = -1)) (fun z9 => F0 m 47 ls (.int z9 :: [])) ?_ (fun J47 => ?_)
  · rintro _ rfl
    refine lv_istore_n (lv' := [(2, .int (bI (¬ (d_cost v (m0 * 3 + m1) d) = -1))), (0, .ref (r 0)), (1, .int (nI d))]) hx hb dX4_isLegalNow_47 rfl hl (by decide) rfl (fun ls hl => ?_)
    refine lv_iload_n hx hb dX4_isLegalNow_48 rfl (lv_at hl 0 rfl) ?_
    refine b_if_eq (q := (¬ (d_cost v (m0 * 3 + m1) d) = -1)) (tgt := 82) hx hb dX4_isLegalNow_49 (by decide) (fun c_2 => ?_) (fun c_2 => ?_)
    · skip
      refine lv_iconst (v := 0) hx hb dX4_isLegalNow_82 (by decide) ?_
      exact qz_ret ((z, v, (lookF v f nw ((v 4) + (v 5)) 9)) : CS) hx hb hr hlocks rfl ⟨(bI_f (fun q => c_2 q.1)).symm, rfl⟩ hP hD hS dX4_isLegalNow_83
    · skip
      refine lv_aload_n hx hb dX4_isLegalNow_52 rfl (lv_at hl 1 rfl) ?_
      refine va_get (D := E.1) (ci := 4) (v := .ref (r 4)) (C := RX4) (T := TX4) (N := 13) hx hb hts (fun _ h => (List.mem_cons_of_mem _ (List.mem_append_left _ (List.mem_append_left _ (List.mem_append_left _ (List.mem_append_right _ h)))))) hown hK.1 hP 15 rfl rfl 3 (by decide) (hts _ (List.mem_of_getElem? (i := 1) rfl)) (fun _ h9 => h9) rfl dX4_isLegalNow_53 ?_
      refine lv_aload_n hx hb dX4_isLegalNow_56 rfl (lv_at hl 1 rfl) ?_
      refine va_get (D := E.1) (ci := 4) (v := .int (v 32)) (C := RX4) (T := TX4) (N := 13) hx hb hts (fun _ h => (List.mem_cons_of_mem _ (List.mem_append_left _ (List.mem_append_left _ (List.mem_append_left _ (List.mem_append_right _ h)))))) hown hK.1 hP 15 rfl rfl 11 (by decide) (hts _ (List.mem_of_getElem? (i := 2) rfl)) (fun _ h9 => h9) rfl dX4_isLegalNow_57 ?_
      refine w_top (show (v 32) = nI nw from hnw) ?_
      refine lv_bipush (v := 9) hx hb dX4_isLegalNow_60 (by decide) ?_
      refine lv_imul hx hb dX4_isLegalNow_62 ?_
      refine w_top (show ((nI nw) * 9) = (nI (nw * 9)) from pk_mul _ _) ?_
      refine lv_iload_n hx hb dX4_isLegalNow_63 rfl (lv_at hl 2 rfl) ?_
      refine lv_iadd hx hb dX4_isLegalNow_64 ?_
      refine w_top (show ((nI (nw * 9)) + (nI d)) = (nI ((nw * 9) + d)) from nI_add _ _) ?_
      refine lv_aload_n hx hb dX4_isLegalNow_65 rfl (lv_at hl 1 rfl) ?_
      refine va_get (D := E.1) (ci := 4) (v := .ref (r 1)) (C := RX4) (T := TX4) (N := 13) hx hb hts (fun _ h => (List.mem_cons_of_mem _ (List.mem_append_left _ (List.mem_append_left _ (List.mem_append_left _ (List.mem_append_right _ h)))))) hown hK.1 hP 15 rfl rfl 0 (by decide) (hts _ (List.mem_of_getElem? (i := 3) rfl)) (fun _ h9 => h9) rfl dX4_isLegalNow_66 ?_
      refine va_getN (D := E.1) (ci := 1) (v := .int (v 4)) (C := RX1) (T := TX1) (N := 9) (host := "TwoLakes") (ref := RX1) hx hb hts (fun _ h => (List.mem_cons_of_mem _ (List.mem_append_left _ (List.mem_append_left _ (List.mem_append_right _ h))))) hown hK.1 hP 1 rfl rfl 4 (by decide) (va_Nw.use rfl (hK.2.1 (RX4, 86, RX1, "upper", "I") (List.mem_of_getElem? (i := 6) rfl))) (fun _ h9 => h9) rfl dX4_isLegalNow_69 ?_
      refine cR_VN ⟨hx, hb, hml, hown, hts⟩ (c_X0_isOpen l E r v (lookF v f nw ((v 4) + (v 5)) 9) ((nw * 9) + d) (v 4) (by omega)) ⟨(va_cnB 2 hts gX4_isLegalNow_X0_isOpen_n193 rfl rfl rfl (hK.2.2 (RX4, 193, yX0_isOpen) (List.mem_of_getElem? (i := 15) rfl)) (hts _ (List.mem_of_getElem? (i := 5) rfl)) (by decide +kernel) ⟨Nat.le_of_ble_eq_true rfl, Nat.le_of_ble_eq_true rfl⟩), (hts _ (List.mem_of_getElem? (i := 84) rfl)), (hts _ (List.mem_of_getElem? (i := 85) rfl))⟩ hK (hP.sub (ws' := DW E r v (lookF v f nw ((v 4) + (v 5)) 9)) [0, 1, 2, 3, 4, 5, 6, 7, 8, 9, 10, 11, 12, 13, 14] rfl) 0 0 rfl rfl rfl hl.1 rfl (Nat.le_of_ble_eq_true rfl) dX4_isLegalNow_72 ⟨Nat.le_of_ble_eq_true rfl, Nat.le_of_ble_eq_true rfl⟩ ?_
      refine w_top (show (bI (¬ (v 4) < (lookF v f nw ((v 4) + (v 5)) 9) 21 ((nw * 9) + d) ∧ ¬ (lookF v f nw ((v 4) + (v 5)) 9) 22 ((nw * 9) + d) < (v 4))) = (bI (cOpen v f nw d)) from (by rw [look21 hd, look22 hd]; rfl)) ?_
      refine b_if_eq (q := (cOpen v f nw d)) (tgt := 82) hx hb dX4_isLegalNow_75 (by decide) (fun c_3 => ?_) (fun c_3 => ?_)
      · skip
        refine lv_iconst (v := 0) hx hb dX4_isLegalNow_82 (by decide) ?_
        exact qz_ret ((z, v, (lookF v f nw ((v 4) + (v 5)) 9)) : CS) hx hb hr hlocks rfl ⟨(bI_f (fun q => c_3 q.2)).symm, rfl⟩ hP hD hS dX4_isLegalNow_83
      · skip
        refine lv_iconst (v := 1) hx hb dX4_isLegalNow_78 (by decide) ?_
        refine lv_goto (tgt := 83) hx hb dX4_isLegalNow_79 (by decide) ?_
        exact qz_ret ((z, v, (lookF v f nw ((v 4) + (v 5)) 9)) : CS) hx hb hr hlocks rfl ⟨(bI_t ⟨c_2, c_3⟩).symm, rfl⟩ hP hD hS dX4_isLegalNow_83
  · skip
    refine lv_iconst (v := (-1)) hx hb dX4_isLegalNow_38 (by decide) ?_
    refine lv_icmp_eq (tgt := 46) hx hb dX4_isLegalNow_39 (by decide) (fun c_4 => ?_) (fun c_4 => ?_)
    · skip
      refine lv_iconst (v := 0) hx hb dX4_isLegalNow_46 (by decide) ?_
      exact J47 _ (bI_f (fun z => z c_4)).symm
    · skip
      refine lv_iconst (v := 1) hx hb dX4_isLegalNow_42 (by decide) ?_
      refine lv_goto (tgt := 47) hx hb dX4_isLegalNow_43 (by decide) ?_
      exact J47 _ (bI_t c_4).symm
