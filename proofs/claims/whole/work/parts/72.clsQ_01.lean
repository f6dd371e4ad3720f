set_option maxHeartbeats 4000000 in
set_option maxRecDepth 100000 in
theorem c_X4_bestDoing0 (l : Launch) (E : GG) (r z : Nat → Nat) (v : Nat → Int32) (f : Nat → Nat → Int32) (sz : Nat)  (V : Nat → Int32) (F : Nat → Nat → Int32) (nw rv up lo m0 m1 : Nat) (hC : CI v f V F nw rv up lo m0 m1) (hn23 : nw < 24) : Met l yX4_bestDoing wsX4_bestDoing (Rm 5 0 0) (pM E [.ref (r 0), .int 0] (CZ E r z v f) sz) (va_Qi (fun (x : Int32) (u : CS) => x = (n_doing V F nw rv 0 (nI (up + lo)) (9 * up + 3 * m0 + m1)) ∧ CI u.2.1 u.2.2 V F nw rv up lo m0 m1) (bM E (va_A (CZ E r z v f) sz) (fun (u : CS) => CZ E r u.1 u.2.1 u.2.2)) (va_A (CZ E r z v f) sz)) 0 0 (va_A (CZ E r z v f) sz) := by
  refine ofM (by decide) rfl (Nat.le_of_ble_eq_true rfl) ?_
  intro p e s m below meth c A hx hb hr hlocks hml hown hin hts hK hP hD hS hA hsz hAe ls hl
  rw [← hAe]
  have hl : lv_has ls 5 [(0, .ref (r 0)), (1, .int 0)] := hl
  obtain ⟨hnw, hn24, hrv, hr24, hup, hup40, hlo, hlo40, hm0, h03, hm1, h13⟩ := CI_nat hC
  refine lv_aload_n hx hb dX4_bestDoing_0 rfl (lv_at hl 0 rfl) ?_
  refine va_get (D := E.1) (ci := 4) (v := .int (v 32)) (C := RX4) (T := TX4) (N := 13) hx hb hts (fun _ h => (List.mem_cons_of_mem _ (List.mem_append_left _ (List.mem_append_left _ (List.mem_append_left _ (List.mem_append_left _ (List.mem_append_right _ h))))))) hown hK.1 hP 15 rfl rfl 11 (by decide) (hts _ (List.mem_of_getElem? (i := 1) rfl)) (fun _ h9 => h9) rfl dX4_bestDoing_1 ?_
  refine w_top (show (v 32) = nI nw from hnw) ?_
  refine lv_aload_n hx hb dX4_bestDoing_4 rfl (lv_at hl 0 rfl) ?_
  refine va_get (D := E.1) (ci := 4) (v := .int (v 30)) (C := RX4) (T := TX4) (N := 13) hx hb hts (fun _ h => (List.mem_cons_of_mem _ (List.mem_append_left _ (List.mem_append_left _ (List.mem_append_left _ (List.mem_append_left _ (List.mem_append_right _ h))))))) hown hK.1 hP 15 rfl rfl 9 (by decide) (hts _ (List.mem_of_getElem? (i := 2) rfl)) (fun _ h9 => h9) rfl dX4_bestDoing_5 ?_
  refine w_top (show (v 30) = nI rv from hrv) ?_
  refine n_icmp_ge (tgt := 15) (a := nw) (b := rv) hx hb dX4_bestDoing_8 (by decide) (by omega) (by omega) (fun c_1 => ?_) (fun c_1 => ?_)
  · skip
    refine lv_iconst (v := 0) hx hb dX4_bestDoing_15 (by decide) ?_
    refine lv_istore_n (lv' := [(2, .int 0), (0, .ref (r 0)), (1, .int 0)]) hx hb dX4_bestDoing_16 rfl hl (by decide) rfl (fun ls hl => ?_)
    refine lv_iload_n hx hb dX4_bestDoing_17 rfl (lv_at hl 0 rfl) ?_
    refine n_if_eq (tgt := 25) (a := 0) hx hb dX4_bestDoing_18 (by decide) (by omega) (fun c_2 => ?_) (fun c_2 => ?_)
    · skip
      refine lv_iload_n hx hb dX4_bestDoing_25 rfl (lv_at hl 2 rfl) ?_
      refine lv_istore_n (lv' := [(3, .int 0), (2, .int 0), (0, .ref (r 0)), (1, .int 0)]) hx hb dX4_bestDoing_26 rfl hl (by decide) rfl (fun ls hl => ?_)
      refine lv_aload_n hx hb dX4_bestDoing_27 rfl (lv_at hl 2 rfl) ?_
      refine va_get (D := E.1) (ci := 4) (v := .ref (r 12)) (C := RX4) (T := TX4) (N := 13) hx hb hts (fun _ h => (List.mem_cons_of_mem _ (List.mem_append_left _ (List.mem_append_left _ (List.mem_append_left _ (List.mem_append_left _ (List.mem_append_right _ h))))))) hown hK.1 hP 15 rfl rfl 8 (by decide) (hts _ (List.mem_of_getElem? (i := 3) rfl)) (fun _ h9 => h9) rfl dX4_bestDoing_28 ?_
      refine lv_iload_n hx hb dX4_bestDoing_31 rfl (lv_at hl 0 rfl) ?_
      refine n_iald (f := f 12) hx hb hK.1 hP 19 0 rfl rfl (i := 0) (by omega) (by decide) dX4_bestDoing_32 ?_
      refine lv_ldc hx hb hown (hts _ (List.mem_of_getElem? (i := 4) rfl)) dX4_bestDoing_33 ?_
      refine lv_icmp_ne (tgt := 133) hx hb dX4_bestDoing_35 (by decide) (fun c_3 => ?_) (fun c_3 => ?_)
      · skip
        refine lv_aload_n hx hb dX4_bestDoing_133 rfl (lv_at hl 2 rfl) ?_
        refine va_get (D := E.1) (ci := 4) (v := .ref (r 12)) (C := RX4) (T := TX4) (N := 13) hx hb hts (fun _ h => (List.mem_cons_of_mem _ (List.mem_append_left _ (List.mem_append_left _ (List.mem_append_left _ (List.mem_append_left _ (List.mem_append_right _ h))))))) hown hK.1 hP 15 rfl rfl 8 (by decide) (hts _ (List.mem_of_getElem? (i := 3) rfl)) (fun _ h9 => h9) rfl dX4_bestDoing_134 ?_
        refine lv_iload_n hx hb dX4_bestDoing_137 rfl (lv_at hl 0 rfl) ?_
        refine n_iald (f := f 12) hx hb hK.1 hP 19 0 rfl rfl (i := 0) (by omega) (by decide) dX4_bestDoing_138 ?_
        exact q_ret ((z, v, f) : CS) hx hb hr hlocks ⟨(hC.2.2.2.2.2.2.2 (by omega) hn23 0 (by decide)).resolve_left c_3, hC⟩ hP hD hS dX4_bestDoing_139
      · skip
        refine lv_iload_n hx hb dX4_bestDoing_38 rfl (lv_at hl 1 rfl) ?_
        refine n_if_eq (tgt := 56) (a := 0) hx hb dX4_bestDoing_39 (by decide) (by omega) (fun c_4 => ?_) (fun c_4 => ?_)
        · skip
          refine lv_aload_n hx hb dX4_bestDoing_56 rfl (lv_at hl 2 rfl) ?_
          refine va_get (D := E.1) (ci := 4) (v := .ref (r 4)) (C := RX4) (T := TX4) (N := 13) hx hb hts (fun _ h => (List.mem_cons_of_mem _ (List.mem_append_left _ (List.mem_append_left _ (List.mem_append_left _ (List.mem_append_left _ (List.mem_append_right _ h))))))) hown hK.1 hP 15 rfl rfl 3 (by decide) (hts _ (List.mem_of_getElem? (i := 6) rfl)) (fun _ h9 => h9) rfl dX4_bestDoing_57 ?_
          refine lv_aload_n hx hb dX4_bestDoing_60 rfl (lv_at hl 2 rfl) ?_
          refine va_get (D := E.1) (ci := 4) (v := .int (v 32)) (C := RX4) (T := TX4) (N := 13) hx hb hts (fun _ h => (List.mem_cons_of_mem _ (List.mem_append_left _ (List.mem_append_left _ (List.mem_append_left _ (List.mem_append_left _ (List.mem_append_right _ h))))))) hown hK.1 hP 15 rfl rfl 11 (by decide) (hts _ (List.mem_of_getElem? (i := 1) rfl)) (fun _ h9 => h9) rfl dX4_bestDoing_61 ?_
          refine w_top (show (v 32) = nI nw from hnw) ?_
          refine lv_aload_n hx hb dX4_bestDoing_64 rfl (lv_at hl 2 rfl) ?_
          refine va_get (D := E.1) (ci := 4) (v := .ref (r 1)) (C := RX4) (T := TX4) (N := 13) hx hb hts (fun _ h => (List.mem_cons_of_mem _ (List.mem_append_left _ (List.mem_append_left _ (List.mem_append_left _ (List.mem_append_left _ (List.mem_append_right _ h))))))) hown hK.1 hP 15 rfl rfl 0 (by decide) (hts _ (List.mem_of_getElem? (i := 5) rfl)) (fun _ h9 => h9) rfl dX4_bestDoing_65 ?_
          refine va_getN (D := E.1) (ci := 1) (v := .int (v 4)) (C := RX1) (T := TX1) (N := 9) (host := "TwoLakes") (ref := RX1) hx hb hts (fun _ h => (List.mem_cons_of_mem _ (List.mem_append_left _ (List.mem_append_left _ (List.mem_append_left _ (List.mem_append_right _ h)))))) hown hK.1 hP 1 rfl rfl 4 (by decide) (va_Nw.use rfl (hK.2.1 (RX4, 86, RX1, "upper", "I") (List.mem_of_getElem? (i := 6) rfl))) (fun _ h9 => h9) rfl dX4_bestDoing_68 ?_
          refine w_top (show (v 4) = nI up from hup) ?_
          refine lv_aload_n hx hb dX4_bestDoing_71 rfl (lv_at hl 2 rfl) ?_
          refine va_get (D := E.1) (ci := 4) (v := .ref (r 1)) (C := RX4) (T := TX4) (N := 13) hx hb hts (fun _ h => (List.mem_cons_of_mem _ (List.mem_append_left _ (List.mem_append_left _ (List.mem_append_left _ (List.mem_append_left _ (List.mem_append_right _ h))))))) hown hK.1 hP 15 rfl rfl 0 (by decide) (hts _ (List.mem_of_getElem? (i := 5) rfl)) (fun _ h9 => h9) rfl dX4_bestDoing_72 ?_
          refine va_getN (D := E.1) (ci := 1) (v := .int (v 5)) (C := RX1) (T := TX1) (N := 9) (host := "TwoLakes") (ref := RX1) hx hb hts (fun _ h => (List.mem_cons_of_mem _ (List.mem_append_left _ (List.mem_append_left _ (List.mem_append_left _ (List.mem_append_right _ h)))))) hown hK.1 hP 1 rfl rfl 5 (by decide) (va_Nw.use rfl (hK.2.1 (RX4, 89, RX1, "lower", "I") (List.mem_of_getElem? (i := 7) rfl))) (fun _ h9 => h9) rfl dX4_bestDoing_75 ?_
          refine w_top (show (v 5) = nI lo from hlo) ?_
          refine lv_iadd hx hb dX4_bestDoing_78 ?_
          refine w_top (show ((nI up) + (nI lo)) = (nI (up + lo)) from nI_add _ _) ?_
          refine cM_v (As := [.ref (r 4), .int (nI nw), .int (nI (up + lo))]) (wr := [((r 0), .inr (4, [.ref (r 1), .ref (r 2), .ref (r 3), .ref (r 4), .ref (r 9), .ref (r 8), .ref (r 10), .ref (r 11), .ref (r 12), .int (v 30), .int (v 31), .int (v 32), .int (v 33)])), ((r 9), .inl (E.2 2, 3, .inr (.inr (.inr (.inr (va_up (va_up (va_up (fun _ => none) 0 (some (r 5))) 1 (some (r 6))) 2 (some (r 7)))))))), ((r 10), .inl (E.2 0, 3, .inl (f 10))), ((r 11), .inl (E.2 0, 41, .inl (f 11))), ((r 12), .inl (E.2 0, 3, .inl (f 12))), ((r 5), .inr (3, [.ref (r 24), .int (v 40), .ref (z 0), .ref (z 4), .ref (r 36)])), ((r 24), .inl (E.2 0, 24, .inl (f 24))), ((z 0), .inl (E.2 0, 369, .inl (f 28))), ((z 4), .inl (E.2 0, 369, .inl (f 32))), ((r 36), .inl (E.2 0, 369, .inl (f 36))), ((r 6), .inr (3, [.ref (r 25), .int (v 41), .ref (z 1), .ref (z 5), .ref (r 37)])), ((r 25), .inl (E.2 0, 24, .inl (f 25))), ((z 1), .inl (E.2 0, 369, .inl (f 29))), ((z 5), .inl (E.2 0, 369, .inl (f 33))), ((r 37), .inl (E.2 0, 369, .inl (f 37))), ((r 7), .inr (3, [.ref (r 26), .int (v 42), .ref (z 2), .ref (z 6), .ref (r 38)])), ((r 26), .inl (E.2 0, 24, .inl (f 26))), ((z 2), .inl (E.2 0, 369, .inl (f 30))), ((z 6), .inl (E.2 0, 369, .inl (f 34))), ((r 38), .inl (E.2 0, 369, .inl (f 38))), ((r 8), .inr (3, [.ref (r 27), .int (v 43), .ref (z 3), .ref (z 7), .ref (r 39)])), ((r 27), .inl (E.2 0, 24, .inl (f 27))), ((z 3), .inl (E.2 0, 369, .inl (f 31))), ((z 7), .inl (E.2 0, 369, .inl (f 35))), ((r 39), .inl (E.2 0, 369, .inl (f 39)))]) (rM_VN ⟨hx, hb, hml, hown, hts⟩ (c_X0_foresee l E r v f s.heap.size nw (nI (up + lo)) hn24) ⟨(va_cnB 2 hts gX4_bestDoing_X0_foresee_n216 rfl rfl rfl (hK.2.2 (RX4, 216, yX0_foresee) (List.mem_of_getElem? (i := 16) rfl)) (hts _ (List.mem_of_getElem? (i := 16) rfl)) (by decide +kernel) ⟨Nat.le_of_ble_eq_true rfl, Nat.le_of_ble_eq_true rfl⟩), (hts _ (List.mem_of_getElem? (i := 15) rfl)), (hts _ (List.mem_of_getElem? (i := 17) rfl))⟩ hK (hP.sub (ws' := DW E r v f) [0, 1, 2, 3, 4, 5, 6, 7, 8, 9, 10, 11, 12, 13, 14] rfl) (hD.sub (ws' := DW E r v f) [0, 1, 2, 3, 4, 5, 6, 7, 8, 9, 10, 11, 12, 13, 14] (by decide) rfl) 0 0 rfl rfl rfl hl.1 rfl (Nat.le_of_ble_eq_true rfl) dX4_bestDoing_79 ⟨Nat.le_of_ble_eq_true rfl, Nat.le_of_ble_eq_true rfl⟩) hP hD hS hA [0, 1, 2, 3, 4, 5, 6, 7, 8, 9, 10, 11, 12, 13, 14] [15, 16, 17, 18, 19, 20, 21, 22, 23, 24, 25, 26, 27, 28, 29, 30, 31, 32, 33, 34, 35, 36, 37, 38, 39] rfl rfl (by decide) (by decide) (fun u_5 H locs hq_5 hP hD hS => ?_)
          have hP := hP.sub (ws' := CZ E r z v (va_up (lookX f u_5) 23 (rowG (f 23) 81 (d_costs v)))) [25, 26, 27, 28, 29, 30, 31, 32, 33, 34, 35, 36, 37, 38, 39, 0, 1, 2, 3, 4, 5, 6, 7, 8, 9, 10, 11, 12, 13, 14, 15, 16, 17, 18, 19, 20, 21, 22, 23, 24] rfl
          have hD := hD.sub (ws' := CZ E r z v (va_up (lookX f u_5) 23 (rowG (f 23) 81 (d_costs v)))) [25, 26, 27, 28, 29, 30, 31, 32, 33, 34, 35, 36, 37, 38, 39, 0, 1, 2, 3, 4, 5, 6, 7, 8, 9, 10, 11, 12, 13, 14, 15, 16, 17, 18, 19, 20, 21, 22, 23, 24] (by decide) rfl
          have hP := P_row hP hD 14 (d_costs v) rfl (fun i h => rowG_all i h)
          have hD := hD.set (e := .inl (E.2 0, 81, .inl (d_costs v))) (p := 14) rfl
          have hP : va_P E.1 vwCl (CZ E r z v (foreF v f u_5)) H := hP
          have hD : va_D A (CZ E r z v (foreF v f u_5)) := hD
          refine lv_aload_n hx hb dX4_bestDoing_82 rfl (lv_at hl 2 rfl) ?_
          refine lv_iload_n hx hb dX4_bestDoing_83 rfl (lv_at hl 3 rfl) ?_
          refine cM_v (As := [.ref (r 0), .int 0]) (wr := []) (rM_V ⟨hx, hb, hml, hown, hts⟩ (c_X4_planWorld0 l E r z v (foreF v f u_5) H.size nw rv hnw hn24 hrv hr24 (fun h d a b c => opOK_congr (foreF_E hq_5) (by omega) b c (CI_op hC hup40 h d (by omega) b c))) (cwV 1 hts gX4_bestDoing_X4_planWorld rfl rfl rfl (by decide +kernel) ⟨Nat.le_of_ble_eq_true rfl, Nat.le_of_ble_eq_true rfl⟩) hK hP hD 4 15 rfl rfl rfl hl.1 rfl (Nat.le_of_ble_eq_true rfl) dX4_bestDoing_84 ⟨Nat.le_of_ble_eq_true rfl, Nat.le_of_ble_eq_true rfl⟩) hP hD hS hA [0, 1, 2, 3, 4, 5, 6, 7, 8, 9, 10, 11, 12, 13, 14, 15, 16, 17, 18, 19, 20, 21, 22, 23, 24, 25, 26, 27, 28, 29, 30, 31, 32, 33, 34, 35, 36, 37, 38, 39] [] rfl rfl (by decide) (by decide) (fun u_6 H locs hq_6 hP hD hS => ?_)
          obtain ⟨⟨a_6, b_6⟩, e_6⟩ := u_6
          have hP : va_P E.1 vwCl (CZ E r (va_up (va_up z 0 a_6) 4 b_6) v (va_up (va_up (va_up (va_up (foreF v f u_5) 28 (endRow (v 31))) 28 (plV (va_up (foreF v f u_5) 28 (endRow (v 31))) (v 40) ((foreF v f u_5) 24) 24 (endRow (v 31)) ((foreF v f u_5) 36) (24 - max nw rv))) 32 e_6) 36 (plC (va_up (foreF v f u_5) 28 (endRow (v 31))) (v 40) ((foreF v f u_5) 24) 24 (endRow (v 31)) ((foreF v f u_5) 36) (24 - max nw rv)))) H := hP
          have hD : va_D A (CZ E r (va_up (va_up z 0 a_6) 4 b_6) v (va_up (va_up (va_up (va_up (foreF v f u_5) 28 (endRow (v 31))) 28 (plV (va_up (foreF v f u_5) 28 (endRow (v 31))) (v 40) ((foreF v f u_5) 24) 24 (endRow (v 31)) ((foreF v f u_5) 36) (24 - max nw rv))) 32 e_6) 36 (plC (va_up (foreF v f u_5) 28 (endRow (v 31))) (v 40) ((foreF v f u_5) 24) 24 (endRow (v 31)) ((foreF v f u_5) 36) (24 - max nw rv)))) := hD
          refine lv_iload_n hx hb dX4_bestDoing_87 rfl (lv_at hl 1 rfl) ?_
          refine n_if_eq (tgt := 98) (a := 0) hx hb dX4_bestDoing_88 (by decide) (by omega) (fun c_7 => ?_) (fun c_7 => ?_)
          · skip
            refine lv_aload_n hx hb dX4_bestDoing_98 rfl (lv_at hl 2 rfl) ?_
            refine va_get (D := E.1) (ci := 4) (v := .ref (r 9)) (C := RX4) (T := TX4) (N := 13) hx hb hts (fun _ h => (List.mem_cons_of_mem _ (List.mem_append_left _ (List.mem_append_left _ (List.mem_append_left _ (List.mem_append_left _ (List.mem_append_right _ h))))))) hown hK.1 hP 15 rfl rfl 4 (by decide) (hts _ (List.mem_of_getElem? (i := 8) rfl)) (fun _ h9 => h9) rfl dX4_bestDoing_99 ?_
            refine lv_iload_n hx hb dX4_bestDoing_102 rfl (lv_at hl 3 rfl) ?_
            refine va_aldq (i := 0) (C := "TwoLakes$Outlook") (f := va_up (va_up (va_up (fun _ => none) 0 (some (r 5))) 1 (some (r 6))) 2 (some (r 7))) hx hb hK.1 hP 16 2 rfl rfl (show ¬ ((0 : Int32) < 0 ∨ 3 ≤ (0 : Int32).toNatClampNeg) by decide) dX4_bestDoing_103 ?_
            refine W.eq (g2 := F0 m 104 ls [.ref (r 5)]) rfl ?_
            refine lv_astore (lv' := [(4, .ref (r 5)), (3, .int 0), (2, .int 0), (0, .ref (r 0)), (1, .int 0)]) hx hb dX4_bestDoing_104 hl (by decide) rfl (fun ls hl => ?_)
            refine lv_aload_n hx hb dX4_bestDoing_106 rfl (lv_at hl 3 rfl) ?_
            refine va_get (D := E.1) (ci := 4) (v := .ref (r 12)) (C := RX4) (T := TX4) (N := 13) hx hb hts (fun _ h => (List.mem_cons_of_mem _ (List.mem_append_left _ (List.mem_append_left _ (List.mem_append_left _ (List.mem_append_left _ (List.mem_append_right _ h))))))) hown hK.1 hP 15 rfl rfl 8 (by decide) (hts _ (List.mem_of_getElem? (i := 3) rfl)) (fun _ h9 => h9) rfl dX4_bestDoing_107 ?_
            refine lv_iload_n hx hb dX4_bestDoing_110 rfl (lv_at hl 1 rfl) ?_
            refine lv_aload hx hb dX4_bestDoing_111 (lv_at hl 0 rfl) ?_
            refine va_getN (D := E.1) (ci := 3) (v := .ref (r 36)) (C := RX3) (T := TX3) (N := 5) (host := "TwoLakes") (ref := RX3) hx hb hts (fun _ h => (List.mem_cons_of_mem _ (List.mem_append_left _ (List.mem_append_left _ (List.mem_append_right _ h))))) hown hK.1 hP 20 rfl rfl 4 (by decide) (va_Nw.use rfl (hK.2.1 (RX4, 222, RX3, "choices", "[I") (List.mem_of_getElem? (i := 34) rfl))) (fun _ h9 => h9) rfl dX4_bestDoing_113 ?_
            refine lv_aload_n hx hb dX4_bestDoing_116 rfl (lv_at hl 3 rfl) ?_
            refine va_get (D := E.1) (ci := 4) (v := .ref (r 1)) (C := RX4) (T := TX4) (N := 13) hx hb hts (fun _ h => (List.mem_cons_of_mem _ (List.mem_append_left _ (List.mem_append_left _ (List.mem_append_left _ (List.mem_append_left _ (List.mem_append_right _ h))))))) hown hK.1 hP 15 rfl rfl 0 (by decide) (hts _ (List.mem_of_getElem? (i := 5) rfl)) (fun _ h9 => h9) rfl dX4_bestDoing_117 ?_
            refine va_getN (D := E.1) (ci := 1) (v := .int (v 4)) (C := RX1) (T := TX1) (N := 9) (host := "TwoLakes") (ref := RX1) hx hb hts (fun _ h => (List.mem_cons_of_mem _ (List.mem_append_left _ (List.mem_append_left _ (List.mem_append_left _ (List.mem_append_right _ h)))))) hown hK.1 hP 1 rfl rfl 4 (by decide) (va_Nw.use rfl (hK.2.1 (RX4, 86, RX1, "upper", "I") (List.mem_of_getElem? (i := 6) rfl))) (fun _ h9 => h9) rfl dX4_bestDoing_120 ?_
            refine w_top (show (v 4) = nI up from hup) ?_
            refine lv_bipush (v := 9) hx hb dX4_bestDoing_123 (by decide) ?_
            refine lv_imul hx hb dX4_bestDoing_125 ?_
            refine w_top (show ((nI up) * 9) = (nI (up * 9)) from pk_mul _ _) ?_
            refine lv_aload_n hx hb dX4_bestDoing_126 rfl (lv_at hl 3 rfl) ?_
            refine cR_V ⟨hx, hb, hml, hown, hts⟩ (c_X4_modesNow l E r v m0 m1 hm0 hm1) (cwV 0 hts gX4_bestDoing_X4_modesNow rfl rfl rfl (by decide +kernel) ⟨Nat.le_of_ble_eq_true rfl, Nat.le_of_ble_eq_true rfl⟩) hK (hP.sub (ws' := TW E r v) [15, 2, 3] rfl) 4 0 rfl rfl rfl hl.1 rfl (Nat.le_of_ble_eq_true rfl) dX4_bestDoing_127 ⟨Nat.le_of_ble_eq_true rfl, Nat.le_of_ble_eq_true rfl⟩ ?_
            refine lv_iadd hx hb dX4_bestDoing_130 ?_
            refine w_top (show ((nI (up * 9)) + (nI (m0 * 3 + m1))) = (nI ((up * 9) + (m0 * 3 + m1))) from nI_add _ _) ?_
            refine n_iald (f := (va_up (va_up (va_up (va_up (foreF v f u_5) 28 (endRow (v 31))) 28 (plV (va_up (foreF v f u_5) 28 (endRow (v 31))) (v 40) ((foreF v f u_5) 24) 24 (endRow (v 31)) ((foreF v f u_5) 36) (24 - max nw rv))) 32 e_6) 36 (plC (va_up (foreF v f u_5) 28 (endRow (v 31))) (v 40) ((foreF v f u_5) 24) 24 (endRow (v 31)) ((foreF v f u_5) 36) (24 - max nw rv))) 36) hx hb hK.1 hP 24 0 rfl rfl (i := (up * 9) + (m0 * 3 + m1)) (by omega) (by decide) dX4_bestDoing_131 ?_
            refine w_top (show ((va_up (va_up (va_up (va_up (foreF v f u_5) 28 (endRow (v 31))) 28 (plV (va_up (foreF v f u_5) 28 (endRow (v 31))) (v 40) ((foreF v f u_5) 24) 24 (endRow (v 31)) ((foreF v f u_5) 36) (24 - max nw rv))) 32 e_6) 36 (plC (va_up (foreF v f u_5) 28 (endRow (v 31))) (v 40) ((foreF v f u_5) 24) 24 (endRow (v 31)) ((foreF v f u_5) 36) (24 - max nw rv))) 36 ((up * 9) + (m0 * 3 + m1))) = (n_doing V F nw rv 0 (nI (up + lo)) (9 * up + 3 * m0 + m1)) from ((congrFun (plC_congr (fun _ => 0) (show rowsE (cF v f nw (nI (up + lo))) (va_up (foreF v f u_5) 28 (endRow (v 31))) nw 24 from foreF_E hq_5) (by omega) (by omega)) _).trans (CI_doW hC (by omega) hn23 (w := 0) (by decide)))) ?_
            refine n_iast (f := (va_up (va_up (va_up (va_up (foreF v f u_5) 28 (endRow (v 31))) 28 (plV (va_up (foreF v f u_5) 28 (endRow (v 31))) (v 40) ((foreF v f u_5) 24) 24 (endRow (v 31)) ((foreF v f u_5) 36) (24 - max nw rv))) 32 e_6) 36 (plC (va_up (foreF v f u_5) 28 (endRow (v 31))) (v 40) ((foreF v f u_5) 24) 24 (endRow (v 31)) ((foreF v f u_5) 36) (24 - max nw rv))) 12) hx hb hK.1 hP hD hS 19 0 rfl rfl (i := 0) (by omega) (by decide) dX4_bestDoing_132 (fun H locs hP hD hS => ?_)
            have hP : va_P E.1 vwCl (CZ E r (va_up (va_up z 0 a_6) 4 b_6) v (va_up (va_up (va_up (va_up (va_up (foreF v f u_5) 28 (endRow (v 31))) 28 (plV (va_up (foreF v f u_5) 28 (endRow (v 31))) (v 40) ((foreF v f u_5) 24) 24 (endRow (v 31)) ((foreF v f u_5) 36) (24 - max nw rv))) 32 e_6) 36 (plC (va_up (foreF v f u_5) 28 (endRow (v 31))) (v 40) ((foreF v f u_5) 24) 24 (endRow (v 31)) ((foreF v f u_5) 36) (24 - max nw rv))) 12 (upd ((va_up (va_up (va_up (va_up (foreF v f u_5) 28 (endRow (v 31))) 28 (plV (va_up (foreF v f u_5) 28 (endRow (v 31))) (v 40) ((foreF v f u_5) 24) 24 (endRow (v 31)) ((foreF v f u_5) 36) (24 - max nw rv))) 32 e_6) 36 (plC (va_up (foreF v f u_5) 28 (endRow (v 31))) (v 40) ((foreF v f u_5) 24) 24 (endRow (v 31)) ((foreF v f u_5) 36) (24 - max nw rv))) 12) 0 (n_doing V F nw rv 0 (nI (up + lo)) (9 * up + 3 * m0 + m1))))) H := hP
            have hD : va_D A (CZ E r (va_up (va_up z 0 a_6) 4 b_6) v (va_up (va_up (va_up (va_up (va_up (foreF v f u_5) 28 (endRow (v 31))) 28 (plV (va_up (foreF v f u_5) 28 (endRow (v 31))) (v 40) ((foreF v f u_5) 24) 24 (endRow (v 31)) ((foreF v f u_5) 36) (24 - max nw rv))) 32 e_6) 36 (plC (va_up (foreF v f u_5) 28 (endRow (v 31))) (v 40) ((foreF v f u_5) 24) 24 (endRow (v 31)) ((foreF v f u_5) 36) (24 - max nw rv))) 12 (upd ((va_up (va_up (va_up (va_up (foreF v f u_5) 28 (endRow (v 31))) 28 (plV (va_up (foreF v f u_5) 28 (endRow (v 31))) (v 40) ((foreF v f u_5) 24) 24 (endRow (v 31)) ((foreF v f u_5) 36) (24 - max nw rv))) 32 e_6) 36 (plC (va_up (foreF v f u_5) 28 (endRow (v 31))) (v 40) ((foreF v f u_5) 24) 24 (endRow (v 31)) ((foreF v f u_5) 36) (24 - max nw rv))) 12) 0 (n_doing V F nw rv 0 (nI (up + lo)) (9 * up + 3 * m0 + m1))))) := hD
            refine lv_aload_n hx hb dX4_bestDoing_133 rfl (lv_at hl 3 rfl) ?_
            refine va_get (D := E.1) (ci := 4) (v := .ref (r 12)) (C := RX4) (T := TX4) (N := 13) hx hb hts (fun _ h => (List.mem_cons_of_mem _ (List.mem_append_left _ (List.mem_append_left _ (List.mem_append_left _ (List.mem_append_left _ (List.mem_append_right _ h))))))) hown hK.1 hP 15 rfl rfl 8 (by decide) (hts _ (List.mem_of_getElem? (i := 3) rfl)) (fun _ h9 => h9) rfl dX4_bestDoing_134 ?_
            refine lv_iload_n hx hb dX4_bestDoing_137 rfl (lv_at hl 1 rfl) ?_
            refine n_iald (f := upd ((va_up (va_up (va_up (va_up (foreF v f u_5) 28 (endRow (v 31))) 28 (plV (va_up (foreF v f u_5) 28 (endRow (v 31))) (v 40) ((foreF v f u_5) 24) 24 (endRow (v 31)) ((foreF v f u_5) 36) (24 - max nw rv))) 32 e_6) 36 (plC (va_up (foreF v f u_5) 28 (endRow (v 31))) (v 40) ((foreF v f u_5) 24) 24 (endRow (v 31)) ((foreF v f u_5) 36) (24 - max nw rv))) 12) 0 (n_doing V F nw rv 0 (nI (up + lo)) (9 * up + 3 * m0 + m1))) hx hb hK.1 hP 19 0 rfl rfl (i := 0) (by omega) (by decide) dX4_bestDoing_138 ?_
            refine w_top (show (upd ((va_up (va_up (va_up (va_up (foreF v f u_5) 28 (endRow (v 31))) 28 (plV (va_up (foreF v f u_5) 28 (endRow (v 31))) (v 40) ((foreF v f u_5) 24) 24 (endRow (v 31)) ((foreF v f u_5) 36) (24 - max nw rv))) 32 e_6) 36 (plC (va_up (foreF v f u_5) 28 (endRow (v 31))) (v 40) ((foreF v f u_5) 24) 24 (endRow (v 31)) ((foreF v f u_5) 36) (24 - max nw rv))) 12) 0 (n_doing V F nw rv 0 (nI (up + lo)) (9 * up + 3 * m0 + m1)) 0) = (n_doing V F nw rv 0 (nI (up + lo)) (9 * up + 3 * m0 + m1)) from pk_us) ?_
            exact q_ret (((va_up (va_up z 0 a_6) 4 b_6), v, (va_up (va_up (va_up (va_up (va_up (foreF v f u_5) 28 (endRow (v 31))) 28 (plV (va_up (foreF v f u_5) 28 (endRow (v 31))) (v 40) ((foreF v f u_5) 24) 24 (endRow (v 31)) ((foreF v f u_5) 36) (24 - max nw rv))) 32 e_6) 36 (plC (va_up (foreF v f u_5) 28 (endRow (v 31))) (v 40) ((foreF v f u_5) 24) 24 (endRow (v 31)) ((foreF v f u_5) 36) (24 - max nw rv))) 12 (upd ((va_up (va_up (va_up (va_up (foreF v f u_5) 28 (endRow (v 31))) 28 (plV (va_up (foreF v f u_5) 28 (endRow (v 31))) (v 40) ((foreF v f u_5) 24) 24 (endRow (v 31)) ((foreF v f u_5) 36) (24 - max nw rv))) 32 e_6) 36 (plC (va_up (foreF v f u_5) 28 (endRow (v 31))) (v 40) ((foreF v f u_5) 24) 24 (endRow (v 31)) ((foreF v f u_5) 36) (24 - max nw rv))) 12) 0 (n_doing V F nw rv 0 (nI (up + lo)) (9 * up + 3 * m0 + m1))))) : CS) hx hb hr hlocks ⟨rfl, CI_d hC (fun k _ => rfl) (fun k hk => by dsimp only; rw [up_ne (by omega), up_ne (by omega), up_ne (by omega), up_ne (by omega), up_ne (by omega)]; exact foreF_k k (by omega)) (w0 := 0) rfl (Or.inr (show upd (f 12) 0 (n_doing V F nw rv 0 (nI (up + lo)) (9 * up + 3 * m0 + m1)) = upd (f 12) (if nw < rv then 0 else 0) (n_doing V F nw rv 0 (nI (up + lo)) (9 * up + 3 * m0 + m1)) by rw [if_neg (by omega)]))⟩ hP hD hS dX4_bestDoing_139
          · skip
            exact absurd c_7 (by decide)
        · skip
          exact absurd c_4 (by decide)
    · skip
      exact absurd c_2 (by decide)
  · skip
    refine lv_iconst (v := 1) hx hb dX4_bestDoing_11 (by decide) ?_
    refine lv_goto (tgt := 16) hx hb dX4_bestDoing_12 (by decide) ?_
    refine lv_istore_n (lv' := [(2, .int 1), (0, .ref (r 0)), (1, .int 0)]) hx hb dX4_bestDoing_16 rfl hl (by decide) rfl (fun ls hl => ?_)
    refine lv_iload_n hx hb dX4_bestDoing_17 rfl (lv_at hl 0 rfl) ?_
    refine n_if_eq (tgt := 25) (a := 1) hx hb dX4_bestDoing_18 (by decide) (by omega) (fun c_8 => ?_) (fun c_8 => ?_)
    · skip
      exact absurd c_8 (by decide)
    · skip
      refine lv_iconst (v := 0) hx hb dX4_bestDoing_21 (by decide) ?_
      refine lv_goto (tgt := 26) hx hb dX4_bestDoing_22 (by decide) ?_
      refine lv_istore_n (lv' := [(3, .int 0), (2, .int 1), (0, .ref (r 0)), (1, .int 0)]) hx hb dX4_bestDoing_26 rfl hl (by decide) rfl (fun ls hl => ?_)
      refine lv_aload_n hx hb dX4_bestDoing_27 rfl (lv_at hl 2 rfl) ?_
      refine va_get (D := E.1) (ci := 4) (v := .ref (r 12)) (C := RX4) (T := TX4) (N := 13) hx hb hts (fun _ h => (List.mem_cons_of_mem _ (List.mem_append_left _ (List.mem_append_left _ (List.mem_append_left _ (List.mem_append_left _ (List.mem_append_right _ h))))))) hown hK.1 hP 15 rfl rfl 8 (by decide) (hts _ (List.mem_of_getElem? (i := 3) rfl)) (fun _ h9 => h9) rfl dX4_bestDoing_28 ?_
      refine lv_iload_n hx hb dX4_bestDoing_31 rfl (lv_at hl 0 rfl) ?_
      refine n_iald (f := f 12) hx hb hK.1 hP 19 0 rfl rfl (i := 0) (by omega) (by decide) dX4_bestDoing_32 ?_
      refine lv_ldc hx hb hown (hts _ (List.mem_of_getElem? (i := 4) rfl)) dX4_bestDoing_33 ?_
      refine lv_icmp_ne (tgt := 133) hx hb dX4_bestDoing_35 (by decide) (fun c_9 => ?_) (fun c_9 => ?_)
      · skip
        refine lv_aload_n hx hb dX4_bestDoing_133 rfl (lv_at hl 2 rfl) ?_
        refine va_get (D := E.1) (ci := 4) (v := .ref (r 12)) (C := RX4) (T := TX4) (N := 13) hx hb hts (fun _ h => (List.mem_cons_of_mem _ (List.mem_append_left _ (List.mem_append_left _ (List.mem_append_left _ (List.mem_append_left _ (List.mem_append_right _ h))))))) hown hK.1 hP 15 rfl rfl 8 (by decide) (hts _ (List.mem_of_getElem? (i := 3) rfl)) (fun _ h9 => h9) rfl dX4_bestDoing_134 ?_
        refine lv_iload_n hx hb dX4_bestDoing_137 rfl (lv_at hl 0 rfl) ?_
        refine n_iald (f := f 12) hx hb hK.1 hP 19 0 rfl rfl (i := 0) (by omega) (by decide) dX4_bestDoing_138 ?_
        exact q_ret ((z, v, f) : CS) hx hb hr hlocks ⟨((hC.2.2.2.2.2.2.1 (by omega)).resolve_left c_9) 0, hC⟩ hP hD hS dX4_bestDoing_139
      · skip
        refine lv_iload_n hx hb dX4_bestDoing_38 rfl (lv_at hl 1 rfl) ?_
        refine n_if_eq (tgt := 56) (a := 1) hx hb dX4_bestDoing_39 (by decide) (by omega) (fun c_10 => ?_) (fun c_10 => ?_)
        · skip
          exact absurd c_10 (by decide)
        · skip
          refine lv_aload_n hx hb dX4_bestDoing_42 rfl (lv_at hl 2 rfl) ?_
          refine lv_aload_n hx hb dX4_bestDoing_43 rfl (lv_at hl 2 rfl) ?_
          refine va_get (D := E.1) (ci := 4) (v := .ref (r 1)) (C := RX4) (T := TX4) (N := 13) hx hb hts (fun _ h => (List.mem_cons_of_mem _ (List.mem_append_left _ (List.mem_append_left _ (List.mem_append_left _ (List.mem_append_left _ (List.mem_append_right _ h))))))) hown hK.1 hP 15 rfl rfl 0 (by decide) (hts _ (List.mem_of_getElem? (i := 5) rfl)) (fun _ h9 => h9) rfl dX4_bestDoing_44 ?_
          refine va_getN (D := E.1) (ci := 1) (v := .int (v 4)) (C := RX1) (T := TX1) (N := 9) (host := "TwoLakes") (ref := RX1) hx hb hts (fun _ h => (List.mem_cons_of_mem _ (List.mem_append_left _ (List.mem_append_left _ (List.mem_append_left _ (List.mem_append_right _ h)))))) hown hK.1 hP 1 rfl rfl 4 (by decide) (va_Nw.use rfl (hK.2.1 (RX4, 86, RX1, "upper", "I") (List.mem_of_getElem? (i := 6) rfl))) (fun _ h9 => h9) rfl dX4_bestDoing_47 ?_
          refine w_top (show (v 4) = nI up from hup) ?_
          refine cM_v (As := [.ref (r 0), .int (nI up)]) (wr := []) (rM_V ⟨hx, hb, hml, hown, hts⟩ (c_X4_planAll l E r z v f s.heap.size up nw rv lo hnw hn24 hrv hr24 hlo (CI_op hC hup40)) (cwV 1 hts gX4_bestDoing_X4_planAll rfl rfl rfl (by decide +kernel) ⟨Nat.le_of_ble_eq_true rfl, Nat.le_of_ble_eq_true rfl⟩) hK hP hD 4 15 rfl rfl rfl hl.1 rfl (Nat.le_of_ble_eq_true rfl) dX4_bestDoing_50 ⟨Nat.le_of_ble_eq_true rfl, Nat.le_of_ble_eq_true rfl⟩) hP hD hS hA [0, 1, 2, 3, 4, 5, 6, 7, 8, 9, 10, 11, 12, 13, 14, 15, 16, 17, 18, 19, 20, 21, 22, 23, 24, 25, 26, 27, 28, 29, 30, 31, 32, 33, 34, 35, 36, 37, 38, 39] [] rfl rfl (by decide) (by decide) (fun u_11 H locs hq_11 hP hD hS => ?_)
          obtain ⟨Z_11, V_11, F_11⟩ := u_11
          obtain ⟨hp1, hp2, hp3, hp4⟩ := hq_11
          dsimp only at hp1 hp2 hp3 hp4
          have hP : va_P E.1 vwCl (CZ E r Z_11 V_11 F_11) H := hP
          have hD : va_D A (CZ E r Z_11 V_11 F_11) := hD
          refine lv_goto (tgt := 87) hx hb dX4_bestDoing_53 (by decide) ?_
          refine lv_iload_n hx hb dX4_bestDoing_87 rfl (lv_at hl 1 rfl) ?_
          refine n_if_eq (tgt := 98) (a := 1) hx hb dX4_bestDoing_88 (by decide) (by omega) (fun c_12 => ?_) (fun c_12 => ?_)
          · skip
            exact absurd c_12 (by decide)
          · skip
            refine lv_aload_n hx hb dX4_bestDoing_91 rfl (lv_at hl 2 rfl) ?_
            refine va_get (D := E.1) (ci := 4) (v := .ref (r 8)) (C := RX4) (T := TX4) (N := 13) hx hb hts (fun _ h => (List.mem_cons_of_mem _ (List.mem_append_left _ (List.mem_append_left _ (List.mem_append_left _ (List.mem_append_left _ (List.mem_append_right _ h))))))) hown hK.1 hP 15 rfl rfl 5 (by decide) (hts _ (List.mem_of_getElem? (i := 7) rfl)) (fun _ h9 => h9) rfl dX4_bestDoing_92 ?_
            refine lv_goto (tgt := 104) hx hb dX4_bestDoing_95 (by decide) ?_
            refine lv_astore (lv' := [(4, .ref (r 8)), (3, .int 0), (2, .int 1), (0, .ref (r 0)), (1, .int 0)]) hx hb dX4_bestDoing_104 hl (by decide) rfl (fun ls hl => ?_)
            refine lv_aload_n hx hb dX4_bestDoing_106 rfl (lv_at hl 3 rfl) ?_
            refine va_get (D := E.1) (ci := 4) (v := .ref (r 12)) (C := RX4) (T := TX4) (N := 13) hx hb hts (fun _ h => (List.mem_cons_of_mem _ (List.mem_append_left _ (List.mem_append_left _ (List.mem_append_left _ (List.mem_append_left _ (List.mem_append_right _ h))))))) hown hK.1 hP 15 rfl rfl 8 (by decide) (hts _ (List.mem_of_getElem? (i := 3) rfl)) (fun _ h9 => h9) rfl dX4_bestDoing_107 ?_
            refine lv_iload_n hx hb dX4_bestDoing_110 rfl (lv_at hl 1 rfl) ?_
            refine lv_aload hx hb dX4_bestDoing_111 (lv_at hl 0 rfl) ?_
            refine va_getN (D := E.1) (ci := 3) (v := .ref (r 39)) (C := RX3) (T := TX3) (N := 5) (host := "TwoLakes") (ref := RX3) hx hb hts (fun _ h => (List.mem_cons_of_mem _ (List.mem_append_left _ (List.mem_append_left _ (List.mem_append_right _ h))))) hown hK.1 hP 35 rfl rfl 4 (by decide) (va_Nw.use rfl (hK.2.1 (RX4, 222, RX3, "choices", "[I") (List.mem_of_getElem? (i := 34) rfl))) (fun _ h9 => h9) rfl dX4_bestDoing_113 ?_
            refine lv_aload_n hx hb dX4_bestDoing_116 rfl (lv_at hl 3 rfl) ?_
            refine va_get (D := E.1) (ci := 4) (v := .ref (r 1)) (C := RX4) (T := TX4) (N := 13) hx hb hts (fun _ h => (List.mem_cons_of_mem _ (List.mem_append_left _ (List.mem_append_left _ (List.mem_append_left _ (List.mem_append_left _ (List.mem_append_right _ h))))))) hown hK.1 hP 15 rfl rfl 0 (by decide) (hts _ (List.mem_of_getElem? (i := 5) rfl)) (fun _ h9 => h9) rfl dX4_bestDoing_117 ?_
            refine va_getN (D := E.1) (ci := 1) (v := .int (V_11 4)) (C := RX1) (T := TX1) (N := 9) (host := "TwoLakes") (ref := RX1) hx hb hts (fun _ h => (List.mem_cons_of_mem _ (List.mem_append_left _ (List.mem_append_left _ (List.mem_append_left _ (List.mem_append_right _ h)))))) hown hK.1 hP 1 rfl rfl 4 (by decide) (va_Nw.use rfl (hK.2.1 (RX4, 86, RX1, "upper", "I") (List.mem_of_getElem? (i := 6) rfl))) (fun _ h9 => h9) rfl dX4_bestDoing_120 ?_
            refine w_top (show (V_11 4) = nI up from ((hp1 4 (by decide)).trans hup)) ?_
            refine lv_bipush (v := 9) hx hb dX4_bestDoing_123 (by decide) ?_
            refine lv_imul hx hb dX4_bestDoing_125 ?_
            refine w_top (show ((nI up) * 9) = (nI (up * 9)) from pk_mul _ _) ?_
            refine lv_aload_n hx hb dX4_bestDoing_126 rfl (lv_at hl 3 rfl) ?_
            refine cR_V ⟨hx, hb, hml, hown, hts⟩ (c_X4_modesNow l E r V_11 m0 m1 ((hp1 15 (by decide)).trans hm0) ((hp1 25 (by decide)).trans hm1)) (cwV 0 hts gX4_bestDoing_X4_modesNow rfl rfl rfl (by decide +kernel) ⟨Nat.le_of_ble_eq_true rfl, Nat.le_of_ble_eq_true rfl⟩) hK (hP.sub (ws' := TW E r V_11) [15, 2, 3] rfl) 4 0 rfl rfl rfl hl.1 rfl (Nat.le_of_ble_eq_true rfl) dX4_bestDoing_127 ⟨Nat.le_of_ble_eq_true rfl, Nat.le_of_ble_eq_true rfl⟩ ?_
            refine lv_iadd hx hb dX4_bestDoing_130 ?_
            refine w_top (show ((nI (up * 9)) + (nI (m0 * 3 + m1))) = (nI ((up * 9) + (m0 * 3 + m1))) from nI_add _ _) ?_
            refine n_iald (f := F_11 39) hx hb hK.1 hP 39 0 rfl rfl (i := (up * 9) + (m0 * 3 + m1)) (by omega) (by decide) dX4_bestDoing_131 ?_
            refine w_top (show (F_11 39 ((up * 9) + (m0 * 3 + m1))) = (n_doing V F nw rv 0 (nI (up + lo)) (9 * up + 3 * m0 + m1)) from ((congrFun (hp4 (by omega)) _).trans (CI_doA hC (by omega) 0))) ?_
            refine n_iast (f := F_11 12) hx hb hK.1 hP hD hS 19 0 rfl rfl (i := 0) (by omega) (by decide) dX4_bestDoing_132 (fun H locs hP hD hS => ?_)
            have hP : va_P E.1 vwCl (CZ E r Z_11 V_11 (va_up F_11 12 (upd (F_11 12) 0 (n_doing V F nw rv 0 (nI (up + lo)) (9 * up + 3 * m0 + m1))))) H := hP
            have hD : va_D A (CZ E r Z_11 V_11 (va_up F_11 12 (upd (F_11 12) 0 (n_doing V F nw rv 0 (nI (up + lo)) (9 * up + 3 * m0 + m1))))) := hD
            refine lv_aload_n hx hb dX4_bestDoing_133 rfl (lv_at hl 3 rfl) ?_
            refine va_get (D := E.1) (ci := 4) (v := .ref (r 12)) (C := RX4) (T := TX4) (N := 13) hx hb hts (fun _ h => (List.mem_cons_of_mem _ (List.mem_append_left _ (List.mem_append_left _ (List.mem_append_left _ (List.mem_append_left _ (List.mem_append_right _ h))))))) hown hK.1 hP 15 rfl rfl 8 (by decide) (hts _ (List.mem_of_getElem? (i := 3) rfl)) (fun _ h9 => h9) rfl dX4_bestDoing_134 ?_
            refine lv_iload_n hx hb dX4_bestDoing_137 rfl (lv_at hl 1 rfl) ?_
            refine n_iald (f := upd (F_11 12) 0 (n_doing V F nw rv 0 (nI (up + lo)) (9 * up + 3 * m0 + m1))) hx hb hK.1 hP 19 0 rfl rfl (i := 0) (by omega) (by decide) dX4_bestDoing_138 ?_
            refine w_top (show (upd (F_11 12) 0 (n_doing V F nw rv 0 (nI (up + lo)) (9 * up + 3 * m0 + m1)) 0) = (n_doing V F nw rv 0 (nI (up + lo)) (9 * up + 3 * m0 + m1)) from pk_us) ?_
            exact q_ret ((Z_11, V_11, (va_up F_11 12 (upd (F_11 12) 0 (n_doing V F nw rv 0 (nI (up + lo)) (9 * up + 3 * m0 + m1))))) : CS) hx hb hr hlocks ⟨rfl, CI_d hC hp1 (fun k hk => (up_ne (by omega)).trans (hp2 k (by omega))) (w0 := 0) rfl (Or.inr (show upd (F_11 12) 0 (n_doing V F nw rv 0 (nI (up + lo)) (9 * up + 3 * m0 + m1)) = upd (f 12) (if nw < rv then 0 else 0) (n_doing V F nw rv 0 (nI (up + lo)) (9 * up + 3 * m0 + m1)) by rw [if_pos (by omega), hp2 12 (by omega)]))⟩ hP hD hS dX4_bestDoing_139
