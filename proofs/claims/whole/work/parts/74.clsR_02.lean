set_option maxHeartbeats 4000000 in
set_option maxRecDepth 100000 in
theorem c_X4_mode (l : Launch) (E : GG) (r z : Nat → Nat) (v : Nat → Int32) (f : Nat → Nat → Int32) (sz : Nat) (w : Int32) (k : Int32) (V : Nat → Int32) (F : Nat → Nat → Int32) (nw rv up lo m0 m1 : Nat) (hC : CI v f V F nw rv up lo m0 m1) : Met l yX4_mode wsX4_mode (Rm 6 0 0) (pM E [.ref (r 0), .int w, .int k] (CZ E r z v f) sz) (va_Qi (fun (x : Int32) (u : CS) => x = n_mode V F nw rv (nI (up + lo)) (9 * up + 3 * m0 + m1) w k ∧ CI u.2.1 u.2.2 V F nw rv up lo m0 m1) (bM E (va_A (CZ E r z v f) sz) (fun (u : CS) => CZ E r u.1 u.2.1 u.2.2)) (va_A (CZ E r z v f) sz)) 0 0 (va_A (CZ E r z v f) sz) := by
  refine ofM (by decide) rfl (Nat.le_of_ble_eq_true rfl) ?_
  intro p e s m below meth c A hx hb hr hlocks hml hown hin hts hK hP hD hS hA hsz hAe ls hl
  rw [← hAe]
  have hl : lv_has ls 4 [(0, .ref (r 0)), (1, .int w), (2, .int k)] := hl
  obtain ⟨hnw, hn24, hrv, hr24, hup, hup40, hlo, hlo40, hm0, h03, hm1, h13⟩ := CI_nat hC
  refine lv_iload_n hx hb dX4_mode_0 rfl (lv_at hl 1 rfl) ?_
  refine cR_S ⟨hx, hb, hml, hown, hts⟩ (c_X4_isWorld l E w) (va_cwS 1 hts gX4_mode_X4_isWorld rfl rfl rfl (by decide +kernel) ⟨Nat.le_of_ble_eq_true rfl, Nat.le_of_ble_eq_true rfl⟩) hK nilP rfl hl.1 rfl (Nat.le_of_ble_eq_true rfl) dX4_mode_1 ⟨Nat.le_of_ble_eq_true rfl, Nat.le_of_ble_eq_true rfl⟩ ?_
  refine b_if_eq (q := (m_in w 0 2)) (tgt := 23) hx hb dX4_mode_4 (by decide) (fun c_1 => ?_) (fun c_1 => ?_)
  · skip
    refine lv_iconst (v := (-1)) hx hb dX4_mode_23 (by decide) ?_
    exact q_ret ((z, v, f) : CS) hx hb hr hlocks ⟨by rw [n_mode, cI_f (fun q => c_1 q.1)], hC⟩ hP hD hS dX4_mode_24
  · skip
    refine lv_iload_n hx hb dX4_mode_7 rfl (lv_at hl 2 rfl) ?_
    refine cR_S ⟨hx, hb, hml, hown, hts⟩ (c_X4_isMachine l E k) (va_cwS 1 hts gX4_mode_X4_isMachine rfl rfl rfl (by decide +kernel) ⟨Nat.le_of_ble_eq_true rfl, Nat.le_of_ble_eq_true rfl⟩) hK nilP rfl hl.1 rfl (Nat.le_of_ble_eq_true rfl) dX4_mode_8 ⟨Nat.le_of_ble_eq_true rfl, Nat.le_of_ble_eq_true rfl⟩ ?_
    refine b_if_eq (q := (m_in k 0 1)) (tgt := 23) hx hb dX4_mode_11 (by decide) (fun c_2 => ?_) (fun c_2 => ?_)
    · skip
      refine lv_iconst (v := (-1)) hx hb dX4_mode_23 (by decide) ?_
      exact q_ret ((z, v, f) : CS) hx hb hr hlocks ⟨by rw [n_mode, cI_f (fun q => c_2 q.2.1)], hC⟩ hP hD hS dX4_mode_24
    · skip
      refine lv_aload_n hx hb dX4_mode_14 rfl (lv_at hl 0 rfl) ?_
      refine va_get (D := E.1) (ci := 4) (v := .int (v 32)) (C := RX4) (T := TX4) (N := 13) hx hb hts (fun _ h => (List.mem_cons_of_mem _ (List.mem_append_left _ (List.mem_append_left _ (List.mem_append_left _ (List.mem_append_left _ (List.mem_append_right _ h))))))) hown hK.1 hP 15 rfl rfl 11 (by decide) (hts _ (List.mem_of_getElem? (i := 1) rfl)) (fun _ h9 => h9) rfl dX4_mode_15 ?_
      refine w_top (show (v 32) = nI nw from hnw) ?_
      refine lv_bipush (v := 24) hx hb dX4_mode_18 (by decide) ?_
      refine n_icmp_lt (tgt := 25) (a := nw) (b := 24) hx hb dX4_mode_20 (by decide) (by omega) (by omega) (fun c_3 => ?_) (fun c_3 => ?_)
      · skip
        rcases in012 c_1 with rfl | rfl | rfl
        · skip
          refine lv_aload_n hx hb dX4_mode_25 rfl (lv_at hl 0 rfl) ?_
          refine lv_iload_n hx hb dX4_mode_26 rfl (lv_at hl 1 rfl) ?_
          refine cM_i (As := [.ref (r 0), .int 0]) (wr := []) (rM_V ⟨hx, hb, hml, hown, hts⟩ (c_X4_bestDoing0 l E r z v f s.heap.size V F nw rv up lo m0 m1 hC (by omega)) (cwV 1 hts gX4_mode_X4_bestDoing rfl rfl rfl (by decide +kernel) ⟨Nat.le_of_ble_eq_true rfl, Nat.le_of_ble_eq_true rfl⟩) hK hP hD 4 15 rfl rfl rfl hl.1 rfl (Nat.le_of_ble_eq_true rfl) dX4_mode_27 ⟨Nat.le_of_ble_eq_true rfl, Nat.le_of_ble_eq_true rfl⟩) hP hD hS hA [0, 1, 2, 3, 4, 5, 6, 7, 8, 9, 10, 11, 12, 13, 14, 15, 16, 17, 18, 19, 20, 21, 22, 23, 24, 25, 26, 27, 28, 29, 30, 31, 32, 33, 34, 35, 36, 37, 38, 39] [] rfl rfl (by decide) (by decide) (fun x_4 u_4 H locs hq_4 hP hD hS => ?_)
          obtain ⟨Z_4, V_4, F_4⟩ := u_4
          obtain ⟨ex_4, hC⟩ := hq_4
          dsimp only at hC
          obtain ⟨hnw, hn24, hrv, hr24, hup, hup40, hlo, hlo40, hm0, h03, hm1, h13⟩ := CI_nat hC
          have hP : va_P E.1 vwCl (CZ E r Z_4 V_4 F_4) H := hP
          have hD : va_D A (CZ E r Z_4 V_4 F_4) := hD
          refine lv_istore_n (lv' := [(3, .int x_4), (0, .ref (r 0)), (1, .int 0), (2, .int k)]) hx hb dX4_mode_30 rfl hl (by decide) rfl (fun ls hl => ?_)
          refine lv_iload_n hx hb dX4_mode_31 rfl (lv_at hl 0 rfl) ?_
          refine lv_iconst (v := (-1)) hx hb dX4_mode_32 (by decide) ?_
          refine lv_icmp_ne (tgt := 38) hx hb dX4_mode_33 (by decide) (fun c_5 => ?_) (fun c_5 => ?_)
          · skip
            have hge : (0 : Int32) ≤ x_4 := by
              rcases n_doing_cases V F nw rv 0 (nI (up + lo)) (9 * up + 3 * m0 + m1) with q | ⟨k9, hk9, q⟩
              · exact absurd (ex_4.trans q) c_5
              · rw [ex_4, q]; exact nI_ge0 (by omega)
            refine lv_iload_n hx hb dX4_mode_38 rfl (lv_at hl 3 rfl) ?_
            refine lv_if_ne (tgt := 48) hx hb dX4_mode_39 (by decide) (fun c_6 => ?_) (fun c_6 => ?_)
            · skip
              refine lv_iload_n hx hb dX4_mode_48 rfl (lv_at hl 0 rfl) ?_
              refine lv_iconst (v := 3) hx hb dX4_mode_49 (by decide) ?_
              refine lv_irem hx hb dX4_mode_50 (by decide) ?_
              exact q_ret ((Z_4, V_4, F_4) : CS) hx hb hr hlocks ⟨by rw [n_mode, cI_t ⟨c_1, c_2, by omega⟩, show ((0 : Int32)).toNatClampNeg = 0 from rfl, ← ex_4, n_md, if_pos hge, if_neg c_6], hC⟩ hP hD hS dX4_mode_51
            · skip
              refine lv_iload_n hx hb dX4_mode_42 rfl (lv_at hl 0 rfl) ?_
              refine lv_iconst (v := 3) hx hb dX4_mode_43 (by decide) ?_
              refine lv_idiv hx hb dX4_mode_44 (by decide) ?_
              refine lv_goto (tgt := 51) hx hb dX4_mode_45 (by decide) ?_
              exact q_ret ((Z_4, V_4, F_4) : CS) hx hb hr hlocks ⟨by rw [n_mode, cI_t ⟨c_1, c_2, by omega⟩, show ((0 : Int32)).toNatClampNeg = 0 from rfl, ← ex_4, n_md, if_pos hge, if_pos c_6], hC⟩ hP hD hS dX4_mode_51
          · skip
            refine lv_iconst (v := (-1)) hx hb dX4_mode_36 (by decide) ?_
            exact q_ret ((Z_4, V_4, F_4) : CS) hx hb hr hlocks ⟨by rw [n_mode, cI_t ⟨c_1, c_2, by omega⟩, show ((0 : Int32)).toNatClampNeg = 0 from rfl, ← ex_4, n_md, c_5]; rfl, hC⟩ hP hD hS dX4_mode_37
        · skip
          refine lv_aload_n hx hb dX4_mode_25 rfl (lv_at hl 0 rfl) ?_
          refine lv_iload_n hx hb dX4_mode_26 rfl (lv_at hl 1 rfl) ?_
          refine cM_i (As := [.ref (r 0), .int 1]) (wr := []) (rM_V ⟨hx, hb, hml, hown, hts⟩ (c_X4_bestDoing1 l E r z v f s.heap.size V F nw rv up lo m0 m1 hC (by omega)) (cwV 1 hts gX4_mode_X4_bestDoing rfl rfl rfl (by decide +kernel) ⟨Nat.le_of_ble_eq_true rfl, Nat.le_of_ble_eq_true rfl⟩) hK hP hD 4 15 rfl rfl rfl hl.1 rfl (Nat.le_of_ble_eq_true rfl) dX4_mode_27 ⟨Nat.le_of_ble_eq_true rfl, Nat.le_of_ble_eq_true rfl⟩) hP hD hS hA [0, 1, 2, 3, 4, 5, 6, 7, 8, 9, 10, 11, 12, 13, 14, 15, 16, 17, 18, 19, 20, 21, 22, 23, 24, 25, 26, 27, 28, 29, 30, 31, 32, 33, 34, 35, 36, 37, 38, 39] [] rfl rfl (by decide) (by decide) (fun x_7 u_7 H locs hq_7 hP hD hS => ?_)
          obtain ⟨Z_7, V_7, F_7⟩ := u_7
          obtain ⟨ex_7, hC⟩ := hq_7
          dsimp only at hC
          obtain ⟨hnw, hn24, hrv, hr24, hup, hup40, hlo, hlo40, hm0, h03, hm1, h13⟩ := CI_nat hC
          have hP : va_P E.1 vwCl (CZ E r Z_7 V_7 F_7) H := hP
          have hD : va_D A (CZ E r Z_7 V_7 F_7) := hD
          refine lv_istore_n (lv' := [(3, .int x_7), (0, .ref (r 0)), (1, .int 1), (2, .int k)]) hx hb dX4_mode_30 rfl hl (by decide) rfl (fun ls hl => ?_)
          refine lv_iload_n hx hb dX4_mode_31 rfl (lv_at hl 0 rfl) ?_
          refine lv_iconst (v := (-1)) hx hb dX4_mode_32 (by decide) ?_
          refine lv_icmp_ne (tgt := 38) hx hb dX4_mode_33 (by decide) (fun c_8 => ?_) (fun c_8 => ?_)
          · skip
            have hge : (0 : Int32) ≤ x_7 := by
              rcases n_doing_cases V F nw rv 1 (nI (up + lo)) (9 * up + 3 * m0 + m1) with q | ⟨k9, hk9, q⟩
              · exact absurd (ex_7.trans q) c_8
              · rw [ex_7, q]; exact nI_ge0 (by omega)
            refine lv_iload_n hx hb dX4_mode_38 rfl (lv_at hl 3 rfl) ?_
            refine lv_if_ne (tgt := 48) hx hb dX4_mode_39 (by decide) (fun c_9 => ?_) (fun c_9 => ?_)
            · skip
              refine lv_iload_n hx hb dX4_mode_48 rfl (lv_at hl 0 rfl) ?_
              refine lv_iconst (v := 3) hx hb dX4_mode_49 (by decide) ?_
              refine lv_irem hx hb dX4_mode_50 (by decide) ?_
              exact q_ret ((Z_7, V_7, F_7) : CS) hx hb hr hlocks ⟨by rw [n_mode, cI_t ⟨c_1, c_2, by omega⟩, show ((1 : Int32)).toNatClampNeg = 1 from rfl, ← ex_7, n_md, if_pos hge, if_neg c_9], hC⟩ hP hD hS dX4_mode_51
            · skip
              refine lv_iload_n hx hb dX4_mode_42 rfl (lv_at hl 0 rfl) ?_
              refine lv_iconst (v := 3) hx hb dX4_mode_43 (by decide) ?_
              refine lv_idiv hx hb dX4_mode_44 (by decide) ?_
              refine lv_goto (tgt := 51) hx hb dX4_mode_45 (by decide) ?_
              exact q_ret ((Z_7, V_7, F_7) : CS) hx hb hr hlocks ⟨by rw [n_mode, cI_t ⟨c_1, c_2, by omega⟩, show ((1 : Int32)).toNatClampNeg = 1 from rfl, ← ex_7, n_md, if_pos hge, if_pos c_9], hC⟩ hP hD hS dX4_mode_51
          · skip
            refine lv_iconst (v := (-1)) hx hb dX4_mode_36 (by decide) ?_
            exact q_ret ((Z_7, V_7, F_7) : CS) hx hb hr hlocks ⟨by rw [n_mode, cI_t ⟨c_1, c_2, by omega⟩, show ((1 : Int32)).toNatClampNeg = 1 from rfl, ← ex_7, n_md, c_8]; rfl, hC⟩ hP hD hS dX4_mode_37
        · skip
          refine lv_aload_n hx hb dX4_mode_25 rfl (lv_at hl 0 rfl) ?_
          refine lv_iload_n hx hb dX4_mode_26 rfl (lv_at hl 1 rfl) ?_
          refine cM_i (As := [.ref (r 0), .int 2]) (wr := []) (rM_V ⟨hx, hb, hml, hown, hts⟩ (c_X4_bestDoing2 l E r z v f s.heap.size V F nw rv up lo m0 m1 hC (by omega)) (cwV 1 hts gX4_mode_X4_bestDoing rfl rfl rfl (by decide +kernel) ⟨Nat.le_of_ble_eq_true rfl, Nat.le_of_ble_eq_true rfl⟩) hK hP hD 4 15 rfl rfl rfl hl.1 rfl (Nat.le_of_ble_eq_true rfl) dX4_mode_27 ⟨Nat.le_of_ble_eq_true rfl, Nat.le_of_ble_eq_true rfl⟩) hP hD hS hA [0, 1, 2, 3, 4, 5, 6, 7, 8, 9, 10, 11, 12, 13, 14, 15, 16, 17, 18, 19, 20, 21, 22, 23, 24, 25, 26, 27, 28, 29, 30, 31, 32, 33, 34, 35, 36, 37, 38, 39] [] rfl rfl (by decide) (by decide) (fun x_10 u_10 H locs hq_10 hP hD hS => ?_)
          obtain ⟨Z_10, V_10, F_10⟩ := u_10
          obtain ⟨ex_10, hC⟩ := hq_10
          dsimp only at hC
          obtain ⟨hnw, hn24, hrv, hr24, hup, hup40, hlo, hlo40, hm0, h03, hm1, h13⟩ := CI_nat hC
          have hP : va_P E.1 vwCl (CZ E r Z_10 V_10 F_10) H := hP
          have hD : va_D A (CZ E r Z_10 V_10 F_10) := hD
          refine lv_istore_n (lv' := [(3, .int x_10), (0, .ref (r 0)), (1, .int 2), (2, .int k)]) hx hb dX4_mode_30 rfl hl (by decide) rfl (fun ls hl => ?_)
          refine lv_iload_n hx hb dX4_mode_31 rfl (lv_at hl 0 rfl) ?_
          refine lv_iconst (v := (-1)) hx hb dX4_mode_32 (by decide) ?_
          refine lv_icmp_ne (tgt := 38) hx hb dX4_mode_33 (by decide) (fun c_11 => ?_) (fun c_11 => ?_)
          · skip
            have hge : (0 : Int32) ≤ x_10 := by
              rcases n_doing_cases V F nw rv 2 (nI (up + lo)) (9 * up + 3 * m0 + m1) with q | ⟨k9, hk9, q⟩
              · exact absurd (ex_10.trans q) c_11
              · rw [ex_10, q]; exact nI_ge0 (by omega)
            refine lv_iload_n hx hb dX4_mode_38 rfl (lv_at hl 3 rfl) ?_
            refine lv_if_ne (tgt := 48) hx hb dX4_mode_39 (by decide) (fun c_12 => ?_) (fun c_12 => ?_)
            · skip
              refine lv_iload_n hx hb dX4_mode_48 rfl (lv_at hl 0 rfl) ?_
              refine lv_iconst (v := 3) hx hb dX4_mode_49 (by decide) ?_
              refine lv_irem hx hb dX4_mode_50 (by decide) ?_
              exact q_ret ((Z_10, V_10, F_10) : CS) hx hb hr hlocks ⟨by rw [n_mode, cI_t ⟨c_1, c_2, by omega⟩, show ((2 : Int32)).toNatClampNeg = 2 from rfl, ← ex_10, n_md, if_pos hge, if_neg c_12], hC⟩ hP hD hS dX4_mode_51
            · skip
              refine lv_iload_n hx hb dX4_mode_42 rfl (lv_at hl 0 rfl) ?_
              refine lv_iconst (v := 3) hx hb dX4_mode_43 (by decide) ?_
              refine lv_idiv hx hb dX4_mode_44 (by decide) ?_
              refine lv_goto (tgt := 51) hx hb dX4_mode_45 (by decide) ?_
              exact q_ret ((Z_10, V_10, F_10) : CS) hx hb hr hlocks ⟨by rw [n_mode, cI_t ⟨c_1, c_2, by omega⟩, show ((2 : Int32)).toNatClampNeg = 2 from rfl, ← ex_10, n_md, if_pos hge, if_pos c_12], hC⟩ hP hD hS dX4_mode_51
          · skip
            refine lv_iconst (v := (-1)) hx hb dX4_mode_36 (by decide) ?_
            exact q_ret ((Z_10, V_10, F_10) : CS) hx hb hr hlocks ⟨by rw [n_mode, cI_t ⟨c_1, c_2, by omega⟩, show ((2 : Int32)).toNatClampNeg = 2 from rfl, ← ex_10, n_md, c_11]; rfl, hC⟩ hP hD hS dX4_mode_37
      · skip
        refine lv_iconst (v := (-1)) hx hb dX4_mode_23 (by decide) ?_
        exact q_ret ((z, v, f) : CS) hx hb hr hlocks ⟨by rw [n_mode, cI_f (fun q => q.2.2 (by omega))], hC⟩ hP hD hS dX4_mode_24
