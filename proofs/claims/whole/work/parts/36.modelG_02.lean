set_option maxHeartbeats 4000000 in
set_option maxRecDepth 100000 in
theorem c_X5_doing (l : Launch) (E : GG) (r : Nat → Nat) (v : Nat → Int32) (f : Nat → Nat → Int32) (B C : Nat → Int32) (sz : Nat) (w : Nat) (hw : w < 3) (nw rv up lo m0 m1 : Nat) (hnw : v 1 = nI nw) (hn24 : nw < 24) (hrv : v 19 = nI rv) (hr24 : rv ≤ 24) (h40 : (v 2).toInt ≤ 40) (hup : v 4 = nI up) (hu40 : up ≤ 40) (hlo : v 5 = nI lo) (hm0 : f 21 0 = nI m0) (h03 : m0 < 3) (hm1 : f 21 1 = nI m1) (h13 : m1 < 3) : Met l yX5_doing wsX5_doing (Rm 6 1 25) (pM E [.ref (r 0), .int (nI w)] (MW E r v f B C) sz) (va_Qi (fun (x : Int32) (u : MS) => x = n_doing v f nw rv w (nI (up + lo)) (9 * up + 3 * m0 + m1) ∧ u.1 = v ∧ u.2.1 = f) (bM E (va_A (MW E r v f B C) sz) (MWu E r)) (va_A (MW E r v f B C) sz)) 1 25 (va_A (MW E r v f B C) sz) := by
  refine ofM (by decide) rfl (Nat.le_of_ble_eq_true rfl) ?_
  intro p e s m below meth c A hx hb hr hlocks hml hown hin hts hK hP hD hS hA hsz hAe ls hl
  rw [← hAe]
  have hl : lv_has ls 5 [(0, .ref (r 0)), (1, .int (nI w))] := hl
  refine lv_aload_n hx hb dX5_doing_0 rfl (lv_at hl 0 rfl) ?_
  refine lv_aload_n hx hb dX5_doing_1 rfl (lv_at hl 0 rfl) ?_
  refine va_get (D := E.1) (ci := 5) (v := .int (v 4)) (C := RX5) (T := TX5) (N := 26) hx hb hts (fun _ h => (List.mem_cons_of_mem _ (List.mem_append_right _ h))) hown hK.1 hP 0 rfl rfl 4 (by decide) (hts _ (List.mem_of_getElem? (i := 1) rfl)) (fun _ h9 => h9) rfl dX5_doing_2 ?_
  refine w_top (show (v 4) = nI up from hup) ?_
  refine lv_aload_n hx hb dX5_doing_5 rfl (lv_at hl 0 rfl) ?_
  refine va_get (D := E.1) (ci := 5) (v := .int (v 5)) (C := RX5) (T := TX5) (N := 26) hx hb hts (fun _ h => (List.mem_cons_of_mem _ (List.mem_append_right _ h))) hown hK.1 hP 0 rfl rfl 5 (by decide) (hts _ (List.mem_of_getElem? (i := 2) rfl)) (fun _ h9 => h9) rfl dX5_doing_6 ?_
  refine w_top (show (v 5) = nI lo from hlo) ?_
  refine lv_iadd hx hb dX5_doing_9 ?_
  refine w_top (show ((nI up) + (nI lo)) = (nI (up + lo)) from nI_add _ _) ?_
  refine cM_v (As := [.ref (r 0), .int (nI (up + lo))]) (wr := []) (rM_V ⟨hx, hb, hml, hown, hts⟩ (c_X5_laysOut l E r v f B C s.heap.size (nI (up + lo)) nw rv hnw (by omega) hrv hr24 h40) (cwV 1 hts gX5_doing_X5_laysOut rfl rfl rfl (by decide +kernel) ⟨Nat.le_of_ble_eq_true rfl, Nat.le_of_ble_eq_true rfl⟩) hK hP hD 5 0 rfl rfl rfl hl.1 rfl (Nat.le_of_ble_eq_true rfl) dX5_doing_10 ⟨Nat.le_of_ble_eq_true rfl, Nat.le_of_ble_eq_true rfl⟩) hP hD hS hA [0, 1, 2, 3, 4, 5, 6, 7, 8, 9, 10, 11, 12, 13, 14, 15] [] rfl rfl (by decide) (by decide) (fun u_1 H locs hq_1 hP hD hS => ?_)
  obtain ⟨v_, f_, B_1, C_1⟩ := u_1
  obtain ⟨e1, e2, hB_1, hC_1⟩ := hq_1
  dsimp only at e1 e2 hB_1 hC_1
  replace e1 := e1.symm
  replace e2 := e2.symm
  subst e1 e2
  have hP : va_P E.1 vwCl (MW E r v f B_1 C_1) H := hP
  have hD : va_D A (MW E r v f B_1 C_1) := hD
  refine lv_aload_n hx hb dX5_doing_13 rfl (lv_at hl 0 rfl) ?_
  refine va_get (D := E.1) (ci := 5) (v := .int (v 1)) (C := RX5) (T := TX5) (N := 26) hx hb hts (fun _ h => (List.mem_cons_of_mem _ (List.mem_append_right _ h))) hown hK.1 hP 0 rfl rfl 1 (by decide) (hts _ (List.mem_of_getElem? (i := 3) rfl)) (fun _ h9 => h9) rfl dX5_doing_14 ?_
  refine w_top (show (v 1) = nI nw from hnw) ?_
  refine lv_aload_n hx hb dX5_doing_17 rfl (lv_at hl 0 rfl) ?_
  refine va_get (D := E.1) (ci := 5) (v := .int (v 19)) (C := RX5) (T := TX5) (N := 26) hx hb hts (fun _ h => (List.mem_cons_of_mem _ (List.mem_append_right _ h))) hown hK.1 hP 0 rfl rfl 19 (by decide) (hts _ (List.mem_of_getElem? (i := 4) rfl)) (fun _ h9 => h9) rfl dX5_doing_18 ?_
  refine w_top (show (v 19) = nI rv from hrv) ?_
  refine n_icmp_lt (tgt := 28) (a := nw) (b := rv) hx hb dX5_doing_21 (by decide) (by omega) (by omega) (fun c_2 => ?_) (fun c_2 => ?_)
  · skip
    refine lv_iconst (v := (-1)) hx hb dX5_doing_28 (by decide) ?_
    refine lv_istore_n (lv' := [(2, .int (-1)), (0, .ref (r 0)), (1, .int (nI w))]) hx hb dX5_doing_29 rfl hl (by decide) rfl (fun ls hl => ?_)
    refine lv_aload_n hx hb dX5_doing_30 rfl (lv_at hl 1 rfl) ?_
    refine lv_iload_n hx hb dX5_doing_31 rfl (lv_at hl 0 rfl) ?_
    refine lv_aload_n hx hb dX5_doing_32 rfl (lv_at hl 1 rfl) ?_
    refine va_get (D := E.1) (ci := 5) (v := .int (v 1)) (C := RX5) (T := TX5) (N := 26) hx hb hts (fun _ h => (List.mem_cons_of_mem _ (List.mem_append_right _ h))) hown hK.1 hP 0 rfl rfl 1 (by decide) (hts _ (List.mem_of_getElem? (i := 3) rfl)) (fun _ h9 => h9) rfl dX5_doing_33 ?_
    refine w_top (show (v 1) = nI nw from hnw) ?_
    refine lv_aload_n hx hb dX5_doing_36 rfl (lv_at hl 1 rfl) ?_
    refine cR_V ⟨hx, hb, hml, hown, hts⟩ (c_X5_stateNow l E r v f B_1 C_1 up m0 m1 hup hm0 hm1) (cwV 0 hts gX5_doing_X5_stateNow rfl rfl rfl (by decide +kernel) ⟨Nat.le_of_ble_eq_true rfl, Nat.le_of_ble_eq_true rfl⟩) hK hP 5 0 rfl rfl rfl hl.1 rfl (Nat.le_of_ble_eq_true rfl) dX5_doing_37 ⟨Nat.le_of_ble_eq_true rfl, Nat.le_of_ble_eq_true rfl⟩ ?_
    refine lv_aload_n hx hb dX5_doing_40 rfl (lv_at hl 1 rfl) ?_
    refine va_get (D := E.1) (ci := 5) (v := .int (v 4)) (C := RX5) (T := TX5) (N := 26) hx hb hts (fun _ h => (List.mem_cons_of_mem _ (List.mem_append_right _ h))) hown hK.1 hP 0 rfl rfl 4 (by decide) (hts _ (List.mem_of_getElem? (i := 1) rfl)) (fun _ h9 => h9) rfl dX5_doing_41 ?_
    refine w_top (show (v 4) = nI up from hup) ?_
    refine lv_aload_n hx hb dX5_doing_44 rfl (lv_at hl 1 rfl) ?_
    refine va_get (D := E.1) (ci := 5) (v := .int (v 5)) (C := RX5) (T := TX5) (N := 26) hx hb hts (fun _ h => (List.mem_cons_of_mem _ (List.mem_append_right _ h))) hown hK.1 hP 0 rfl rfl 5 (by decide) (hts _ (List.mem_of_getElem? (i := 2) rfl)) (fun _ h9 => h9) rfl dX5_doing_45 ?_
    refine w_top (show (v 5) = nI lo from hlo) ?_
    refine lv_iadd hx hb dX5_doing_48 ?_
    refine w_top (show ((nI up) + (nI lo)) = (nI (up + lo)) from nI_add _ _) ?_
    refine cR_V ⟨hx, hb, hml, hown, hts⟩ (c_X5_bestOfA l E r v f B_1 C_1 nw (9 * up + 3 * m0 + m1) (nI (up + lo)) (by omega) (by omega) h40) (cwV 4 hts gX5_doing_X5_bestOf rfl rfl rfl (by decide +kernel) ⟨Nat.le_of_ble_eq_true rfl, Nat.le_of_ble_eq_true rfl⟩) hK hP 5 0 rfl rfl rfl hl.1 rfl (Nat.le_of_ble_eq_true rfl) dX5_doing_49 ⟨Nat.le_of_ble_eq_true rfl, Nat.le_of_ble_eq_true rfl⟩ ?_
    refine w_top (show (m_b9 (m_brA v f C_1 nw (9 * up + 3 * m0 + m1) (nI (up + lo)))) = (m_b9 (gA v f nw rv (nI (up + lo)) (9 * up + 3 * m0 + m1))) from (m_b9_congr (fun a b ha hb => gA_eq h40 hC_1 (by omega) ha hb))) ?_
    refine lv_istore_n (lv' := [(3, .int (m_b9 (gA v f nw rv (nI (up + lo)) (9 * up + 3 * m0 + m1)))), (2, .int (-1)), (0, .ref (r 0)), (1, .int (nI w))]) hx hb dX5_doing_52 rfl hl (by decide) rfl (fun ls hl => ?_)
    refine lv_iconst (v := 0) hx hb dX5_doing_53 (by decide) ?_
    refine lv_istore (lv' := [(4, .int 0), (3, .int (m_b9 (gA v f nw rv (nI (up + lo)) (9 * up + 3 * m0 + m1)))), (2, .int (-1)), (0, .ref (r 0)), (1, .int (nI w))]) hx hb dX5_doing_54 hl (by decide) rfl (fun ls hl => ?_)
    refine lv_iload hx hb dX5_doing_56 (lv_at hl 0 rfl) ?_
    refine lv_bipush (v := 9) hx hb dX5_doing_58 (by decide) ?_
    refine n_icmp_ge (tgt := 112) (a := 0) (b := 9) hx hb dX5_doing_60 (by decide) (by omega) (by omega) (fun c_3 => ?_) (fun c_3 => ?_)
    · skip
      exact absurd c_3 (by decide)
    · skip
      refine lv_iload_n hx hb dX5_doing_63 rfl (lv_at hl 1 rfl) ?_
      refine lv_ldc hx hb hown (hts _ (List.mem_of_getElem? (i := 5) rfl)) dX5_doing_64 ?_
      refine lv_icmp_eq (tgt := 112) hx hb dX5_doing_66 (by decide) (fun c_4 => ?_) (fun c_4 => ?_)
      · skip
        refine lv_iconst (v := (-1)) hx hb dX5_doing_112 (by decide) ?_
        refine W.widen (k := 1) (n := 25) (Nat.le_of_ble_eq_true rfl) (Nat.le_of_ble_eq_true rfl) ?_
        exact q_ret ((v, f, B_1, C_1) : MS) hx hb hr hlocks ⟨by rw [n_doing, if_neg (show ¬ rv ≤ nw by omega), n_do9, if_pos c_4] <;> rfl, rfl, rfl⟩ hP hD hS dX5_doing_113
      · skip
        refine lv_aload_n hx hb dX5_doing_69 rfl (lv_at hl 3 rfl) ?_
        refine lv_iload_n hx hb dX5_doing_70 rfl (lv_at hl 2 rfl) ?_
        refine lv_aload_n hx hb dX5_doing_71 rfl (lv_at hl 3 rfl) ?_
        refine va_get (D := E.1) (ci := 5) (v := .int (v 1)) (C := RX5) (T := TX5) (N := 26) hx hb hts (fun _ h => (List.mem_cons_of_mem _ (List.mem_append_right _ h))) hown hK.1 hP 0 rfl rfl 1 (by decide) (hts _ (List.mem_of_getElem? (i := 3) rfl)) (fun _ h9 => h9) rfl dX5_doing_72 ?_
        refine w_top (show (v 1) = nI nw from hnw) ?_
        refine lv_aload_n hx hb dX5_doing_75 rfl (lv_at hl 3 rfl) ?_
        refine cR_V ⟨hx, hb, hml, hown, hts⟩ (c_X5_stateNow l E r v f B_1 C_1 up m0 m1 hup hm0 hm1) (cwV 0 hts gX5_doing_X5_stateNow rfl rfl rfl (by decide +kernel) ⟨Nat.le_of_ble_eq_true rfl, Nat.le_of_ble_eq_true rfl⟩) hK hP 5 0 rfl rfl rfl hl.1 rfl (Nat.le_of_ble_eq_true rfl) dX5_doing_76 ⟨Nat.le_of_ble_eq_true rfl, Nat.le_of_ble_eq_true rfl⟩ ?_
        refine lv_aload_n hx hb dX5_doing_79 rfl (lv_at hl 3 rfl) ?_
        refine va_get (D := E.1) (ci := 5) (v := .int (v 4)) (C := RX5) (T := TX5) (N := 26) hx hb hts (fun _ h => (List.mem_cons_of_mem _ (List.mem_append_right _ h))) hown hK.1 hP 0 rfl rfl 4 (by decide) (hts _ (List.mem_of_getElem? (i := 1) rfl)) (fun _ h9 => h9) rfl dX5_doing_80 ?_
        refine w_top (show (v 4) = nI up from hup) ?_
        refine lv_aload_n hx hb dX5_doing_83 rfl (lv_at hl 3 rfl) ?_
        refine va_get (D := E.1) (ci := 5) (v := .int (v 5)) (C := RX5) (T := TX5) (N := 26) hx hb hts (fun _ h => (List.mem_cons_of_mem _ (List.mem_append_right _ h))) hown hK.1 hP 0 rfl rfl 5 (by decide) (hts _ (List.mem_of_getElem? (i := 2) rfl)) (fun _ h9 => h9) rfl dX5_doing_84 ?_
        refine w_top (show (v 5) = nI lo from hlo) ?_
        refine lv_iadd hx hb dX5_doing_87 ?_
        refine w_top (show ((nI up) + (nI lo)) = (nI (up + lo)) from nI_add _ _) ?_
        refine lv_iload hx hb dX5_doing_88 (lv_at hl 0 rfl) ?_
        refine lv_iconst (v := 3) hx hb dX5_doing_90 (by decide) ?_
        refine lv_idiv hx hb dX5_doing_91 (by decide) ?_
        refine w_top (show (0 / 3) = (nI 0) from pk_div (a := 0) (d := 3) (by omega) (by decide) (by decide)) ?_
        refine lv_iload hx hb dX5_doing_92 (lv_at hl 0 rfl) ?_
        refine lv_iconst (v := 3) hx hb dX5_doing_94 (by decide) ?_
        refine lv_irem hx hb dX5_doing_95 (by decide) ?_
        refine w_top (show (0 - 0 / 3 * 3) = (nI 0) from pk_rem (a := 0) (d := 3) (by omega) (by decide) (by decide)) ?_
        refine cR_V ⟨hx, hb, hml, hown, hts⟩ (c_X5_bringsA l E r v f B_1 C_1 nw (9 * up + 3 * m0 + m1) (nI (up + lo)) 0 0 (by omega) (by omega) (by omega) (by omega) h40) (cwV 6 hts gX5_doing_X5_brings rfl rfl rfl (by decide +kernel) ⟨Nat.le_of_ble_eq_true rfl, Nat.le_of_ble_eq_true rfl⟩) hK hP 5 0 rfl rfl rfl hl.1 rfl (Nat.le_of_ble_eq_true rfl) dX5_doing_96 ⟨Nat.le_of_ble_eq_true rfl, Nat.le_of_ble_eq_true rfl⟩ ?_
        refine w_top (show (m_brA v f C_1 nw (9 * up + 3 * m0 + m1) (nI (up + lo)) 0 0) = ((gA v f nw rv (nI (up + lo)) (9 * up + 3 * m0 + m1)) 0 0) from (gA_eq h40 hC_1 (by omega) (by decide) (by decide))) ?_
        refine lv_iload_n hx hb dX5_doing_99 rfl (lv_at hl 1 rfl) ?_
        refine lv_icmp_ne (tgt := 106) hx hb dX5_doing_100 (by decide) (fun c_5 => ?_) (fun c_5 => ?_)
        · skip
          refine lv_iinc (v := (nI 1)) (lv' := [(4, .int (nI 1)), (3, .int (m_b9 (gA v f nw rv (nI (up + lo)) (9 * up + 3 * m0 + m1)))), (2, .int (-1)), (0, .ref (r 0)), (1, .int (nI w))]) hx hb dX5_doing_106 hl (k := 0) rfl (nI_1 _) (by decide) rfl (fun ls hl => ?_)
          refine lv_goto (tgt := 56) hx hb dX5_doing_109 (by decide) ?_
          refine lv_iload hx hb dX5_doing_56 (lv_at hl 0 rfl) ?_
          refine lv_bipush (v := 9) hx hb dX5_doing_58 (by decide) ?_
          refine n_icmp_ge (tgt := 112) (a := 1) (b := 9) hx hb dX5_doing_60 (by decide) (by omega) (by omega) (fun c_6 => ?_) (fun c_6 => ?_)
          · skip
            exact absurd c_6 (by decide)
          · skip
            refine lv_iload_n hx hb dX5_doing_63 rfl (lv_at hl 1 rfl) ?_
            refine lv_ldc hx hb hown (hts _ (List.mem_of_getElem? (i := 5) rfl)) dX5_doing_64 ?_
            refine lv_icmp_eq (tgt := 112) hx hb dX5_doing_66 (by decide) (fun c_7 => ?_) (fun c_7 => ?_)
            · skip
              exact absurd c_7 c_4
            · skip
              refine lv_aload_n hx hb dX5_doing_69 rfl (lv_at hl 3 rfl) ?_
              refine lv_iload_n hx hb dX5_doing_70 rfl (lv_at hl 2 rfl) ?_
              refine lv_aload_n hx hb dX5_doing_71 rfl (lv_at hl 3 rfl) ?_
              refine va_get (D := E.1) (ci := 5) (v := .int (v 1)) (C := RX5) (T := TX5) (N := 26) hx hb hts (fun _ h => (List.mem_cons_of_mem _ (List.mem_append_right _ h))) hown hK.1 hP 0 rfl rfl 1 (by decide) (hts _ (List.mem_of_getElem? (i := 3) rfl)) (fun _ h9 => h9) rfl dX5_doing_72 ?_
              refine w_top (show (v 1) = nI nw from hnw) ?_
              refine lv_aload_n hx hb dX5_doing_75 rfl (lv_at hl 3 rfl) ?_
              refine cR_V ⟨hx, hb, hml, hown, hts⟩ (c_X5_stateNow l E r v f B_1 C_1 up m0 m1 hup hm0 hm1) (cwV 0 hts gX5_doing_X5_stateNow rfl rfl rfl (by decide +kernel) ⟨Nat.le_of_ble_eq_true rfl, Nat.le_of_ble_eq_true rfl⟩) hK hP 5 0 rfl rfl rfl hl.1 rfl (Nat.le_of_ble_eq_true rfl) dX5_doing_76 ⟨Nat.le_of_ble_eq_true rfl, Nat.le_of_ble_eq_true rfl⟩ ?_
              refine lv_aload_n hx hb dX5_doing_79 rfl (lv_at hl 3 rfl) ?_
              refine va_get (D := E.1) (ci := 5) (v := .int (v 4)) (C := RX5) (T := TX5) (N := 26) hx hb hts (fun _ h => (List.mem_cons_of_mem _ (List.mem_append_right _ h))) hown hK.1 hP 0 rfl rfl 4 (by decide) (hts _ (List.mem_of_getElem? (i := 1) rfl)) (fun _ h9 => h9) rfl dX5_doing_80 ?_
              refine w_top (show (v 4) = nI up from hup) ?_
              refine lv_aload_n hx hb dX5_doing_83 rfl (lv_at hl 3 rfl) ?_
              refine va_get (D := E.1) (ci := 5) (v := .int (v 5)) (C := RX5) (T := TX5) (N := 26) hx hb hts (fun _ h => (List.mem_cons_of_mem _ (List.mem_append_right _ h))) hown hK.1 hP 0 rfl rfl 5 (by decide) (hts _ (List.mem_of_getElem? (i := 2) rfl)) (fun _ h9 => h9) rfl dX5_doing_84 ?_
              refine w_top (show (v 5) = nI lo from hlo) ?_
              refine lv_iadd hx hb dX5_doing_87 ?_
              refine w_top (show ((nI up) + (nI lo)) = (nI (up + lo)) from nI_add _ _) ?_
              refine lv_iload hx hb dX5_doing_88 (lv_at hl 0 rfl) ?_
              refine lv_iconst (v := 3) hx hb dX5_doing_90 (by decide) ?_
              refine lv_idiv hx hb dX5_doing_91 (by decide) ?_
              refine w_top (show ((nI 1) / 3) = (nI 0) from pk_div (a := 1) (d := 3) (by omega) (by decide) (by decide)) ?_
              refine lv_iload hx hb dX5_doing_92 (lv_at hl 0 rfl) ?_
              refine lv_iconst (v := 3) hx hb dX5_doing_94 (by decide) ?_
              refine lv_irem hx hb dX5_doing_95 (by decide) ?_
              refine w_top (show ((nI 1) - (nI 1) / 3 * 3) = (nI 1) from pk_rem (a := 1) (d := 3) (by omega) (by decide) (by decide)) ?_
              refine cR_V ⟨hx, hb, hml, hown, hts⟩ (c_X5_bringsA l E r v f B_1 C_1 nw (9 * up + 3 * m0 + m1) (nI (up + lo)) 0 1 (by omega) (by omega) (by omega) (by omega) h40) (cwV 6 hts gX5_doing_X5_brings rfl rfl rfl (by decide +kernel) ⟨Nat.le_of_ble_eq_true rfl, Nat.le_of_ble_eq_true rfl⟩) hK hP 5 0 rfl rfl rfl hl.1 rfl (Nat.le_of_ble_eq_true rfl) dX5_doing_96 ⟨Nat.le_of_ble_eq_true rfl, Nat.le_of_ble_eq_true rfl⟩ ?_
              refine w_top (show (m_brA v f C_1 nw (9 * up + 3 * m0 + m1) (nI (up + lo)) 0 1) = ((gA v f nw rv (nI (up + lo)) (9 * up + 3 * m0 + m1)) 0 1) from (gA_eq h40 hC_1 (by omega) (by decide) (by decide))) ?_
              refine lv_iload_n hx hb dX5_doing_99 rfl (lv_at hl 1 rfl) ?_
              refine lv_icmp_ne (tgt := 106) hx hb dX5_doing_100 (by decide) (fun c_8 => ?_) (fun c_8 => ?_)
              · skip
                refine lv_iinc (v := (nI 2)) (lv' := [(4, .int (nI 2)), (3, .int (m_b9 (gA v f nw rv (nI (up + lo)) (9 * up + 3 * m0 + m1)))), (2, .int (-1)), (0, .ref (r 0)), (1, .int (nI w))]) hx hb dX5_doing_106 hl (k := 0) rfl (nI_1 _) (by decide) rfl (fun ls hl => ?_)
                refine lv_goto (tgt := 56) hx hb dX5_doing_109 (by decide) ?_
                refine lv_iload hx hb dX5_doing_56 (lv_at hl 0 rfl) ?_
                refine lv_bipush (v := 9) hx hb dX5_doing_58 (by decide) ?_
                refine n_icmp_ge (tgt := 112) (a := 2) (b := 9) hx hb dX5_doing_60 (by decide) (by omega) (by omega) (fun c_9 => ?_) (fun c_9 => ?_)
                · skip
                  exact absurd c_9 (by decide)
                · skip
                  refine lv_iload_n hx hb dX5_doing_63 rfl (lv_at hl 1 rfl) ?_
                  refine lv_ldc hx hb hown (hts _ (List.mem_of_getElem? (i := 5) rfl)) dX5_doing_64 ?_
                  refine lv_icmp_eq (tgt := 112) hx hb dX5_doing_66 (by decide) (fun c_10 => ?_) (fun c_10 => ?_)
                  · skip
                    exact absurd c_10 c_4
                  · skip
                    refine lv_aload_n hx hb dX5_doing_69 rfl (lv_at hl 3 rfl) ?_
                    refine lv_iload_n hx hb dX5_doing_70 rfl (lv_at hl 2 rfl) ?_
                    refine lv_aload_n hx hb dX5_doing_71 rfl (lv_at hl 3 rfl) ?_
                    refine va_get (D := E.1) (ci := 5) (v := .int (v 1)) (C := RX5) (T := TX5) (N := 26) hx hb hts (fun _ h => (List.mem_cons_of_mem _ (List.mem_append_right _ h))) hown hK.1 hP 0 rfl rfl 1 (by decide) (hts _ (List.mem_of_getElem? (i := 3) rfl)) (fun _ h9 => h9) rfl dX5_doing_72 ?_
                    refine w_top (show (v 1) = nI nw from hnw) ?_
                    refine lv_aload_n hx hb dX5_doing_75 rfl (lv_at hl 3 rfl) ?_
                    refine cR_V ⟨hx, hb, hml, hown, hts⟩ (c_X5_stateNow l E r v f B_1 C_1 up m0 m1 hup hm0 hm1) (cwV 0 hts gX5_doing_X5_stateNow rfl rfl rfl (by decide +kernel) ⟨Nat.le_of_ble_eq_true rfl, Nat.le_of_ble_eq_true rfl⟩) hK hP 5 0 rfl rfl rfl hl.1 rfl (Nat.le_of_ble_eq_true rfl) dX5_doing_76 ⟨Nat.le_of_ble_eq_true rfl, Nat.le_of_ble_eq_true rfl⟩ ?_
                    refine lv_aload_n hx hb dX5_doing_79 rfl (lv_at hl 3 rfl) ?_
                    refine va_get (D := E.1) (ci := 5) (v := .int (v 4)) (C := RX5) (T := TX5) (N := 26) hx hb hts (fun _ h => (List.mem_cons_of_mem _ (List.mem_append_right _ h))) hown hK.1 hP 0 rfl rfl 4 (by decide) (hts _ (List.mem_of_getElem? (i := 1) rfl)) (fun _ h9 => h9) rfl dX5_doing_80 ?_
                    refine w_top (show (v 4) = nI up from hup) ?_
                    refine lv_aload_n hx hb dX5_doing_83 rfl (lv_at hl 3 rfl) ?_
                    refine va_get (D := E.1) (ci := 5) (v := .int (v 5)) (C := RX5) (T := TX5) (N := 26) hx hb hts (fun _ h => (List.mem_cons_of_mem _ (List.mem_append_right _ h))) hown hK.1 hP 0 rfl rfl 5 (by decide) (hts _ (List.mem_of_getElem? (i := 2) rfl)) (fun _ h9 => h9) rfl dX5_doing_84 ?_
                    refine w_top (show (v 5) = nI lo from hlo) ?_
                    refine lv_iadd hx hb dX5_doing_87 ?_
                    refine w_top (show ((nI up) + (nI lo)) = (nI (up + lo)) from nI_add _ _) ?_
                    refine lv_iload hx hb dX5_doing_88 (lv_at hl 0 rfl) ?_
                    refine lv_iconst (v := 3) hx hb dX5_doing_90 (by decide) ?_
                    refine lv_idiv hx hb dX5_doing_91 (by decide) ?_
                    refine w_top (show ((nI 2) / 3) = (nI 0) from pk_div (a := 2) (d := 3) (by omega) (by decide) (by decide)) ?_
                    refine lv_iload hx hb dX5_doing_92 (lv_at hl 0 rfl) ?_
                    refine lv_iconst (v := 3) hx hb dX5_doing_94 (by decide) ?_
                    refine lv_irem hx hb dX5_doing_95 (by decide) ?_
                    refine w_top (show ((nI 2) - (nI 2) / 3 * 3) = (nI 2) from pk_rem (a := 2) (d := 3) (by omega) (by decide) (by decide)) ?_
                    refine cR_V ⟨hx, hb, hml, hown, hts⟩ (c_X5_bringsA l E r v f B_1 C_1 nw (9 * up + 3 * m0 + m1) (nI (up + lo)) 0 2 (by omega) (by omega) (by omega) (by omega) h40) (cwV 6 hts gX5_doing_X5_brings rfl rfl rfl (by decide +kernel) ⟨Nat.le_of_ble_eq_true rfl, Nat.le_of_ble_eq_true rfl⟩) hK hP 5 0 rfl rfl rfl hl.1 rfl (Nat.le_of_ble_eq_true rfl) dX5_doing_96 ⟨Nat.le_of_ble_eq_true rfl, Nat.le_of_ble_eq_true rfl⟩ ?_
                    refine w_top (show (m_brA v f C_1 nw (9 * up + 3 * m0 + m1) (nI (up + lo)) 0 2) = ((gA v f nw rv (nI (up + lo)) (9 * up + 3 * m0 + m1)) 0 2) from (gA_eq h40 hC_1 (by omega) (by decide) (by decide))) ?_
                    refine lv_iload_n hx hb dX5_doing_99 rfl (lv_at hl 1 rfl) ?_
                    refine lv_icmp_ne (tgt := 106) hx hb dX5_doing_100 (by decide) (fun c_11 => ?_) (fun c_11 => ?_)
                    · skip
                      refine lv_iinc (v := (nI 3)) (lv' := [(4, .int (nI 3)), (3, .int (m_b9 (gA v f nw rv (nI (up + lo)) (9 * up + 3 * m0 + m1)))), (2, .int (-1)), (0, .ref (r 0)), (1, .int (nI w))]) hx hb dX5_doing_106 hl (k := 0) rfl (nI_1 _) (by decide) rfl (fun ls hl => ?_)
                      refine lv_goto (tgt := 56) hx hb dX5_doing_109 (by decide) ?_
                      refine lv_iload hx hb dX5_doing_56 (lv_at hl 0 rfl) ?_
                      refine lv_bipush (v := 9) hx hb dX5_doing_58 (by decide) ?_
                      refine n_icmp_ge (tgt := 112) (a := 3) (b := 9) hx hb dX5_doing_60 (by decide) (by omega) (by omega) (fun c_12 => ?_) (fun c_12 => ?_)
                      · skip
                        exact absurd c_12 (by decide)
                      · skip
                        refine lv_iload_n hx hb dX5_doing_63 rfl (lv_at hl 1 rfl) ?_
                        refine lv_ldc hx hb hown (hts _ (List.mem_of_getElem? (i := 5) rfl)) dX5_doing_64 ?_
                        refine lv_icmp_eq (tgt := 112) hx hb dX5_doing_66 (by decide) (fun c_13 => ?_) (fun c_13 => ?_)
                        · skip
                          exact absurd c_13 c_4
                        · skip
                          refine lv_aload_n hx hb dX5_doing_69 rfl (lv_at hl 3 rfl) ?_
                          refine lv_iload_n hx hb dX5_doing_70 rfl (lv_at hl 2 rfl) ?_
                          refine lv_aload_n hx hb dX5_doing_71 rfl (lv_at hl 3 rfl) ?_
                          refine va_get (D := E.1) (ci := 5) (v := .int (v 1)) (C := RX5) (T := TX5) (N := 26) hx hb hts (fun _ h => (List.mem_cons_of_mem _ (List.mem_append_right _ h))) hown hK.1 hP 0 rfl rfl 1 (by decide) (hts _ (List.mem_of_getElem? (i := 3) rfl)) (fun _ h9 => h9) rfl dX5_doing_72 ?_
                          refine w_top (show (v 1) = nI nw from hnw) ?_
                          refine lv_aload_n hx hb dX5_doing_75 rfl (lv_at hl 3 rfl) ?_
                          refine cR_V ⟨hx, hb, hml, hown, hts⟩ (c_X5_stateNow l E r v f B_1 C_1 up m0 m1 hup hm0 hm1) (cwV 0 hts gX5_doing_X5_stateNow rfl rfl rfl (by decide +kernel) ⟨Nat.le_of_ble_eq_true rfl, Nat.le_of_ble_eq_true rfl⟩) hK hP 5 0 rfl rfl rfl hl.1 rfl (Nat.le_of_ble_eq_true rfl) dX5_doing_76 ⟨Nat.le_of_ble_eq_true rfl, Nat.le_of_ble_eq_true rfl⟩ ?_
                          refine lv_aload_n hx hb dX5_doing_79 rfl (lv_at hl 3 rfl) ?_
                          refine va_get (D := E.1) (ci := 5) (v := .int (v 4)) (C := RX5) (T := TX5) (N := 26) hx hb hts (fun _ h => (List.mem_cons_of_mem _ (List.mem_append_right _ h))) hown hK.1 hP 0 rfl rfl 4 (by decide) (hts _ (List.mem_of_getElem? (i := 1) rfl)) (fun _ h9 => h9) rfl dX5_doing_80 ?_
                          refine w_top (show (v 4) = nI up from hup) ?_
                          refine lv_aload_n hx hb dX5_doing_83 rfl (lv_at hl 3 rfl) ?_
                          refine va_get (D := E.1) (ci := 5) (v := .int (v 5)) (C := RX5) (T := TX5) (N := 26) hx hb hts (fun _ h => (List.mem_cons_of_mem _ (List.mem_append_right _ h))) hown hK.1 hP 0 rfl rfl 5 (by decide) (hts _ (List.mem_of_getElem? (i := 2) rfl)) (fun _ h9 => h9) rfl dX5_doing_84 ?_
                          refine w_top (show (v 5) = nI lo from hlo) ?_
                          refine lv_iadd hx hb dX5_doing_87 ?_
                          refine w_top (show ((nI up) + (nI lo)) = (nI (up + lo)) from nI_add _ _) ?_
                          refine lv_iload hx hb dX5_doing_88 (lv_at hl 0 rfl) ?_
                          refine lv_iconst (v := 3) hx hb dX5_doing_90 (by decide) ?_
                          refine lv_idiv hx hb dX5_doing_91 (by decide) ?_
                          refine w_top (show ((nI 3) / 3) = (nI 1) from pk_div (a := 3) (d := 3) (by omega) (by decide) (by decide)) ?_
                          refine lv_iload hx hb dX5_doing_92 (lv_at hl 0 rfl) ?_
                          refine lv_iconst (v := 3) hx hb dX5_doing_94 (by decide) ?_
                          refine lv_irem hx hb dX5_doing_95 (by decide) ?_
                          refine w_top (show ((nI 3) - (nI 3) / 3 * 3) = (nI 0) from pk_rem (a := 3) (d := 3) (by omega) (by decide) (by decide)) ?_
                          refine cR_V ⟨hx, hb, hml, hown, hts⟩ (c_X5_bringsA l E r v f B_1 C_1 nw (9 * up + 3 * m0 + m1) (nI (up + lo)) 1 0 (by omega) (by omega) (by omega) (by omega) h40) (cwV 6 hts gX5_doing_X5_brings rfl rfl rfl (by decide +kernel) ⟨Nat.le_of_ble_eq_true rfl, Nat.le_of_ble_eq_true rfl⟩) hK hP 5 0 rfl rfl rfl hl.1 rfl (Nat.le_of_ble_eq_true rfl) dX5_doing_96 ⟨Nat.le_of_ble_eq_true rfl, Nat.le_of_ble_eq_true rfl⟩ ?_
                          refine w_top (show (m_brA v f C_1 nw (9 * up + 3 * m0 + m1) (nI (up + lo)) 1 0) = ((gA v f nw rv (nI (up + lo)) (9 * up + 3 * m0 + m1)) 1 0) from (gA_eq h40 hC_1 (by omega) (by decide) (by decide))) ?_
                          refine lv_iload_n hx hb dX5_doing_99 rfl (lv_at hl 1 rfl) ?_
                          refine lv_icmp_ne (tgt := 106) hx hb dX5_doing_100 (by decide) (fun c_14 => ?_) (fun c_14 => ?_)
                          · skip
                            refine lv_iinc (v := (nI 4)) (lv' := [(4, .int (nI 4)), (3, .int (m_b9 (gA v f nw rv (nI (up + lo)) (9 * up + 3 * m0 + m1)))), (2, .int (-1)), (0, .ref (r 0)), (1, .int (nI w))]) hx hb dX5_doing_106 hl (k := 0) rfl (nI_1 _) (by decide) rfl (fun ls hl => ?_)
                            refine lv_goto (tgt := 56) hx hb dX5_doing_109 (by decide) ?_
                            refine lv_iload hx hb dX5_doing_56 (lv_at hl 0 rfl) ?_
                            refine lv_bipush (v := 9) hx hb dX5_doing_58 (by decide) ?_
                            refine n_icmp_ge (tgt := 112) (a := 4) (b := 9) hx hb dX5_doing_60 (by decide) (by omega) (by omega) (fun c_15 => ?_) (fun c_15 => ?_)
                            · skip
                              exact absurd c_15 (by decide)
                            · skip
                              refine lv_iload_n hx hb dX5_doing_63 rfl (lv_at hl 1 rfl) ?_
                              refine lv_ldc hx hb hown (hts _ (List.mem_of_getElem? (i := 5) rfl)) dX5_doing_64 ?_
                              refine lv_icmp_eq (tgt := 112) hx hb dX5_doing_66 (by decide) (fun c_16 => ?_) (fun c_16 => ?_)
                              · skip
                                exact absurd c_16 c_4
                              · skip
                                refine lv_aload_n hx hb dX5_doing_69 rfl (lv_at hl 3 rfl) ?_
                                refine lv_iload_n hx hb dX5_doing_70 rfl (lv_at hl 2 rfl) ?_
                                refine lv_aload_n hx hb dX5_doing_71 rfl (lv_at hl 3 rfl) ?_
                                refine va_get (D := E.1) (ci := 5) (v := .int (v 1)) (C := RX5) (T := TX5) (N := 26) hx hb hts (fun _ h => (List.mem_cons_of_mem _ (List.mem_append_right _ h))) hown hK.1 hP 0 rfl rfl 1 (by decide) (hts _ (List.mem_of_getElem? (i := 3) rfl)) (fun _ h9 => h9) rfl dX5_doing_72 ?_
                                refine w_top (show (v 1) = nI nw from hnw) ?_
                                refine lv_aload_n hx hb dX5_doing_75 rfl (lv_at hl 3 rfl) ?_
                                refine cR_V ⟨hx, hb, hml, hown, hts⟩ (c_X5_stateNow l E r v f B_1 C_1 up m0 m1 hup hm0 hm1) (cwV 0 hts gX5_doing_X5_stateNow rfl rfl rfl (by decide +kernel) ⟨Nat.le_of_ble_eq_true rfl, Nat.le_of_ble_eq_true rfl⟩) hK hP 5 0 rfl rfl rfl hl.1 rfl (Nat.le_of_ble_eq_true rfl) dX5_doing_76 ⟨Nat.le_of_ble_eq_true rfl, Nat.le_of_ble_eq_true rfl⟩ ?_
                                refine lv_aload_n hx hb dX5_doing_79 rfl (lv_at hl 3 rfl) ?_
                                refine va_get (D := E.1) (ci := 5) (v := .int (v 4)) (C := RX5) (T := TX5) (N := 26) hx hb hts (fun _ h => (List.mem_cons_of_mem _ (List.mem_append_right _ h))) hown hK.1 hP 0 rfl rfl 4 (by decide) (hts _ (List.mem_of_getElem? (i := 1) rfl)) (fun _ h9 => h9) rfl dX5_doing_80 ?_
                                refine w_top (show (v 4) = nI up from hup) ?_
                                refine lv_aload_n hx hb dX5_doing_83 rfl (lv_at hl 3 rfl) ?_
                                refine va_get (D := E.1) (ci := 5) (v := .int (v 5)) (C := RX5) (T := TX5) (N := 26) hx hb hts (fun _ h => (List.mem_cons_of_mem _ (List.mem_append_right _ h))) hown hK.1 hP 0 rfl rfl 5 (by decide) (hts _ (List.mem_of_getElem? (i := 2) rfl)) (fun _ h9 => h9) rfl dX5_doing_84 ?_
                                refine w_top (show (v 5) = nI lo from hlo) ?_
                                refine lv_iadd hx hb dX5_doing_87 ?_
                                refine w_top (show ((nI up) + (nI lo)) = (nI (up + lo)) from nI_add _ _) ?_
                                refine lv_iload hx hb dX5_doing_88 (lv_at hl 0 rfl) ?_
                                refine lv_iconst (v := 3) hx hb dX5_doing_90 (by decide) ?_
                                refine lv_idiv hx hb dX5_doing_91 (by decide) ?_
                                refine w_top (show ((nI 4) / 3) = (nI 1) from pk_div (a := 4) (d := 3) (by omega) (by decide) (by decide)) ?_
                                refine lv_iload hx hb dX5_doing_92 (lv_at hl 0 rfl) ?_
                                refine lv_iconst (v := 3) hx hb dX5_doing_94 (by decide) ?_
                                refine lv_irem hx hb dX5_doing_95 (by decide) ?_
                                refine w_top (show ((nI 4) - (nI 4) / 3 * 3) = (nI 1) from pk_rem (a := 4) (d := 3) (by omega) (by decide) (by decide)) ?_
                                refine cR_V ⟨hx, hb, hml, hown, hts⟩ (c_X5_bringsA l E r v f B_1 C_1 nw (9 * up + 3 * m0 + m1) (nI (up + lo)) 1 1 (by omega) (by omega) (by omega) (by omega) h40) (cwV 6 hts gX5_doing_X5_brings rfl rfl rfl (by decide +kernel) ⟨Nat.le_of_ble_eq_true rfl, Nat.le_of_ble_eq_true rfl⟩) hK hP 5 0 rfl rfl rfl hl.1 rfl (Nat.le_of_ble_eq_true rfl) dX5_doing_96 ⟨Nat.le_of_ble_eq_true rfl, Nat.le_of_ble_eq_true rfl⟩ ?_
                                refine w_top (show (m_brA v f C_1 nw (9 * up + 3 * m0 + m1) (nI (up + lo)) 1 1) = ((gA v f nw rv (nI (up + lo)) (9 * up + 3 * m0 + m1)) 1 1) from (gA_eq h40 hC_1 (by omega) (by decide) (by decide))) ?_
                                refine lv_iload_n hx hb dX5_doing_99 rfl (lv_at hl 1 rfl) ?_
                                refine lv_icmp_ne (tgt := 106) hx hb dX5_doing_100 (by decide) (fun c_17 => ?_) (fun c_17 => ?_)
                                · skip
                                  refine lv_iinc (v := (nI 5)) (lv' := [(4, .int (nI 5)), (3, .int (m_b9 (gA v f nw rv (nI (up + lo)) (9 * up + 3 * m0 + m1)))), (2, .int (-1)), (0, .ref (r 0)), (1, .int (nI w))]) hx hb dX5_doing_106 hl (k := 0) rfl (nI_1 _) (by decide) rfl (fun ls hl => ?_)
                                  refine lv_goto (tgt := 56) hx hb dX5_doing_109 (by decide) ?_
                                  refine lv_iload hx hb dX5_doing_56 (lv_at hl 0 rfl) ?_
                                  refine lv_bipush (v := 9) hx hb dX5_doing_58 (by decide) ?_
                                  refine n_icmp_ge (tgt := 112) (a := 5) (b := 9) hx hb dX5_doing_60 (by decide) (by omega) (by omega) (fun c_18 => ?_) (fun c_18 => ?_)
                                  · skip
                                    exact absurd c_18 (by decide)
                                  · skip
                                    refine lv_iload_n hx hb dX5_doing_63 rfl (lv_at hl 1 rfl) ?_
                                    refine lv_ldc hx hb hown (hts _ (List.mem_of_getElem? (i := 5) rfl)) dX5_doing_64 ?_
                                    refine lv_icmp_eq (tgt := 112) hx hb dX5_doing_66 (by decide) (fun c_19 => ?_) (fun c_19 => ?_)
                                    · skip
                                      exact absurd c_19 c_4
                                    · skip
                                      refine lv_aload_n hx hb dX5_doing_69 rfl (lv_at hl 3 rfl) ?_
                                      refine lv_iload_n hx hb dX5_doing_70 rfl (lv_at hl 2 rfl) ?_
                                      refine lv_aload_n hx hb dX5_doing_71 rfl (lv_at hl 3 rfl) ?_
                                      refine va_get (D := E.1) (ci := 5) (v := .int (v 1)) (C := RX5) (T := TX5) (N := 26) hx hb hts (fun _ h => (List.mem_cons_of_mem _ (List.mem_append_right _ h))) hown hK.1 hP 0 rfl rfl 1 (by decide) (hts _ (List.mem_of_getElem? (i := 3) rfl)) (fun _ h9 => h9) rfl dX5_doing_72 ?_
                                      refine w_top (show (v 1) = nI nw from hnw) ?_
                                      refine lv_aload_n hx hb dX5_doing_75 rfl (lv_at hl 3 rfl) ?_
                                      refine cR_V ⟨hx, hb, hml, hown, hts⟩ (c_X5_stateNow l E r v f B_1 C_1 up m0 m1 hup hm0 hm1) (cwV 0 hts gX5_doing_X5_stateNow rfl rfl rfl (by decide +kernel) ⟨Nat.le_of_ble_eq_true rfl, Nat.le_of_ble_eq_true rfl⟩) hK hP 5 0 rfl rfl rfl hl.1 rfl (Nat.le_of_ble_eq_true rfl) dX5_doing_76 ⟨Nat.le_of_ble_eq_true rfl, Nat.le_of_ble_eq_true rfl⟩ ?_
                                      refine lv_aload_n hx hb dX5_doing_79 rfl (lv_at hl 3 rfl) ?_
                                      refine va_get (D := E.1) (ci := 5) (v := .int (v 4)) (C := RX5) (T := TX5) (N := 26) hx hb hts (fun _ h => (List.mem_cons_of_mem _ (List.mem_append_right _ h))) hown hK.1 hP 0 rfl rfl 4 (by decide) (hts _ (List.mem_of_getElem? (i := 1) rfl)) (fun _ h9 => h9) rfl dX5_doing_80 ?_
                                      refine w_top (show (v 4) = nI up from hup) ?_
                                      refine lv_aload_n hx hb dX5_doing_83 rfl (lv_at hl 3 rfl) ?_
                                      refine va_get (D := E.1) (ci := 5) (v := .int (v 5)) (C := RX5) (T := TX5) (N := 26) hx hb hts (fun _ h => (List.mem_cons_of_mem _ (List.mem_append_right _ h))) hown hK.1 hP 0 rfl rfl 5 (by decide) (hts _ (List.mem_of_getElem? (i := 2) rfl)) (fun _ h9 => h9) rfl dX5_doing_84 ?_
                                      refine w_top (show (v 5) = nI lo from hlo) ?_
                                      refine lv_iadd hx hb dX5_doing_87 ?_
                                      refine w_top (show ((nI up) + (nI lo)) = (nI (up + lo)) from nI_add _ _) ?_
                                      refine lv_iload hx hb dX5_doing_88 (lv_at hl 0 rfl) ?_
                                      refine lv_iconst (v := 3) hx hb dX5_doing_90 (by decide) ?_
                                      refine lv_idiv hx hb dX5_doing_91 (by decide) ?_
                                      refine w_top (show ((nI 5) / 3) = (nI 1) from pk_div (a := 5) (d := 3) (by omega) (by decide) (by decide)) ?_
                                      refine lv_iload hx hb dX5_doing_92 (lv_at hl 0 rfl) ?_
                                      refine lv_iconst (v := 3) hx hb dX5_doing_94 (by decide) ?_
                                      refine lv_irem hx hb dX5_doing_95 (by decide) ?_
                                      refine w_top (show ((nI 5) - (nI 5) / 3 * 3) = (nI 2) from pk_rem (a := 5) (d := 3) (by omega) (by decide) (by decide)) ?_
                                      refine cR_V ⟨hx, hb, hml, hown, hts⟩ (c_X5_bringsA l E r v f B_1 C_1 nw (9 * up + 3 * m0 + m1) (nI (up + lo)) 1 2 (by omega) (by omega) (by omega) (by omega) h40) (cwV 6 hts gX5_doing_X5_brings rfl rfl rfl (by decide +kernel) ⟨Nat.le_of_ble_eq_true rfl, Nat.le_of_ble_eq_true rfl⟩) hK hP 5 0 rfl rfl rfl hl.1 rfl (Nat.le_of_ble_eq_true rfl) dX5_doing_96 ⟨Nat.le_of_ble_eq_true rfl, Nat.le_of_ble_eq_true rfl⟩ ?_
                                      refine w_top (show (m_brA v f C_1 nw (9 * up + 3 * m0 + m1) (nI (up + lo)) 1 2) = ((gA v f nw rv (nI (up + lo)) (9 * up + 3 * m0 + m1)) 1 2) from (gA_eq h40 hC_1 (by omega) (by decide) (by decide))) ?_
                                      refine lv_iload_n hx hb dX5_doing_99 rfl (lv_at hl 1 rfl) ?_
                                      refine lv_icmp_ne (tgt := 106) hx hb dX5_doing_100 (by decide) (fun c_20 => ?_) (fun c_20 => ?_)
                                      · skip
                                        refine lv_iinc (v := (nI 6)) (lv' := [(4, .int (nI 6)), (3, .int (m_b9 (gA v f nw rv (nI (up + lo)) (9 * up + 3 * m0 + m1)))), (2, .int (-1)), (0, .ref (r 0)), (1, .int (nI w))]) hx hb dX5_doing_106 hl (k := 0) rfl (nI_1 _) (by decide) rfl (fun ls hl => ?_)
                                        refine lv_goto (tgt := 56) hx hb dX5_doing_109 (by decide) ?_
                                        refine lv_iload hx hb dX5_doing_56 (lv_at hl 0 rfl) ?_
                                        refine lv_bipush (v := 9) hx hb dX5_doing_58 (by decide) ?_
                                        refine n_icmp_ge (tgt := 112) (a := 6) (b := 9) hx hb dX5_doing_60 (by decide) (by omega) (by omega) (fun c_21 => ?_) (fun c_21 => ?_)
                                        · skip
                                          exact absurd c_21 (by decide)
                                        · skip
                                          refine lv_iload_n hx hb dX5_doing_63 rfl (lv_at hl 1 rfl) ?_
                                          refine lv_ldc hx hb hown (hts _ (List.mem_of_getElem? (i := 5) rfl)) dX5_doing_64 ?_
                                          refine lv_icmp_eq (tgt := 112) hx hb dX5_doing_66 (by decide) (fun c_22 => ?_) (fun c_22 => ?_)
                                          · skip
                                            exact absurd c_22 c_4
                                          · skip
                                            refine lv_aload_n hx hb dX5_doing_69 rfl (lv_at hl 3 rfl) ?_
                                            refine lv_iload_n hx hb dX5_doing_70 rfl (lv_at hl 2 rfl) ?_
                                            refine lv_aload_n hx hb dX5_doing_71 rfl (lv_at hl 3 rfl) ?_
                                            refine va_get (D := E.1) (ci := 5) (v := .int (v 1)) (C := RX5) (T := TX5) (N := 26) hx hb hts (fun _ h => (List.mem_cons_of_mem _ (List.mem_append_right _ h))) hown hK.1 hP 0 rfl rfl 1 (by decide) (hts _ (List.mem_of_getElem? (i := 3) rfl)) (fun _ h9 => h9) rfl dX5_doing_72 ?_
                                            refine w_top (show (v 1) = nI nw from hnw) ?_
                                            refine lv_aload_n hx hb dX5_doing_75 rfl (lv_at hl 3 rfl) ?_
                                            refine cR_V ⟨hx, hb, hml, hown, hts⟩ (c_X5_stateNow l E r v f B_1 C_1 up m0 m1 hup hm0 hm1) (cwV 0 hts gX5_doing_X5_stateNow rfl rfl rfl (by decide +kernel) ⟨Nat.le_of_ble_eq_true rfl, Nat.le_of_ble_eq_true rfl⟩) hK hP 5 0 rfl rfl rfl hl.1 rfl (Nat.le_of_ble_eq_true rfl) dX5_doing_76 ⟨Nat.le_of_ble_eq_true rfl, Nat.le_of_ble_eq_true rfl⟩ ?_
                                            refine lv_aload_n hx hb dX5_doing_79 rfl (lv_at hl 3 rfl) ?_
                                            refine va_get (D := E.1) (ci := 5) (v := .int (v 4)) (C := RX5) (T := TX5) (N := 26) hx hb hts (fun _ h => (List.mem_cons_of_mem _ (List.mem_append_right _ h))) hown hK.1 hP 0 rfl rfl 4 (by decide) (hts _ (List.mem_of_getElem? (i := 1) rfl)) (fun _ h9 => h9) rfl dX5_doing_80 ?_
                                            refine w_top (show (v 4) = nI up from hup) ?_
                                            refine lv_aload_n hx hb dX5_doing_83 rfl (lv_at hl 3 rfl) ?_
                                            refine va_get (D := E.1) (ci := 5) (v := .int (v 5)) (C := RX5) (T := TX5) (N := 26) hx hb hts (fun _ h => (List.mem_cons_of_mem _ (List.mem_append_right _ h))) hown hK.1 hP 0 rfl rfl 5 (by decide) (hts _ (List.mem_of_getElem? (i := 2) rfl)) (fun _ h9 => h9) rfl dX5_doing_84 ?_
                                            refine w_top (show (v 5) = nI lo from hlo) ?_
                                            refine lv_iadd hx hb dX5_doing_87 ?_
                                            refine w_top (show ((nI up) + (nI lo)) = (nI (up + lo)) from nI_add _ _) ?_
                                            refine lv_iload hx hb dX5_doing_88 (lv_at hl 0 rfl) ?_
                                            refine lv_iconst (v := 3) hx hb dX5_doing_90 (by decide) ?_
                                            refine lv_idiv hx hb dX5_doing_91 (by decide) ?_
                                            refine w_top (show ((nI 6) / 3) = (nI 2) from pk_div (a := 6) (d := 3) (by omega) (by decide) (by decide)) ?_
                                            refine lv_iload hx hb dX5_doing_92 (lv_at hl 0 rfl) ?_
                                            refine lv_iconst (v := 3) hx hb dX5_doing_94 (by decide) ?_
                                            refine lv_irem hx hb dX5_doing_95 (by decide) ?_
                                            refine w_top (show ((nI 6) - (nI 6) / 3 * 3) = (nI 0) from pk_rem (a := 6) (d := 3) (by omega) (by decide) (by decide)) ?_
                                            refine cR_V ⟨hx, hb, hml, hown, hts⟩ (c_X5_bringsA l E r v f B_1 C_1 nw (9 * up + 3 * m0 + m1) (nI (up + lo)) 2 0 (by omega) (by omega) (by omega) (by omega) h40) (cwV 6 hts gX5_doing_X5_brings rfl rfl rfl (by decide +kernel) ⟨Nat.le_of_ble_eq_true rfl, Nat.le_of_ble_eq_true rfl⟩) hK hP 5 0 rfl rfl rfl hl.1 rfl (Nat.le_of_ble_eq_true rfl) dX5_doing_96 ⟨Nat.le_of_ble_eq_true rfl, Nat.le_of_ble_eq_true rfl⟩ ?_
                                            refine w_top (show (m_brA v f C_1 nw (9 * up + 3 * m0 + m1) (nI (up + lo)) 2 0) = ((gA v f nw rv (nI (up + lo)) (9 * up + 3 * m0 + m1)) 2 0) from (gA_eq h40 hC_1 (by omega) (by decide) (by decide))) ?_
                                            refine lv_iload_n hx hb dX5_doing_99 rfl (lv_at hl 1 rfl) ?_
                                            refine lv_icmp_ne (tgt := 106) hx hb dX5_doing_100 (by decide) (fun c_23 => ?_) (fun c_23 => ?_)
                                            · skip
                                              refine lv_iinc (v := (nI 7)) (lv' := [(4, .int (nI 7)), (3, .int (m_b9 (gA v f nw rv (nI (up + lo)) (9 * up + 3 * m0 + m1)))), (2, .int (-1)), (0, .ref (r 0)), (1, .int (nI w))]) hx hb dX5_doing_106 hl (k := 0) rfl (nI_1 _) (by decide) rfl (fun ls hl => ?_)
                                              refine lv_goto (tgt := 56) hx hb dX5_doing_109 (by decide) ?_
                                              refine lv_iload hx hb dX5_doing_56 (lv_at hl 0 rfl) ?_
                                              refine lv_bipush (v := 9) hx hb dX5_doing_58 (by decide) ?_
                                              refine n_icmp_ge (tgt := 112) (a := 7) (b := 9) hx hb dX5_doing_60 (by decide) (by omega) (by omega) (fun c_24 => ?_) (fun c_24 => ?_)
                                              · skip
                                                exact absurd c_24 (by decide)
                                              · skip
                                                refine lv_iload_n hx hb dX5_doing_63 rfl (lv_at hl 1 rfl) ?_
                                                refine lv_ldc hx hb hown (hts _ (List.mem_of_getElem? (i := 5) rfl)) dX5_doing_64 ?_
                                                refine lv_icmp_eq (tgt := 112) hx hb dX5_doing_66 (by decide) (fun c_25 => ?_) (fun c_25 => ?_)
                                                · skip
                                                  exact absurd c_25 c_4
                                                · skip
                                                  refine lv_aload_n hx hb dX5_doing_69 rfl (lv_at hl 3 rfl) ?_
                                                  refine lv_iload_n hx hb dX5_doing_70 rfl (lv_at hl 2 rfl) ?_
                                                  refine lv_aload_n hx hb dX5_doing_71 rfl (lv_at hl 3 rfl) ?_
                                                  refine va_get (D := E.1) (ci := 5) (v := .int (v 1)) (C := RX5) (T := TX5) (N := 26) hx hb hts (fun _ h => (List.mem_cons_of_mem _ (List.mem_append_right _ h))) hown hK.1 hP 0 rfl rfl 1 (by decide) (hts _ (List.mem_of_getElem? (i := 3) rfl)) (fun _ h9 => h9) rfl dX5_doing_72 ?_
                                                  refine w_top (show (v 1) = nI nw from hnw) ?_
                                                  refine lv_aload_n hx hb dX5_doing_75 rfl (lv_at hl 3 rfl) ?_
                                                  refine cR_V ⟨hx, hb, hml, hown, hts⟩ (c_X5_stateNow l E r v f B_1 C_1 up m0 m1 hup hm0 hm1) (cwV 0 hts gX5_doing_X5_stateNow rfl rfl rfl (by decide +kernel) ⟨Nat.le_of_ble_eq_true rfl, Nat.le_of_ble_eq_true rfl⟩) hK hP 5 0 rfl rfl rfl hl.1 rfl (Nat.le_of_ble_eq_true rfl) dX5_doing_76 ⟨Nat.le_of_ble_eq_true rfl, Nat.le_of_ble_eq_true rfl⟩ ?_
                                                  refine lv_aload_n hx hb dX5_doing_79 rfl (lv_at hl 3 rfl) ?_
                                                  refine va_get (D := E.1) (ci := 5) (v := .int (v 4)) (C := RX5) (T := TX5) (N := 26) hx hb hts (fun _ h => (List.mem_cons_of_mem _ (List.mem_append_right _ h))) hown hK.1 hP 0 rfl rfl 4 (by decide) (hts _ (List.mem_of_getElem? (i := 1) rfl)) (fun _ h9 => h9) rfl dX5_doing_80 ?_
                                                  refine w_top (show (v 4) = nI up from hup) ?_
                                                  refine lv_aload_n hx hb dX5_doing_83 rfl (lv_at hl 3 rfl) ?_
                                                  refine va_get (D := E.1) (ci := 5) (v := .int (v 5)) (C := RX5) (T := TX5) (N := 26) hx hb hts (fun _ h => (List.mem_cons_of_mem _ (List.mem_append_right _ h))) hown hK.1 hP 0 rfl rfl 5 (by decide) (hts _ (List.mem_of_getElem? (i := 2) rfl)) (fun _ h9 => h9) rfl dX5_doing_84 ?_
                                                  refine w_top (show (v 5) = nI lo from hlo) ?_
                                                  refine lv_iadd hx hb dX5_doing_87 ?_
                                                  refine w_top (show ((nI up) + (nI lo)) = (nI (up + lo)) from nI_add _ _) ?_
                                                  refine lv_iload hx hb dX5_doing_88 (lv_at hl 0 rfl) ?_
                                                  refine lv_iconst (v := 3) hx hb dX5_doing_90 (by decide) ?_
                                                  refine lv_idiv hx hb dX5_doing_91 (by decide) ?_
                                                  refine w_top (show ((nI 7) / 3) = (nI 2) from pk_div (a := 7) (d := 3) (by omega) (by decide) (by decide)) ?_
                                                  refine lv_iload hx hb dX5_doing_92 (lv_at hl 0 rfl) ?_
                                                  refine lv_iconst (v := 3) hx hb dX5_doing_94 (by decide) ?_
                                                  refine lv_irem hx hb dX5_doing_95 (by decide) ?_
                                                  refine w_top (show ((nI 7) - (nI 7) / 3 * 3) = (nI 1) from pk_rem (a := 7) (d := 3) (by omega) (by decide) (by decide)) ?_
                                                  refine cR_V ⟨hx, hb, hml, hown, hts⟩ (c_X5_bringsA l E r v f B_1 C_1 nw (9 * up + 3 * m0 + m1) (nI (up + lo)) 2 1 (by omega) (by omega) (by omega) (by omega) h40) (cwV 6 hts gX5_doing_X5_brings rfl rfl rfl (by decide +kernel) ⟨Nat.le_of_ble_eq_true rfl, Nat.le_of_ble_eq_true rfl⟩) hK hP 5 0 rfl rfl rfl hl.1 rfl (Nat.le_of_ble_eq_true rfl) dX5_doing_96 ⟨Nat.le_of_ble_eq_true rfl, Nat.le_of_ble_eq_true rfl⟩ ?_
                                                  refine w_top (show (m_brA v f C_1 nw (9 * up + 3 * m0 + m1) (nI (up + lo)) 2 1) = ((gA v f nw rv (nI (up + lo)) (9 * up + 3 * m0 + m1)) 2 1) from (gA_eq h40 hC_1 (by omega) (by decide) (by decide))) ?_
                                                  refine lv_iload_n hx hb dX5_doing_99 rfl (lv_at hl 1 rfl) ?_
                                                  refine lv_icmp_ne (tgt := 106) hx hb dX5_doing_100 (by decide) (fun c_26 => ?_) (fun c_26 => ?_)
                                                  · skip
                                                    refine lv_iinc (v := (nI 8)) (lv' := [(4, .int (nI 8)), (3, .int (m_b9 (gA v f nw rv (nI (up + lo)) (9 * up + 3 * m0 + m1)))), (2, .int (-1)), (0, .ref (r 0)), (1, .int (nI w))]) hx hb dX5_doing_106 hl (k := 0) rfl (nI_1 _) (by decide) rfl (fun ls hl => ?_)
                                                    refine lv_goto (tgt := 56) hx hb dX5_doing_109 (by decide) ?_
                                                    refine lv_iload hx hb dX5_doing_56 (lv_at hl 0 rfl) ?_
                                                    refine lv_bipush (v := 9) hx hb dX5_doing_58 (by decide) ?_
                                                    refine n_icmp_ge (tgt := 112) (a := 8) (b := 9) hx hb dX5_doing_60 (by decide) (by omega) (by omega) (fun c_27 => ?_) (fun c_27 => ?_)
                                                    · skip
                                                      exact absurd c_27 (by decide)
                                                    · skip
                                                      refine lv_iload_n hx hb dX5_doing_63 rfl (lv_at hl 1 rfl) ?_
                                                      refine lv_ldc hx hb hown (hts _ (List.mem_of_getElem? (i := 5) rfl)) dX5_doing_64 ?_
                                                      refine lv_icmp_eq (tgt := 112) hx hb dX5_doing_66 (by decide) (fun c_28 => ?_) (fun c_28 => ?_)
                                                      · skip
                                                        exact absurd c_28 c_4
                                                      · skip
                                                        refine lv_aload_n hx hb dX5_doing_69 rfl (lv_at hl 3 rfl) ?_
                                                        refine lv_iload_n hx hb dX5_doing_70 rfl (lv_at hl 2 rfl) ?_
                                                        refine lv_aload_n hx hb dX5_doing_71 rfl (lv_at hl 3 rfl) ?_
                                                        refine va_get (D := E.1) (ci := 5) (v := .int (v 1)) (C := RX5) (T := TX5) (N := 26) hx hb hts (fun _ h => (List.mem_cons_of_mem _ (List.mem_append_right _ h))) hown hK.1 hP 0 rfl rfl 1 (by decide) (hts _ (List.mem_of_getElem? (i := 3) rfl)) (fun _ h9 => h9) rfl dX5_doing_72 ?_
                                                        refine w_top (show (v 1) = nI nw from hnw) ?_
                                                        refine lv_aload_n hx hb dX5_doing_75 rfl (lv_at hl 3 rfl) ?_
                                                        refine cR_V ⟨hx, hb, hml, hown, hts⟩ (c_X5_stateNow l E r v f B_1 C_1 up m0 m1 hup hm0 hm1) (cwV 0 hts gX5_doing_X5_stateNow rfl rfl rfl (by decide +kernel) ⟨Nat.le_of_ble_eq_true rfl, Nat.le_of_ble_eq_true rfl⟩) hK hP 5 0 rfl rfl rfl hl.1 rfl (Nat.le_of_ble_eq_true rfl) dX5_doing_76 ⟨Nat.le_of_ble_eq_true rfl, Nat.le_of_ble_eq_true rfl⟩ ?_
                                                        refine lv_aload_n hx hb dX5_doing_79 rfl (lv_at hl 3 rfl) ?_
                                                        refine va_get (D := E.1) (ci := 5) (v := .int (v 4)) (C := RX5) (T := TX5) (N := 26) hx hb hts (fun _ h => (List.mem_cons_of_mem _ (List.mem_append_right _ h))) hown hK.1 hP 0 rfl rfl 4 (by decide) (hts _ (List.mem_of_getElem? (i := 1) rfl)) (fun _ h9 => h9) rfl dX5_doing_80 ?_
                                                        refine w_top (show (v 4) = nI up from hup) ?_
                                                        refine lv_aload_n hx hb dX5_doing_83 rfl (lv_at hl 3 rfl) ?_
                                                        refine va_get (D := E.1) (ci := 5) (v := .int (v 5)) (C := RX5) (T := TX5) (N := 26) hx hb hts (fun _ h => (List.mem_cons_of_mem _ (List.mem_append_right _ h))) hown hK.1 hP 0 rfl rfl 5 (by decide) (hts _ (List.mem_of_getElem? (i := 2) rfl)) (fun _ h9 => h9) rfl dX5_doing_84 ?_
                                                        refine w_top (show (v 5) = nI lo from hlo) ?_
                                                        refine lv_iadd hx hb dX5_doing_87 ?_
                                                        refine w_top (show ((nI up) + (nI lo)) = (nI (up + lo)) from nI_add _ _) ?_
                                                        refine lv_iload hx hb dX5_doing_88 (lv_at hl 0 rfl) ?_
                                                        refine lv_iconst (v := 3) hx hb dX5_doing_90 (by decide) ?_
                                                        refine lv_idiv hx hb dX5_doing_91 (by decide) ?_
                                                        refine w_top (show ((nI 8) / 3) = (nI 2) from pk_div (a := 8) (d := 3) (by omega) (by decide) (by decide)) ?_
                                                        refine lv_iload hx hb dX5_doing_92 (lv_at hl 0 rfl) ?_
                                                        refine lv_iconst (v := 3) hx hb dX5_doing_94 (by decide) ?_
                                                        refine lv_irem hx hb dX5_doing_95 (by decide) ?_
                                                        refine w_top (show ((nI 8) - (nI 8) / 3 * 3) = (nI 2) from pk_rem (a := 8) (d := 3) (by omega) (by decide) (by decide)) ?_
                                                        refine cR_V ⟨hx, hb, hml, hown, hts⟩ (c_X5_bringsA l E r v f B_1 C_1 nw (9 * up + 3 * m0 + m1) (nI (up + lo)) 2 2 (by omega) (by omega) (by omega) (by omega) h40) (cwV 6 hts gX5_doing_X5_brings rfl rfl rfl (by decide +kernel) ⟨Nat.le_of_ble_eq_true rfl, Nat.le_of_ble_eq_true rfl⟩) hK hP 5 0 rfl rfl rfl hl.1 rfl (Nat.le_of_ble_eq_true rfl) dX5_doing_96 ⟨Nat.le_of_ble_eq_true rfl, Nat.le_of_ble_eq_true rfl⟩ ?_
                                                        refine w_top (show (m_brA v f C_1 nw (9 * up + 3 * m0 + m1) (nI (up + lo)) 2 2) = ((gA v f nw rv (nI (up + lo)) (9 * up + 3 * m0 + m1)) 2 2) from (gA_eq h40 hC_1 (by omega) (by decide) (by decide))) ?_
                                                        refine lv_iload_n hx hb dX5_doing_99 rfl (lv_at hl 1 rfl) ?_
                                                        refine lv_icmp_ne (tgt := 106) hx hb dX5_doing_100 (by decide) (fun c_29 => ?_) (fun c_29 => ?_)
                                                        · skip
                                                          refine lv_iinc (v := (nI 9)) (lv' := [(4, .int (nI 9)), (3, .int (m_b9 (gA v f nw rv (nI (up + lo)) (9 * up + 3 * m0 + m1)))), (2, .int (-1)), (0, .ref (r 0)), (1, .int (nI w))]) hx hb dX5_doing_106 hl (k := 0) rfl (nI_1 _) (by decide) rfl (fun ls hl => ?_)
                                                          refine lv_goto (tgt := 56) hx hb dX5_doing_109 (by decide) ?_
                                                          refine lv_iload hx hb dX5_doing_56 (lv_at hl 0 rfl) ?_
                                                          refine lv_bipush (v := 9) hx hb dX5_doing_58 (by decide) ?_
                                                          refine n_icmp_ge (tgt := 112) (a := 9) (b := 9) hx hb dX5_doing_60 (by decide) (by omega) (by omega) (fun c_30 => ?_) (fun c_30 => ?_)
                                                          · skip
                                                            refine lv_iconst (v := (-1)) hx hb dX5_doing_112 (by decide) ?_
                                                            refine W.widen (k := 1) (n := 25) (Nat.le_of_ble_eq_true rfl) (Nat.le_of_ble_eq_true rfl) ?_
                                                            exact q_ret ((v, f, B_1, C_1) : MS) hx hb hr hlocks ⟨by rw [n_doing, if_neg (show ¬ rv ≤ nw by omega), n_do9, if_neg c_4, if_neg c_5, if_neg c_8, if_neg c_11, if_neg c_14, if_neg c_17, if_neg c_20, if_neg c_23, if_neg c_26, if_neg c_29] <;> rfl, rfl, rfl⟩ hP hD hS dX5_doing_113
                                                          · skip
                                                            exact absurd c_30 (by decide)
                                                        · skip
                                                          refine lv_iload hx hb dX5_doing_103 (lv_at hl 0 rfl) ?_
                                                          refine W.widen (k := 1) (n := 25) (Nat.le_of_ble_eq_true rfl) (Nat.le_of_ble_eq_true rfl) ?_
                                                          exact q_ret ((v, f, B_1, C_1) : MS) hx hb hr hlocks ⟨by rw [n_doing, if_neg (show ¬ rv ≤ nw by omega), n_do9, if_neg c_4, if_neg c_5, if_neg c_8, if_neg c_11, if_neg c_14, if_neg c_17, if_neg c_20, if_neg c_23, if_neg c_26, if_pos c_29] <;> rfl, rfl, rfl⟩ hP hD hS dX5_doing_105
                                                  · skip
                                                    refine lv_iload hx hb dX5_doing_103 (lv_at hl 0 rfl) ?_
                                                    refine W.widen (k := 1) (n := 25) (Nat.le_of_ble_eq_true rfl) (Nat.le_of_ble_eq_true rfl) ?_
                                                    exact q_ret ((v, f, B_1, C_1) : MS) hx hb hr hlocks ⟨by rw [n_doing, if_neg (show ¬ rv ≤ nw by omega), n_do9, if_neg c_4, if_neg c_5, if_neg c_8, if_neg c_11, if_neg c_14, if_neg c_17, if_neg c_20, if_neg c_23, if_pos c_26] <;> rfl, rfl, rfl⟩ hP hD hS dX5_doing_105
                                            · skip
                                              refine lv_iload hx hb dX5_doing_103 (lv_at hl 0 rfl) ?_
                                              refine W.widen (k := 1) (n := 25) (Nat.le_of_ble_eq_true rfl) (Nat.le_of_ble_eq_true rfl) ?_
                                              exact q_ret ((v, f, B_1, C_1) : MS) hx hb hr hlocks ⟨by rw [n_doing, if_neg (show ¬ rv ≤ nw by omega), n_do9, if_neg c_4, if_neg c_5, if_neg c_8, if_neg c_11, if_neg c_14, if_neg c_17, if_neg c_20, if_pos c_23] <;> rfl, rfl, rfl⟩ hP hD hS dX5_doing_105
                                      · skip
                                        refine lv_iload hx hb dX5_doing_103 (lv_at hl 0 rfl) ?_
                                        refine W.widen (k := 1) (n := 25) (Nat.le_of_ble_eq_true rfl) (Nat.le_of_ble_eq_true rfl) ?_
                                        exact q_ret ((v, f, B_1, C_1) : MS) hx hb hr hlocks ⟨by rw [n_doing, if_neg (show ¬ rv ≤ nw by omega), n_do9, if_neg c_4, if_neg c_5, if_neg c_8, if_neg c_11, if_neg c_14, if_neg c_17, if_pos c_20] <;> rfl, rfl, rfl⟩ hP hD hS dX5_doing_105
                                · skip
                                  refine lv_iload hx hb dX5_doing_103 (lv_at hl 0 rfl) ?_
                                  refine W.widen (k := 1) (n := 25) (Nat.le_of_ble_eq_true rfl) (Nat.le_of_ble_eq_true rfl) ?_
                                  exact q_ret ((v, f, B_1, C_1) : MS) hx hb hr hlocks ⟨by rw [n_doing, if_neg (show ¬ rv ≤ nw by omega), n_do9, if_neg c_4, if_neg c_5, if_neg c_8, if_neg c_11, if_neg c_14, if_pos c_17] <;> rfl, rfl, rfl⟩ hP hD hS dX5_doing_105
                          · skip
                            refine lv_iload hx hb dX5_doing_103 (lv_at hl 0 rfl) ?_
                            refine W.widen (k := 1) (n := 25) (Nat.le_of_ble_eq_true rfl) (Nat.le_of_ble_eq_true rfl) ?_
                            exact q_ret ((v, f, B_1, C_1) : MS) hx hb hr hlocks ⟨by rw [n_doing, if_neg (show ¬ rv ≤ nw by omega), n_do9, if_neg c_4, if_neg c_5, if_neg c_8, if_neg c_11, if_pos c_14] <;> rfl, rfl, rfl⟩ hP hD hS dX5_doing_105
                    · skip
                      refine lv_iload hx hb dX5_doing_103 (lv_at hl 0 rfl) ?_
                      refine W.widen (k := 1) (n := 25) (Nat.le_of_ble_eq_true rfl) (Nat.le_of_ble_eq_true rfl) ?_
                      exact q_ret ((v, f, B_1, C_1) : MS) hx hb hr hlocks ⟨by rw [n_doing, if_neg (show ¬ rv ≤ nw by omega), n_do9, if_neg c_4, if_neg c_5, if_neg c_8, if_pos c_11] <;> rfl, rfl, rfl⟩ hP hD hS dX5_doing_105
              · skip
                refine lv_iload hx hb dX5_doing_103 (lv_at hl 0 rfl) ?_
                refine W.widen (k := 1) (n := 25) (Nat.le_of_ble_eq_true rfl) (Nat.le_of_ble_eq_true rfl) ?_
                exact q_ret ((v, f, B_1, C_1) : MS) hx hb hr hlocks ⟨by rw [n_doing, if_neg (show ¬ rv ≤ nw by omega), n_do9, if_neg c_4, if_neg c_5, if_pos c_8] <;> rfl, rfl, rfl⟩ hP hD hS dX5_doing_105
        · skip
          refine lv_iload hx hb dX5_doing_103 (lv_at hl 0 rfl) ?_
          refine W.widen (k := 1) (n := 25) (Nat.le_of_ble_eq_true rfl) (Nat.le_of_ble_eq_true rfl) ?_
          exact q_ret ((v, f, B_1, C_1) : MS) hx hb hr hlocks ⟨by rw [n_doing, if_neg (show ¬ rv ≤ nw by omega), n_do9, if_neg c_4, if_pos c_5] <;> rfl, rfl, rfl⟩ hP hD hS dX5_doing_105
  · skip
    refine lv_iload_n hx hb dX5_doing_24 rfl (lv_at hl 1 rfl) ?_
    refine lv_goto (tgt := 29) hx hb dX5_doing_25 (by decide) ?_
    refine lv_istore_n (lv' := [(2, .int (nI w)), (0, .ref (r 0)), (1, .int (nI w))]) hx hb dX5_doing_29 rfl hl (by decide) rfl (fun ls hl => ?_)
    refine lv_aload_n hx hb dX5_doing_30 rfl (lv_at hl 1 rfl) ?_
    refine lv_iload_n hx hb dX5_doing_31 rfl (lv_at hl 0 rfl) ?_
    refine lv_aload_n hx hb dX5_doing_32 rfl (lv_at hl 1 rfl) ?_
    refine va_get (D := E.1) (ci := 5) (v := .int (v 1)) (C := RX5) (T := TX5) (N := 26) hx hb hts (fun _ h => (List.mem_cons_of_mem _ (List.mem_append_right _ h))) hown hK.1 hP 0 rfl rfl 1 (by decide) (hts _ (List.mem_of_getElem? (i := 3) rfl)) (fun _ h9 => h9) rfl dX5_doing_33 ?_
    refine w_top (show (v 1) = nI nw from hnw) ?_
    refine lv_aload_n hx hb dX5_doing_36 rfl (lv_at hl 1 rfl) ?_
    refine cR_V ⟨hx, hb, hml, hown, hts⟩ (c_X5_stateNow l E r v f B_1 C_1 up m0 m1 hup hm0 hm1) (cwV 0 hts gX5_doing_X5_stateNow rfl rfl rfl (by decide +kernel) ⟨Nat.le_of_ble_eq_true rfl, Nat.le_of_ble_eq_true rfl⟩) hK hP 5 0 rfl rfl rfl hl.1 rfl (Nat.le_of_ble_eq_true rfl) dX5_doing_37 ⟨Nat.le_of_ble_eq_true rfl, Nat.le_of_ble_eq_true rfl⟩ ?_
    refine lv_aload_n hx hb dX5_doing_40 rfl (lv_at hl 1 rfl) ?_
    refine va_get (D := E.1) (ci := 5) (v := .int (v 4)) (C := RX5) (T := TX5) (N := 26) hx hb hts (fun _ h => (List.mem_cons_of_mem _ (List.mem_append_right _ h))) hown hK.1 hP 0 rfl rfl 4 (by decide) (hts _ (List.mem_of_getElem? (i := 1) rfl)) (fun _ h9 => h9) rfl dX5_doing_41 ?_
    refine w_top (show (v 4) = nI up from hup) ?_
    refine lv_aload_n hx hb dX5_doing_44 rfl (lv_at hl 1 rfl) ?_
    refine va_get (D := E.1) (ci := 5) (v := .int (v 5)) (C := RX5) (T := TX5) (N := 26) hx hb hts (fun _ h => (List.mem_cons_of_mem _ (List.mem_append_right _ h))) hown hK.1 hP 0 rfl rfl 5 (by decide) (hts _ (List.mem_of_getElem? (i := 2) rfl)) (fun _ h9 => h9) rfl dX5_doing_45 ?_
    refine w_top (show (v 5) = nI lo from hlo) ?_
    refine lv_iadd hx hb dX5_doing_48 ?_
    refine w_top (show ((nI up) + (nI lo)) = (nI (up + lo)) from nI_add _ _) ?_
    refine cR_V ⟨hx, hb, hml, hown, hts⟩ (c_X5_bestOfW l E r v f B_1 C_1 w nw (9 * up + 3 * m0 + m1) (nI (up + lo)) (by omega) (by omega) (by omega) h40) (cwV 4 hts gX5_doing_X5_bestOf rfl rfl rfl (by decide +kernel) ⟨Nat.le_of_ble_eq_true rfl, Nat.le_of_ble_eq_true rfl⟩) hK hP 5 0 rfl rfl rfl hl.1 rfl (Nat.le_of_ble_eq_true rfl) dX5_doing_49 ⟨Nat.le_of_ble_eq_true rfl, Nat.le_of_ble_eq_true rfl⟩ ?_
    refine w_top (show (m_b9 (m_brW v f B_1 w nw (9 * up + 3 * m0 + m1) (nI (up + lo)))) = (m_b9 (gW v f nw w (nI (up + lo)) (9 * up + 3 * m0 + m1))) from (m_b9_congr (fun a b ha hb => gW_eq h40 hB_1 (by omega) (by omega) ha hb))) ?_
    refine lv_istore_n (lv' := [(3, .int (m_b9 (gW v f nw w (nI (up + lo)) (9 * up + 3 * m0 + m1)))), (2, .int (nI w)), (0, .ref (r 0)), (1, .int (nI w))]) hx hb dX5_doing_52 rfl hl (by decide) rfl (fun ls hl => ?_)
    refine lv_iconst (v := 0) hx hb dX5_doing_53 (by decide) ?_
    refine lv_istore (lv' := [(4, .int 0), (3, .int (m_b9 (gW v f nw w (nI (up + lo)) (9 * up + 3 * m0 + m1)))), (2, .int (nI w)), (0, .ref (r 0)), (1, .int (nI w))]) hx hb dX5_doing_54 hl (by decide) rfl (fun ls hl => ?_)
    refine lv_iload hx hb dX5_doing_56 (lv_at hl 0 rfl) ?_
    refine lv_bipush (v := 9) hx hb dX5_doing_58 (by decide) ?_
    refine n_icmp_ge (tgt := 112) (a := 0) (b := 9) hx hb dX5_doing_60 (by decide) (by omega) (by omega) (fun c_31 => ?_) (fun c_31 => ?_)
    · skip
      exact absurd c_31 (by decide)
    · skip
      refine lv_iload_n hx hb dX5_doing_63 rfl (lv_at hl 1 rfl) ?_
      refine lv_ldc hx hb hown (hts _ (List.mem_of_getElem? (i := 5) rfl)) dX5_doing_64 ?_
      refine lv_icmp_eq (tgt := 112) hx hb dX5_doing_66 (by decide) (fun c_32 => ?_) (fun c_32 => ?_)
      · skip
        refine lv_iconst (v := (-1)) hx hb dX5_doing_112 (by decide) ?_
        refine W.widen (k := 1) (n := 25) (Nat.le_of_ble_eq_true rfl) (Nat.le_of_ble_eq_true rfl) ?_
        exact q_ret ((v, f, B_1, C_1) : MS) hx hb hr hlocks ⟨by rw [n_doing, if_pos (show rv ≤ nw by omega), n_do9, if_pos c_32] <;> rfl, rfl, rfl⟩ hP hD hS dX5_doing_113
      · skip
        refine lv_aload_n hx hb dX5_doing_69 rfl (lv_at hl 3 rfl) ?_
        refine lv_iload_n hx hb dX5_doing_70 rfl (lv_at hl 2 rfl) ?_
        refine lv_aload_n hx hb dX5_doing_71 rfl (lv_at hl 3 rfl) ?_
        refine va_get (D := E.1) (ci := 5) (v := .int (v 1)) (C := RX5) (T := TX5) (N := 26) hx hb hts (fun _ h => (List.mem_cons_of_mem _ (List.mem_append_right _ h))) hown hK.1 hP 0 rfl rfl 1 (by decide) (hts _ (List.mem_of_getElem? (i := 3) rfl)) (fun _ h9 => h9) rfl dX5_doing_72 ?_
        refine w_top (show (v 1) = nI nw from hnw) ?_
        refine lv_aload_n hx hb dX5_doing_75 rfl (lv_at hl 3 rfl) ?_
        refine cR_V ⟨hx, hb, hml, hown, hts⟩ (c_X5_stateNow l E r v f B_1 C_1 up m0 m1 hup hm0 hm1) (cwV 0 hts gX5_doing_X5_stateNow rfl rfl rfl (by decide +kernel) ⟨Nat.le_of_ble_eq_true rfl, Nat.le_of_ble_eq_true rfl⟩) hK hP 5 0 rfl rfl rfl hl.1 rfl (Nat.le_of_ble_eq_true rfl) dX5_doing_76 ⟨Nat.le_of_ble_eq_true rfl, Nat.le_of_ble_eq_true rfl⟩ ?_
        refine lv_aload_n hx hb dX5_doing_79 rfl (lv_at hl 3 rfl) ?_
        refine va_get (D := E.1) (ci := 5) (v := .int (v 4)) (C := RX5) (T := TX5) (N := 26) hx hb hts (fun _ h => (List.mem_cons_of_mem _ (List.mem_append_right _ h))) hown hK.1 hP 0 rfl rfl 4 (by decide) (hts _ (List.mem_of_getElem? (i := 1) rfl)) (fun _ h9 => h9) rfl dX5_doing_80 ?_
        refine w_top (show (v 4) = nI up from hup) ?_
        refine lv_aload_n hx hb dX5_doing_83 rfl (lv_at hl 3 rfl) ?_
        refine va_get (D := E.1) (ci := 5) (v := .int (v 5)) (C := RX5) (T := TX5) (N := 26) hx hb hts (fun _ h => (List.mem_cons_of_mem _ (List.mem_append_right _ h))) hown hK.1 hP 0 rfl rfl 5 (by decide) (hts _ (List.mem_of_getElem? (i := 2) rfl)) (fun _ h9 => h9) rfl dX5_doing_84 ?_
        refine w_top (show (v 5) = nI lo from hlo) ?_
        refine lv_iadd hx hb dX5_doing_87 ?_
        refine w_top (show ((nI up) + (nI lo)) = (nI (up + lo)) from nI_add _ _) ?_
        refine lv_iload hx hb dX5_doing_88 (lv_at hl 0 rfl) ?_
        refine lv_iconst (v := 3) hx hb dX5_doing_90 (by decide) ?_
        refine lv_idiv hx hb dX5_doing_91 (by decide) ?_
        refine w_top (show (0 / 3) = (nI 0) from pk_div (a := 0) (d := 3) (by omega) (by decide) (by decide)) ?_
        refine lv_iload hx hb dX5_doing_92 (lv_at hl 0 rfl) ?_
        refine lv_iconst (v := 3) hx hb dX5_doing_94 (by decide) ?_
        refine lv_irem hx hb dX5_doing_95 (by decide) ?_
        refine w_top (show (0 - 0 / 3 * 3) = (nI 0) from pk_rem (a := 0) (d := 3) (by omega) (by decide) (by decide)) ?_
        refine cR_V ⟨hx, hb, hml, hown, hts⟩ (c_X5_bringsW l E r v f B_1 C_1 w nw (9 * up + 3 * m0 + m1) (nI (up + lo)) 0 0 (by omega) (by omega) (by omega) (by omega) (by omega) h40) (cwV 6 hts gX5_doing_X5_brings rfl rfl rfl (by decide +kernel) ⟨Nat.le_of_ble_eq_true rfl, Nat.le_of_ble_eq_true rfl⟩) hK hP 5 0 rfl rfl rfl hl.1 rfl (Nat.le_of_ble_eq_true rfl) dX5_doing_96 ⟨Nat.le_of_ble_eq_true rfl, Nat.le_of_ble_eq_true rfl⟩ ?_
        refine w_top (show (m_brW v f B_1 w nw (9 * up + 3 * m0 + m1) (nI (up + lo)) 0 0) = ((gW v f nw w (nI (up + lo)) (9 * up + 3 * m0 + m1)) 0 0) from (gW_eq h40 hB_1 (by omega) (by omega) (by decide) (by decide))) ?_
        refine lv_iload_n hx hb dX5_doing_99 rfl (lv_at hl 1 rfl) ?_
        refine lv_icmp_ne (tgt := 106) hx hb dX5_doing_100 (by decide) (fun c_33 => ?_) (fun c_33 => ?_)
        · skip
          refine lv_iinc (v := (nI 1)) (lv' := [(4, .int (nI 1)), (3, .int (m_b9 (gW v f nw w (nI (up + lo)) (9 * up + 3 * m0 + m1)))), (2, .int (nI w)), (0, .ref (r 0)), (1, .int (nI w))]) hx hb dX5_doing_106 hl (k := 0) rfl (nI_1 _) (by decide) rfl (fun ls hl => ?_)
          refine lv_goto (tgt := 56) hx hb dX5_doing_109 (by decide) ?_
          refine lv_iload hx hb dX5_doing_56 (lv_at hl 0 rfl) ?_
          refine lv_bipush (v := 9) hx hb dX5_doing_58 (by decide) ?_
          refine n_icmp_ge (tgt := 112) (a := 1) (b := 9) hx hb dX5_doing_60 (by decide) (by omega) (by omega) (fun c_34 => ?_) (fun c_34 => ?_)
          · skip
            exact absurd c_34 (by decide)
          · skip
            refine lv_iload_n hx hb dX5_doing_63 rfl (lv_at hl 1 rfl) ?_
            refine lv_ldc hx hb hown (hts _ (List.mem_of_getElem? (i := 5) rfl)) dX5_doing_64 ?_
            refine lv_icmp_eq (tgt := 112) hx hb dX5_doing_66 (by decide) (fun c_35 => ?_) (fun c_35 => ?_)
            · skip
              exact absurd c_35 c_32
            · skip
              refine lv_aload_n hx hb dX5_doing_69 rfl (lv_at hl 3 rfl) ?_
              refine lv_iload_n hx hb dX5_doing_70 rfl (lv_at hl 2 rfl) ?_
              refine lv_aload_n hx hb dX5_doing_71 rfl (lv_at hl 3 rfl) ?_
              refine va_get (D := E.1) (ci := 5) (v := .int (v 1)) (C := RX5) (T := TX5) (N := 26) hx hb hts (fun _ h => (List.mem_cons_of_mem _ (List.mem_append_right _ h))) hown hK.1 hP 0 rfl rfl 1 (by decide) (hts _ (List.mem_of_getElem? (i := 3) rfl)) (fun _ h9 => h9) rfl dX5_doing_72 ?_
              refine w_top (show (v 1) = nI nw from hnw) ?_
              refine lv_aload_n hx hb dX5_doing_75 rfl (lv_at hl 3 rfl) ?_
              refine cR_V ⟨hx, hb, hml, hown, hts⟩ (c_X5_stateNow l E r v f B_1 C_1 up m0 m1 hup hm0 hm1) (cwV 0 hts gX5_doing_X5_stateNow rfl rfl rfl (by decide +kernel) ⟨Nat.le_of_ble_eq_true rfl, Nat.le_of_ble_eq_true rfl⟩) hK hP 5 0 rfl rfl rfl hl.1 rfl (Nat.le_of_ble_eq_true rfl) dX5_doing_76 ⟨Nat.le_of_ble_eq_true rfl, Nat.le_of_ble_eq_true rfl⟩ ?_
              refine lv_aload_n hx hb dX5_doing_79 rfl (lv_at hl 3 rfl) ?_
              refine va_get (D := E.1) (ci := 5) (v := .int (v 4)) (C := RX5) (T := TX5) (N := 26) hx hb hts (fun _ h => (List.mem_cons_of_mem _ (List.mem_append_right _ h))) hown hK.1 hP 0 rfl rfl 4 (by decide) (hts _ (List.mem_of_getElem? (i := 1) rfl)) (fun _ h9 => h9) rfl dX5_doing_80 ?_
              refine w_top (show (v 4) = nI up from hup) ?_
              refine lv_aload_n hx hb dX5_doing_83 rfl (lv_at hl 3 rfl) ?_
              refine va_get (D := E.1) (ci := 5) (v := .int (v 5)) (C := RX5) (T := TX5) (N := 26) hx hb hts (fun _ h => (List.mem_cons_of_mem _ (List.mem_append_right _ h))) hown hK.1 hP 0 rfl rfl 5 (by decide) (hts _ (List.mem_of_getElem? (i := 2) rfl)) (fun _ h9 => h9) rfl dX5_doing_84 ?_
              refine w_top (show (v 5) = nI lo from hlo) ?_
              refine lv_iadd hx hb dX5_doing_87 ?_
              refine w_top (show ((nI up) + (nI lo)) = (nI (up + lo)) from nI_add _ _) ?_
              refine lv_iload hx hb dX5_doing_88 (lv_at hl 0 rfl) ?_
              refine lv_iconst (v := 3) hx hb dX5_doing_90 (by decide) ?_
              refine lv_idiv hx hb dX5_doing_91 (by decide) ?_
              refine w_top (show ((nI 1) / 3) = (nI 0) from pk_div (a := 1) (d := 3) (by omega) (by decide) (by decide)) ?_
              refine lv_iload hx hb dX5_doing_92 (lv_at hl 0 rfl) ?_
              refine lv_iconst (v := 3) hx hb dX5_doing_94 (by decide) ?_
              refine lv_irem hx hb dX5_doing_95 (by decide) ?_
              refine w_top (show ((nI 1) - (nI 1) / 3 * 3) = (nI 1) from pk_rem (a := 1) (d := 3) (by omega) (by decide) (by decide)) ?_
              refine cR_V ⟨hx, hb, hml, hown, hts⟩ (c_X5_bringsW l E r v f B_1 C_1 w nw (9 * up + 3 * m0 + m1) (nI (up + lo)) 0 1 (by omega) (by omega) (by omega) (by omega) (by omega) h40) (cwV 6 hts gX5_doing_X5_brings rfl rfl rfl (by decide +kernel) ⟨Nat.le_of_ble_eq_true rfl, Nat.le_of_ble_eq_true rfl⟩) hK hP 5 0 rfl rfl rfl hl.1 rfl (Nat.le_of_ble_eq_true rfl) dX5_doing_96 ⟨Nat.le_of_ble_eq_true rfl, Nat.le_of_ble_eq_true rfl⟩ ?_
              refine w_top (show (m_brW v f B_1 w nw (9 * up + 3 * m0 + m1) (nI (up + lo)) 0 1) = ((gW v f nw w (nI (up + lo)) (9 * up + 3 * m0 + m1)) 0 1) from (gW_eq h40 hB_1 (by omega) (by omega) (by decide) (by decide))) ?_
              refine lv_iload_n hx hb dX5_doing_99 rfl (lv_at hl 1 rfl) ?_
              refine lv_icmp_ne (tgt := 106) hx hb dX5_doing_100 (by decide) (fun c_36 => ?_) (fun c_36 => ?_)
              · skip
                refine lv_iinc (v := (nI 2)) (lv' := [(4, .int (nI 2)), (3, .int (m_b9 (gW v f nw w (nI (up + lo)) (9 * up + 3 * m0 + m1)))), (2, .int (nI w)), (0, .ref (r 0)), (1, .int (nI w))]) hx hb dX5_doing_106 hl (k := 0) rfl (nI_1 _) (by decide) rfl (fun ls hl => ?_)
                refine lv_goto (tgt := 56) hx hb dX5_doing_109 (by decide) ?_
                refine lv_iload hx hb dX5_doing_56 (lv_at hl 0 rfl) ?_
                refine lv_bipush (v := 9) hx hb dX5_doing_58 (by decide) ?_
                refine n_icmp_ge (tgt := 112) (a := 2) (b := 9) hx hb dX5_doing_60 (by decide) (by omega) (by omega) (fun c_37 => ?_) (fun c_37 => ?_)
                · skip
                  exact absurd c_37 (by decide)
                · skip
                  refine lv_iload_n hx hb dX5_doing_63 rfl (lv_at hl 1 rfl) ?_
                  refine lv_ldc hx hb hown (hts _ (List.mem_of_getElem? (i := 5) rfl)) dX5_doing_64 ?_
                  refine lv_icmp_eq (tgt := 112) hx hb dX5_doing_66 (by decide) (fun c_38 => ?_) (fun c_38 => ?_)
                  · skip
                    exact absurd c_38 c_32
                  · skip
                    refine lv_aload_n hx hb dX5_doing_69 rfl (lv_at hl 3 rfl) ?_
                    refine lv_iload_n hx hb dX5_doing_70 rfl (lv_at hl 2 rfl) ?_
                    refine lv_aload_n hx hb dX5_doing_71 rfl (lv_at hl 3 rfl) ?_
                    refine va_get (D := E.1) (ci := 5) (v := .int (v 1)) (C := RX5) (T := TX5) (N := 26) hx hb hts (fun _ h => (List.mem_cons_of_mem _ (List.mem_append_right _ h))) hown hK.1 hP 0 rfl rfl 1 (by decide) (hts _ (List.mem_of_getElem? (i := 3) rfl)) (fun _ h9 => h9) rfl dX5_doing_72 ?_
                    refine w_top (show (v 1) = nI nw from hnw) ?_
                    refine lv_aload_n hx hb dX5_doing_75 rfl (lv_at hl 3 rfl) ?_
                    refine cR_V ⟨hx, hb, hml, hown, hts⟩ (c_X5_stateNow l E r v f B_1 C_1 up m0 m1 hup hm0 hm1) (cwV 0 hts gX5_doing_X5_stateNow rfl rfl rfl (by decide +kernel) ⟨Nat.le_of_ble_eq_true rfl, Nat.le_of_ble_eq_true rfl⟩) hK hP 5 0 rfl rfl rfl hl.1 rfl (Nat.le_of_ble_eq_true rfl) dX5_doing_76 ⟨Nat.le_of_ble_eq_true rfl, Nat.le_of_ble_eq_true rfl⟩ ?_
                    refine lv_aload_n hx hb dX5_doing_79 rfl (lv_at hl 3 rfl) ?_
                    refine va_get (D := E.1) (ci := 5) (v := .int (v 4)) (C := RX5) (T := TX5) (N := 26) hx hb hts (fun _ h => (List.mem_cons_of_mem _ (List.mem_append_right _ h))) hown hK.1 hP 0 rfl rfl 4 (by decide) (hts _ (List.mem_of_getElem? (i := 1) rfl)) (fun _ h9 => h9) rfl dX5_doing_80 ?_
                    refine w_top (show (v 4) = nI up from hup) ?_
                    refine lv_aload_n hx hb dX5_doing_83 rfl (lv_at hl 3 rfl) ?_
                    refine va_get (D := E.1) (ci := 5) (v := .int (v 5)) (C := RX5) (T := TX5) (N := 26) hx hb hts (fun _ h => (List.mem_cons_of_mem _ (List.mem_append_right _ h))) hown hK.1 hP 0 rfl rfl 5 (by decide) (hts _ (List.mem_of_getElem? (i := 2) rfl)) (fun _ h9 => h9) rfl dX5_doing_84 ?_
                    refine w_top (show (v 5) = nI lo from hlo) ?_
                    refine lv_iadd hx hb dX5_doing_87 ?_
                    refine w_top (show ((nI up) + (nI lo)) = (nI (up + lo)) from nI_add _ _) ?_
                    refine lv_iload hx hb dX5_doing_88 (lv_at hl 0 rfl) ?_
                    refine lv_iconst (v := 3) hx hb dX5_doing_90 (by decide) ?_
                    refine lv_idiv hx hb dX5_doing_91 (by decide) ?_
                    refine w_top (show ((nI 2) / 3) = (nI 0) from pk_div (a := 2) (d := 3) (by omega) (by decide) (by decide)) ?_
                    refine lv_iload hx hb dX5_doing_92 (lv_at hl 0 rfl) ?_
                    refine lv_iconst (v := 3) hx hb dX5_doing_94 (by decide) ?_
                    refine lv_irem hx hb dX5_doing_95 (by decide) ?_
                    refine w_top (show ((nI 2) - (nI 2) / 3 * 3) = (nI 2) from pk_rem (a := 2) (d := 3) (by omega) (by decide) (by decide)) ?_
                    refine cR_V ⟨hx, hb, hml, hown, hts⟩ (c_X5_bringsW l E r v f B_1 C_1 w nw (9 * up + 3 * m0 + m1) (nI (up + lo)) 0 2 (by omega) (by omega) (by omega) (by omega) (by omega) h40) (cwV 6 hts gX5_doing_X5_brings rfl rfl rfl (by decide +kernel) ⟨Nat.le_of_ble_eq_true rfl, Nat.le_of_ble_eq_true rfl⟩) hK hP 5 0 rfl rfl rfl hl.1 rfl (Nat.le_of_ble_eq_true rfl) dX5_doing_96 ⟨Nat.le_of_ble_eq_true rfl, Nat.le_of_ble_eq_true rfl⟩ ?_
                    refine w_top (show (m_brW v f B_1 w nw (9 * up + 3 * m0 + m1) (nI (up + lo)) 0 2) = ((gW v f nw w (nI (up + lo)) (9 * up + 3 * m0 + m1)) 0 2) from (gW_eq h40 hB_1 (by omega) (by omega) (by decide) (by decide))) ?_
                    refine lv_iload_n hx hb dX5_doing_99 rfl (lv_at hl 1 rfl) ?_
                    refine lv_icmp_ne (tgt := 106) hx hb dX5_doing_100 (by decide) (fun c_39 => ?_) (fun c_39 => ?_)
                    · skip
                      refine lv_iinc (v := (nI 3)) (lv' := [(4, .int (nI 3)), (3, .int (m_b9 (gW v f nw w (nI (up + lo)) (9 * up + 3 * m0 + m1)))), (2, .int (nI w)), (0, .ref (r 0)), (1, .int (nI w))]) hx hb dX5_doing_106 hl (k := 0) rfl (nI_1 _) (by decide) rfl (fun ls hl => ?_)
                      refine lv_goto (tgt := 56) hx hb dX5_doing_109 (by decide) ?_
                      refine lv_iload hx hb dX5_doing_56 (lv_at hl 0 rfl) ?_
                      refine lv_bipush (v := 9) hx hb dX5_doing_58 (by decide) ?_
                      refine n_icmp_ge (tgt := 112) (a := 3) (b := 9) hx hb dX5_doing_60 (by decide) (by omega) (by omega) (fun c_40 => ?_) (fun c_40 => ?_)
                      · skip
                        exact absurd c_40 (by decide)
                      · skip
                        refine lv_iload_n hx hb dX5_doing_63 rfl (lv_at hl 1 rfl) ?_
                        refine lv_ldc hx hb hown (hts _ (List.mem_of_getElem? (i := 5) rfl)) dX5_doing_64 ?_
                        refine lv_icmp_eq (tgt := 112) hx hb dX5_doing_66 (by decide) (fun c_41 => ?_) (fun c_41 => ?_)
                        · skip
                          exact absurd c_41 c_32
                        · skip
                          refine lv_aload_n hx hb dX5_doing_69 rfl (lv_at hl 3 rfl) ?_
                          refine lv_iload_n hx hb dX5_doing_70 rfl (lv_at hl 2 rfl) ?_
                          refine lv_aload_n hx hb dX5_doing_71 rfl (lv_at hl 3 rfl) ?_
                          refine va_get (D := E.1) (ci := 5) (v := .int (v 1)) (C := RX5) (T := TX5) (N := 26) hx hb hts (fun _ h => (List.mem_cons_of_mem _ (List.mem_append_right _ h))) hown hK.1 hP 0 rfl rfl 1 (by decide) (hts _ (List.mem_of_getElem? (i := 3) rfl)) (fun _ h9 => h9) rfl dX5_doing_72 ?_
                          refine w_top (show (v 1) = nI nw from hnw) ?_
                          refine lv_aload_n hx hb dX5_doing_75 rfl (lv_at hl 3 rfl) ?_
                          refine cR_V ⟨hx, hb, hml, hown, hts⟩ (c_X5_stateNow l E r v f B_1 C_1 up m0 m1 hup hm0 hm1) (cwV 0 hts gX5_doing_X5_stateNow rfl rfl rfl (by decide +kernel) ⟨Nat.le_of_ble_eq_true rfl, Nat.le_of_ble_eq_true rfl⟩) hK hP 5 0 rfl rfl rfl hl.1 rfl (Nat.le_of_ble_eq_true rfl) dX5_doing_76 ⟨Nat.le_of_ble_eq_true rfl, Nat.le_of_ble_eq_true rfl⟩ ?_
                          refine lv_aload_n hx hb dX5_doing_79 rfl (lv_at hl 3 rfl) ?_
                          refine va_get (D := E.1) (ci := 5) (v := .int (v 4)) (C := RX5) (T := TX5) (N := 26) hx hb hts (fun _ h => (List.mem_cons_of_mem _ (List.mem_append_right _ h))) hown hK.1 hP 0 rfl rfl 4 (by decide) (hts _ (List.mem_of_getElem? (i := 1) rfl)) (fun _ h9 => h9) rfl dX5_doing_80 ?_
                          refine w_top (show (v 4) = nI up from hup) ?_
                          refine lv_aload_n hx hb dX5_doing_83 rfl (lv_at hl 3 rfl) ?_
                          refine va_get (D := E.1) (ci := 5) (v := .int (v 5)) (C := RX5) (T := TX5) (N := 26) hx hb hts (fun _ h => (List.mem_cons_of_mem _ (List.mem_append_right _ h))) hown hK.1 hP 0 rfl rfl 5 (by decide) (hts _ (List.mem_of_getElem? (i := 2) rfl)) (fun _ h9 => h9) rfl dX5_doing_84 ?_
                          refine w_top (show (v 5) = nI lo from hlo) ?_
                          refine lv_iadd hx hb dX5_doing_87 ?_
                          refine w_top (show ((nI up) + (nI lo)) = (nI (up + lo)) from nI_add _ _) ?_
                          refine lv_iload hx hb dX5_doing_88 (lv_at hl 0 rfl) ?_
                          refine lv_iconst (v := 3) hx hb dX5_doing_90 (by decide) ?_
                          refine lv_idiv hx hb dX5_doing_91 (by decide) ?_
                          refine w_top (show ((nI 3) / 3) = (nI 1) from pk_div (a := 3) (d := 3) (by omega) (by decide) (by decide)) ?_
                          refine lv_iload hx hb dX5_doing_92 (lv_at hl 0 rfl) ?_
                          refine lv_iconst (v := 3) hx hb dX5_doing_94 (by decide) ?_
                          refine lv_irem hx hb dX5_doing_95 (by decide) ?_
                          refine w_top (show ((nI 3) - (nI 3) / 3 * 3) = (nI 0) from pk_rem (a := 3) (d := 3) (by omega) (by decide) (by decide)) ?_
                          refine cR_V ⟨hx, hb, hml, hown, hts⟩ (c_X5_bringsW l E r v f B_1 C_1 w nw (9 * up + 3 * m0 + m1) (nI (up + lo)) 1 0 (by omega) (by omega) (by omega) (by omega) (by omega) h40) (cwV 6 hts gX5_doing_X5_brings rfl rfl rfl (by decide +kernel) ⟨Nat.le_of_ble_eq_true rfl, Nat.le_of_ble_eq_true rfl⟩) hK hP 5 0 rfl rfl rfl hl.1 rfl (Nat.le_of_ble_eq_true rfl) dX5_doing_96 ⟨Nat.le_of_ble_eq_true rfl, Nat.le_of_ble_eq_true rfl⟩ ?_
                          refine w_top (show (m_brW v f B_1 w nw (9 * up + 3 * m0 + m1) (nI (up + lo)) 1 0) = ((gW v f nw w (nI (up + lo)) (9 * up + 3 * m0 + m1)) 1 0) from (gW_eq h40 hB_1 (by omega) (by omega) (by decide) (by decide))) ?_
                          refine lv_iload_n hx hb dX5_doing_99 rfl (lv_at hl 1 rfl) ?_
                          refine lv_icmp_ne (tgt := 106) hx hb dX5_doing_100 (by decide) (fun c_42 => ?_) (fun c_42 => ?_)
                          · skip
                            refine lv_iinc (v := (nI 4)) (lv' := [(4, .int (nI 4)), (3, .int (m_b9 (gW v f nw w (nI (up + lo)) (9 * up + 3 * m0 + m1)))), (2, .int (nI w)), (0, .ref (r 0)), (1, .int (nI w))]) hx hb dX5_doing_106 hl (k := 0) rfl (nI_1 _) (by decide) rfl (fun ls hl => ?_)
                            refine lv_goto (tgt := 56) hx hb dX5_doing_109 (by decide) ?_
                            refine lv_iload hx hb dX5_doing_56 (lv_at hl 0 rfl) ?_
                            refine lv_bipush (v := 9) hx hb dX5_doing_58 (by decide) ?_
                            refine n_icmp_ge (tgt := 112) (a := 4) (b := 9) hx hb dX5_doing_60 (by decide) (by omega) (by omega) (fun c_43 => ?_) (fun c_43 => ?_)
                            · skip
                              exact absurd c_43 (by decide)
                            · skip
                              refine lv_iload_n hx hb dX5_doing_63 rfl (lv_at hl 1 rfl) ?_
                              refine lv_ldc hx hb hown (hts _ (List.mem_of_getElem? (i := 5) rfl)) dX5_doing_64 ?_
                              refine lv_icmp_eq (tgt := 112) hx hb dX5_doing_66 (by decide) (fun c_44 => ?_) (fun c_44 => ?_)
                              · skip
                                exact absurd c_44 c_32
                              · skip
                                refine lv_aload_n hx hb dX5_doing_69 rfl (lv_at hl 3 rfl) ?_
                                refine lv_iload_n hx hb dX5_doing_70 rfl (lv_at hl 2 rfl) ?_
                                refine lv_aload_n hx hb dX5_doing_71 rfl (lv_at hl 3 rfl) ?_
                                refine va_get (D := E.1) (ci := 5) (v := .int (v 1)) (C := RX5) (T := TX5) (N := 26) hx hb hts (fun _ h => (List.mem_cons_of_mem _ (List.mem_append_right _ h))) hown hK.1 hP 0 rfl rfl 1 (by decide) (hts _ (List.mem_of_getElem? (i := 3) rfl)) (fun _ h9 => h9) rfl dX5_doing_72 ?_
                                refine w_top (show (v 1) = nI nw from hnw) ?_
                                refine lv_aload_n hx hb dX5_doing_75 rfl (lv_at hl 3 rfl) ?_
                                refine cR_V ⟨hx, hb, hml, hown, hts⟩ (c_X5_stateNow l E r v f B_1 C_1 up m0 m1 hup hm0 hm1) (cwV 0 hts gX5_doing_X5_stateNow rfl rfl rfl (by decide +kernel) ⟨Nat.le_of_ble_eq_true rfl, Nat.le_of_ble_eq_true rfl⟩) hK hP 5 0 rfl rfl rfl hl.1 rfl (Nat.le_of_ble_eq_true rfl) dX5_doing_76 ⟨Nat.le_of_ble_eq_true rfl, Nat.le_of_ble_eq_true rfl⟩ ?_
                                refine lv_aload_n hx hb dX5_doing_79 rfl (lv_at hl 3 rfl) ?_
                                refine va_get (D := E.1) (ci := 5) (v := .int (v 4)) (C := RX5) (T := TX5) (N := 26) hx hb hts (fun _ h => (List.mem_cons_of_mem _ (List.mem_append_right _ h))) hown hK.1 hP 0 rfl rfl 4 (by decide) (hts _ (List.mem_of_getElem? (i := 1) rfl)) (fun _ h9 => h9) rfl dX5_doing_80 ?_
                                refine w_top (show (v 4) = nI up from hup) ?_
                                refine lv_aload_n hx hb dX5_doing_83 rfl (lv_at hl 3 rfl) ?_
                                refine va_get (D := E.1) (ci := 5) (v := .int (v 5)) (C := RX5) (T := TX5) (N := 26) hx hb hts (fun _ h => (List.mem_cons_of_mem _ (List.mem_append_right _ h))) hown hK.1 hP 0 rfl rfl 5 (by decide) (hts _ (List.mem_of_getElem? (i := 2) rfl)) (fun _ h9 => h9) rfl dX5_doing_84 ?_
                                refine w_top (show (v 5) = nI lo from hlo) ?_
                                refine lv_iadd hx hb dX5_doing_87 ?_
                                refine w_top (show ((nI up) + (nI lo)) = (nI (up + lo)) from nI_add _ _) ?_
                                refine lv_iload hx hb dX5_doing_88 (lv_at hl 0 rfl) ?_
                                refine lv_iconst (v := 3) hx hb dX5_doing_90 (by decide) ?_
                                refine lv_idiv hx hb dX5_doing_91 (by decide) ?_
                                refine w_top (show ((nI 4) / 3) = (nI 1) from pk_div (a := 4) (d := 3) (by omega) (by decide) (by decide)) ?_
                                refine lv_iload hx hb dX5_doing_92 (lv_at hl 0 rfl) ?_
                                refine lv_iconst (v := 3) hx hb dX5_doing_94 (by decide) ?_
                                refine lv_irem hx hb dX5_doing_95 (by decide) ?_
                                refine w_top (show ((nI 4) - (nI 4) / 3 * 3) = (nI 1) from pk_rem (a := 4) (d := 3) (by omega) (by decide) (by decide)) ?_
                                refine cR_V ⟨hx, hb, hml, hown, hts⟩ (c_X5_bringsW l E r v f B_1 C_1 w nw (9 * up + 3 * m0 + m1) (nI (up + lo)) 1 1 (by omega) (by omega) (by omega) (by omega) (by omega) h40) (cwV 6 hts gX5_doing_X5_brings rfl rfl rfl (by decide +kernel) ⟨Nat.le_of_ble_eq_true rfl, Nat.le_of_ble_eq_true rfl⟩) hK hP 5 0 rfl rfl rfl hl.1 rfl (Nat.le_of_ble_eq_true rfl) dX5_doing_96 ⟨Nat.le_of_ble_eq_true rfl, Nat.le_of_ble_eq_true rfl⟩ ?_
                                refine w_top (show (m_brW v f B_1 w nw (9 * up + 3 * m0 + m1) (nI (up + lo)) 1 1) = ((gW v f nw w (nI (up + lo)) (9 * up + 3 * m0 + m1)) 1 1) from (gW_eq h40 hB_1 (by omega) (by omega) (by decide) (by decide))) ?_
                                refine lv_iload_n hx hb dX5_doing_99 rfl (lv_at hl 1 rfl) ?_
                                refine lv_icmp_ne (tgt := 106) hx hb dX5_doing_100 (by decide) (fun c_45 => ?_) (fun c_45 => ?_)
                                · skip
                                  refine lv_iinc (v := (nI 5)) (lv' := [(4, .int (nI 5)), (3, .int (m_b9 (gW v f nw w (nI (up + lo)) (9 * up + 3 * m0 + m1)))), (2, .int (nI w)), (0, .ref (r 0)), (1, .int (nI w))]) hx hb dX5_doing_106 hl (k := 0) rfl (nI_1 _) (by decide) rfl (fun ls hl => ?_)
                                  refine lv_goto (tgt := 56) hx hb dX5_doing_109 (by decide) ?_
                                  refine lv_iload hx hb dX5_doing_56 (lv_at hl 0 rfl) ?_
                                  refine lv_bipush (v := 9) hx hb dX5_doing_58 (by decide) ?_
                                  refine n_icmp_ge (tgt := 112) (a := 5) (b := 9) hx hb dX5_doing_60 (by decide) (by omega) (by omega) (fun c_46 => ?_) (fun c_46 => ?_)
                                  · skip
                                    exact absurd c_46 (by decide)
                                  · skip
                                    refine lv_iload_n hx hb dX5_doing_63 rfl (lv_at hl 1 rfl) ?_
                                    refine lv_ldc hx hb hown (hts _ (List.mem_of_getElem? (i := 5) rfl)) dX5_doing_64 ?_
                                    refine lv_icmp_eq (tgt := 112) hx hb dX5_doing_66 (by decide) (fun c_47 => ?_) (fun c_47 => ?_)
                                    · skip
                                      exact absurd c_47 c_32
                                    · skip
                                      refine lv_aload_n hx hb dX5_doing_69 rfl (lv_at hl 3 rfl) ?_
                                      refine lv_iload_n hx hb dX5_doing_70 rfl (lv_at hl 2 rfl) ?_
                                      refine lv_aload_n hx hb dX5_doing_71 rfl (lv_at hl 3 rfl) ?_
                                      refine va_get (D := E.1) (ci := 5) (v := .int (v 1)) (C := RX5) (T := TX5) (N := 26) hx hb hts (fun _ h => (List.mem_cons_of_mem _ (List.mem_append_right _ h))) hown hK.1 hP 0 rfl rfl 1 (by decide) (hts _ (List.mem_of_getElem? (i := 3) rfl)) (fun _ h9 => h9) rfl dX5_doing_72 ?_
                                      refine w_top (show (v 1) = nI nw from hnw) ?_
                                      refine lv_aload_n hx hb dX5_doing_75 rfl (lv_at hl 3 rfl) ?_
                                      refine cR_V ⟨hx, hb, hml, hown, hts⟩ (c_X5_stateNow l E r v f B_1 C_1 up m0 m1 hup hm0 hm1) (cwV 0 hts gX5_doing_X5_stateNow rfl rfl rfl (by decide +kernel) ⟨Nat.le_of_ble_eq_true rfl, Nat.le_of_ble_eq_true rfl⟩) hK hP 5 0 rfl rfl rfl hl.1 rfl (Nat.le_of_ble_eq_true rfl) dX5_doing_76 ⟨Nat.le_of_ble_eq_true rfl, Nat.le_of_ble_eq_true rfl⟩ ?_
                                      refine lv_aload_n hx hb dX5_doing_79 rfl (lv_at hl 3 rfl) ?_
                                      refine va_get (D := E.1) (ci := 5) (v := .int (v 4)) (C := RX5) (T := TX5) (N := 26) hx hb hts (fun _ h => (List.mem_cons_of_mem _ (List.mem_append_right _ h))) hown hK.1 hP 0 rfl rfl 4 (by decide) (hts _ (List.mem_of_getElem? (i := 1) rfl)) (fun _ h9 => h9) rfl dX5_doing_80 ?_
                                      refine w_top (show (v 4) = nI up from hup) ?_
                                      refine lv_aload_n hx hb dX5_doing_83 rfl (lv_at hl 3 rfl) ?_
                                      refine va_get (D := E.1) (ci := 5) (v := .int (v 5)) (C := RX5) (T := TX5) (N := 26) hx hb hts (fun _ h => (List.mem_cons_of_mem _ (List.mem_append_right _ h))) hown hK.1 hP 0 rfl rfl 5 (by decide) (hts _ (List.mem_of_getElem? (i := 2) rfl)) (fun _ h9 => h9) rfl dX5_doing_84 ?_
                                      refine w_top (show (v 5) = nI lo from hlo) ?_
                                      refine lv_iadd hx hb dX5_doing_87 ?_
                                      refine w_top (show ((nI up) + (nI lo)) = (nI (up + lo)) from nI_add _ _) ?_
                                      refine lv_iload hx hb dX5_doing_88 (lv_at hl 0 rfl) ?_
                                      refine lv_iconst (v := 3) hx hb dX5_doing_90 (by decide) ?_
                                      refine lv_idiv hx hb dX5_doing_91 (by decide) ?_
                                      refine w_top (show ((nI 5) / 3) = (nI 1) from pk_div (a := 5) (d := 3) (by omega) (by decide) (by decide)) ?_
                                      refine lv_iload hx hb dX5_doing_92 (lv_at hl 0 rfl) ?_
                                      refine lv_iconst (v := 3) hx hb dX5_doing_94 (by decide) ?_
                                      refine lv_irem hx hb dX5_doing_95 (by decide) ?_
                                      refine w_top (show ((nI 5) - (nI 5) / 3 * 3) = (nI 2) from pk_rem (a := 5) (d := 3) (by omega) (by decide) (by decide)) ?_
                                      refine cR_V ⟨hx, hb, hml, hown, hts⟩ (c_X5_bringsW l E r v f B_1 C_1 w nw (9 * up + 3 * m0 + m1) (nI (up + lo)) 1 2 (by omega) (by omega) (by omega) (by omega) (by omega) h40) (cwV 6 hts gX5_doing_X5_brings rfl rfl rfl (by decide +kernel) ⟨Nat.le_of_ble_eq_true rfl, Nat.le_of_ble_eq_true rfl⟩) hK hP 5 0 rfl rfl rfl hl.1 rfl (Nat.le_of_ble_eq_true rfl) dX5_doing_96 ⟨Nat.le_of_ble_eq_true rfl, Nat.le_of_ble_eq_true rfl⟩ ?_
                                      refine w_top (show (m_brW v f B_1 w nw (9 * up + 3 * m0 + m1) (nI (up + lo)) 1 2) = ((gW v f nw w (nI (up + lo)) (9 * up + 3 * m0 + m1)) 1 2) from (gW_eq h40 hB_1 (by omega) (by omega) (by decide) (by decide))) ?_
                                      refine lv_iload_n hx hb dX5_doing_99 rfl (lv_at hl 1 rfl) ?_
                                      refine lv_icmp_ne (tgt := 106) hx hb dX5_doing_100 (by decide) (fun c_48 => ?_) (fun c_48 => ?_)
                                      · skip
                                        refine lv_iinc (v := (nI 6)) (lv' := [(4, .int (nI 6)), (3, .int (m_b9 (gW v f nw w (nI (up + lo)) (9 * up + 3 * m0 + m1)))), (2, .int (nI w)), (0, .ref (r 0)), (1, .int (nI w))]) hx hb dX5_doing_106 hl (k := 0) rfl (nI_1 _) (by decide) rfl (fun ls hl => ?_)
                                        refine lv_goto (tgt := 56) hx hb dX5_doing_109 (by decide) ?_
                                        refine lv_iload hx hb dX5_doing_56 (lv_at hl 0 rfl) ?_
                                        refine lv_bipush (v := 9) hx hb dX5_doing_58 (by decide) ?_
                                        refine n_icmp_ge (tgt := 112) (a := 6) (b := 9) hx hb dX5_doing_60 (by decide) (by omega) (by omega) (fun c_49 => ?_) (fun c_49 => ?_)
                                        · skip
                                          exact absurd c_49 (by decide)
                                        · skip
                                          refine lv_iload_n hx hb dX5_doing_63 rfl (lv_at hl 1 rfl) ?_
                                          refine lv_ldc hx hb hown (hts _ (List.mem_of_getElem? (i := 5) rfl)) dX5_doing_64 ?_
                                          refine lv_icmp_eq (tgt := 112) hx hb dX5_doing_66 (by decide) (fun c_50 => ?_) (fun c_50 => ?_)
                                          · skip
                                            exact absurd c_50 c_32
                                          · skip
                                            refine lv_aload_n hx hb dX5_doing_69 rfl (lv_at hl 3 rfl) ?_
                                            refine lv_iload_n hx hb dX5_doing_70 rfl (lv_at hl 2 rfl) ?_
                                            refine lv_aload_n hx hb dX5_doing_71 rfl (lv_at hl 3 rfl) ?_
                                            refine va_get (D := E.1) (ci := 5) (v := .int (v 1)) (C := RX5) (T := TX5) (N := 26) hx hb hts (fun _ h => (List.mem_cons_of_mem _ (List.mem_append_right _ h))) hown hK.1 hP 0 rfl rfl 1 (by decide) (hts _ (List.mem_of_getElem? (i := 3) rfl)) (fun _ h9 => h9) rfl dX5_doing_72 ?_
                                            refine w_top (show (v 1) = nI nw from hnw) ?_
                                            refine lv_aload_n hx hb dX5_doing_75 rfl (lv_at hl 3 rfl) ?_
                                            refine cR_V ⟨hx, hb, hml, hown, hts⟩ (c_X5_stateNow l E r v f B_1 C_1 up m0 m1 hup hm0 hm1) (cwV 0 hts gX5_doing_X5_stateNow rfl rfl rfl (by decide +kernel) ⟨Nat.le_of_ble_eq_true rfl, Nat.le_of_ble_eq_true rfl⟩) hK hP 5 0 rfl rfl rfl hl.1 rfl (Nat.le_of_ble_eq_true rfl) dX5_doing_76 ⟨Nat.le_of_ble_eq_true rfl, Nat.le_of_ble_eq_true rfl⟩ ?_
                                            refine lv_aload_n hx hb dX5_doing_79 rfl (lv_at hl 3 rfl) ?_
                                            refine va_get (D := E.1) (ci := 5) (v := .int (v 4)) (C := RX5) (T := TX5) (N := 26) hx hb hts (fun _ h => (List.mem_cons_of_mem _ (List.mem_append_right _ h))) hown hK.1 hP 0 rfl rfl 4 (by decide) (hts _ (List.mem_of_getElem? (i := 1) rfl)) (fun _ h9 => h9) rfl dX5_doing_80 ?_
                                            refine w_top (show (v 4) = nI up from hup) ?_
                                            refine lv_aload_n hx hb dX5_doing_83 rfl (lv_at hl 3 rfl) ?_
                                            refine va_get (D := E.1) (ci := 5) (v := .int (v 5)) (C := RX5) (T := TX5) (N := 26) hx hb hts (fun _ h => (List.mem_cons_of_mem _ (List.mem_append_right _ h))) hown hK.1 hP 0 rfl rfl 5 (by decide) (hts _ (List.mem_of_getElem? (i := 2) rfl)) (fun _ h9 => h9) rfl dX5_doing_84 ?_
                                            refine w_top (show (v 5) = nI lo from hlo) ?_
                                            refine lv_iadd hx hb dX5_doing_87 ?_
                                            refine w_top (show ((nI up) + (nI lo)) = (nI (up + lo)) from nI_add _ _) ?_
                                            refine lv_iload hx hb dX5_doing_88 (lv_at hl 0 rfl) ?_
                                            refine lv_iconst (v := 3) hx hb dX5_doing_90 (by decide) ?_
                                            refine lv_idiv hx hb dX5_doing_91 (by decide) ?_
                                            refine w_top (show ((nI 6) / 3) = (nI 2) from pk_div (a := 6) (d := 3) (by omega) (by decide) (by decide)) ?_
                                            refine lv_iload hx hb dX5_doing_92 (lv_at hl 0 rfl) ?_
                                            refine lv_iconst (v := 3) hx hb dX5_doing_94 (by decide) ?_
                                            refine lv_irem hx hb dX5_doing_95 (by decide) ?_
                                            refine w_top (show ((nI 6) - (nI 6) / 3 * 3) = (nI 0) from pk_rem (a := 6) (d := 3) (by omega) (by decide) (by decide)) ?_
                                            refine cR_V ⟨hx, hb, hml, hown, hts⟩ (c_X5_bringsW l E r v f B_1 C_1 w nw (9 * up + 3 * m0 + m1) (nI (up + lo)) 2 0 (by omega) (by omega) (by omega) (by omega) (by omega) h40) (cwV 6 hts gX5_doing_X5_brings rfl rfl rfl (by decide +kernel) ⟨Nat.le_of_ble_eq_true rfl, Nat.le_of_ble_eq_true rfl⟩) hK hP 5 0 rfl rfl rfl hl.1 rfl (Nat.le_of_ble_eq_true rfl) dX5_doing_96 ⟨Nat.le_of_ble_eq_true rfl, Nat.le_of_ble_eq_true rfl⟩ ?_
                                            refine w_top (show (m_brW v f B_1 w nw (9 * up + 3 * m0 + m1) (nI (up + lo)) 2 0) = ((gW v f nw w (nI (up + lo)) (9 * up + 3 * m0 + m1)) 2 0) from (gW_eq h40 hB_1 (by omega) (by omega) (by decide) (by decide))) ?_
                                            refine lv_iload_n hx hb dX5_doing_99 rfl (lv_at hl 1 rfl) ?_
                                            refine lv_icmp_ne (tgt := 106) hx hb dX5_doing_100 (by decide) (fun c_51 => ?_) (fun c_51 => ?_)
                                            · skip
                                              refine lv_iinc (v := (nI 7)) (lv' := [(4, .int (nI 7)), (3, .int (m_b9 (gW v f nw w (nI (up + lo)) (9 * up + 3 * m0 + m1)))), (2, .int (nI w)), (0, .ref (r 0)), (1, .int (nI w))]) hx hb dX5_doing_106 hl (k := 0) rfl (nI_1 _) (by decide) rfl (fun ls hl => ?_)
                                              refine lv_goto (tgt := 56) hx hb dX5_doing_109 (by decide) ?_
                                              refine lv_iload hx hb dX5_doing_56 (lv_at hl 0 rfl) ?_
                                              refine lv_bipush (v := 9) hx hb dX5_doing_58 (by decide) ?_
                                              refine n_icmp_ge (tgt := 112) (a := 7) (b := 9) hx hb dX5_doing_60 (by decide) (by omega) (by omega) (fun c_52 => ?_) (fun c_52 => ?_)
                                              · skip
                                                exact absurd c_52 (by decide)
                                              · skip
                                                refine lv_iload_n hx hb dX5_doing_63 rfl (lv_at hl 1 rfl) ?_
                                                refine lv_ldc hx hb hown (hts _ (List.mem_of_getElem? (i := 5) rfl)) dX5_doing_64 ?_
                                                refine lv_icmp_eq (tgt := 112) hx hb dX5_doing_66 (by decide) (fun c_53 => ?_) (fun c_53 => ?_)
                                                · skip
                                                  exact absurd c_53 c_32
                                                · skip
                                                  refine lv_aload_n hx hb dX5_doing_69 rfl (lv_at hl 3 rfl) ?_
                                                  refine lv_iload_n hx hb dX5_doing_70 rfl (lv_at hl 2 rfl) ?_
                                                  refine lv_aload_n hx hb dX5_doing_71 rfl (lv_at hl 3 rfl) ?_
                                                  refine va_get (D := E.1) (ci := 5) (v := .int (v 1)) (C := RX5) (T := TX5) (N := 26) hx hb hts (fun _ h => (List.mem_cons_of_mem _ (List.mem_append_right _ h))) hown hK.1 hP 0 rfl rfl 1 (by decide) (hts _ (List.mem_of_getElem? (i := 3) rfl)) (fun _ h9 => h9) rfl dX5_doing_72 ?_
                                                  refine w_top (show (v 1) = nI nw from hnw) ?_
                                                  refine lv_aload_n hx hb dX5_doing_75 rfl (lv_at hl 3 rfl) ?_
                                                  refine cR_V ⟨hx, hb, hml, hown, hts⟩ (c_X5_stateNow l E r v f B_1 C_1 up m0 m1 hup hm0 hm1) (cwV 0 hts gX5_doing_X5_stateNow rfl rfl rfl (by decide +kernel) ⟨Nat.le_of_ble_eq_true rfl, Nat.le_of_ble_eq_true rfl⟩) hK hP 5 0 rfl rfl rfl hl.1 rfl (Nat.le_of_ble_eq_true rfl) dX5_doing_76 ⟨Nat.le_of_ble_eq_true rfl, Nat.le_of_ble_eq_true rfl⟩ ?_
                                                  refine lv_aload_n hx hb dX5_doing_79 rfl (lv_at hl 3 rfl) ?_
                                                  refine va_get (D := E.1) (ci := 5) (v := .int (v 4)) (C := RX5) (T := TX5) (N := 26) hx hb hts (fun _ h => (List.mem_cons_of_mem _ (List.mem_append_right _ h))) hown hK.1 hP 0 rfl rfl 4 (by decide) (hts _ (List.mem_of_getElem? (i := 1) rfl)) (fun _ h9 => h9) rfl dX5_doing_80 ?_
                                                  refine w_top (show (v 4) = nI up from hup) ?_
                                                  refine lv_aload_n hx hb dX5_doing_83 rfl (lv_at hl 3 rfl) ?_
                                                  refine va_get (D := E.1) (ci := 5) (v := .int (v 5)) (C := RX5) (T := TX5) (N := 26) hx hb hts (fun _ h => (List.mem_cons_of_mem _ (List.mem_append_right _ h))) hown hK.1 hP 0 rfl rfl 5 (by decide) (hts _ (List.mem_of_getElem? (i := 2) rfl)) (fun _ h9 => h9) rfl dX5_doing_84 ?_
                                                  refine w_top (show (v 5) = nI lo from hlo) ?_
                                                  refine lv_iadd hx hb dX5_doing_87 ?_
                                                  refine w_top (show ((nI up) + (nI lo)) = (nI (up + lo)) from nI_add _ _) ?_
                                                  refine lv_iload hx hb dX5_doing_88 (lv_at hl 0 rfl) ?_
                                                  refine lv_iconst (v := 3) hx hb dX5_doing_90 (by decide) ?_
                                                  refine lv_idiv hx hb dX5_doing_91 (by decide) ?_
                                                  refine w_top (show ((nI 7) / 3) = (nI 2) from pk_div (a := 7) (d := 3) (by omega) (by decide) (by decide)) ?_
                                                  refine lv_iload hx hb dX5_doing_92 (lv_at hl 0 rfl) ?_
                                                  refine lv_iconst (v := 3) hx hb dX5_doing_94 (by decide) ?_
                                                  refine lv_irem hx hb dX5_doing_95 (by decide) ?_
                                                  refine w_top (show ((nI 7) - (nI 7) / 3 * 3) = (nI 1) from pk_rem (a := 7) (d := 3) (by omega) (by decide) (by decide)) ?_
                                                  refine cR_V ⟨hx, hb, hml, hown, hts⟩ (c_X5_bringsW l E r v f B_1 C_1 w nw (9 * up + 3 * m0 + m1) (nI (up + lo)) 2 1 (by omega) (by omega) (by omega) (by omega) (by omega) h40) (cwV 6 hts gX5_doing_X5_brings rfl rfl rfl (by decide +kernel) ⟨Nat.le_of_ble_eq_true rfl, Nat.le_of_ble_eq_true rfl⟩) hK hP 5 0 rfl rfl rfl hl.1 rfl (Nat.le_of_ble_eq_true rfl) dX5_doing_96 ⟨Nat.le_of_ble_eq_true rfl, Nat.le_of_ble_eq_true rfl⟩ ?_
                                                  refine w_top (show (m_brW v f B_1 w nw (9 * up + 3 * m0 + m1) (nI (up + lo)) 2 1) = ((gW v f nw w (nI (up + lo)) (9 * up + 3 * m0 + m1)) 2 1) from (gW_eq h40 hB_1 (by omega) (by omega) (by decide) (by decide))) ?_
                                                  refine lv_iload_n hx hb dX5_doing_99 rfl (lv_at hl 1 rfl) ?_
                                                  refine lv_icmp_ne (tgt := 106) hx hb dX5_doing_100 (by decide) (fun c_54 => ?_) (fun c_54 => ?_)
                                                  · skip
                                                    refine lv_iinc (v := (nI 8)) (lv' := [(4, .int (nI 8)), (3, .int (m_b9 (gW v f nw w (nI (up + lo)) (9 * up + 3 * m0 + m1)))), (2, .int (nI w)), (0, .ref (r 0)), (1, .int (nI w))]) hx hb dX5_doing_106 hl (k := 0) rfl (nI_1 _) (by decide) rfl (fun ls hl => ?_)
                                                    refine lv_goto (tgt := 56) hx hb dX5_doing_109 (by decide) ?_
                                                    refine lv_iload hx hb dX5_doing_56 (lv_at hl 0 rfl) ?_
                                                    refine lv_bipush (v := 9) hx hb dX5_doing_58 (by decide) ?_
                                                    refine n_icmp_ge (tgt := 112) (a := 8) (b := 9) hx hb dX5_doing_60 (by decide) (by omega) (by omega) (fun c_55 => ?_) (fun c_55 => ?_)
                                                    · skip
                                                      exact absurd c_55 (by decide)
                                                    · skip
                                                      refine lv_iload_n hx hb dX5_doing_63 rfl (lv_at hl 1 rfl) ?_
                                                      refine lv_ldc hx hb hown (hts _ (List.mem_of_getElem? (i := 5) rfl)) dX5_doing_64 ?_
                                                      refine lv_icmp_eq (tgt := 112) hx hb dX5_doing_66 (by decide) (fun c_56 => ?_) (fun c_56 => ?_)
                                                      · skip
                                                        exact absurd c_56 c_32
                                                      · skip
                                                        refine lv_aload_n hx hb dX5_doing_69 rfl (lv_at hl 3 rfl) ?_
                                                        refine lv_iload_n hx hb dX5_doing_70 rfl (lv_at hl 2 rfl) ?_
                                                        refine lv_aload_n hx hb dX5_doing_71 rfl (lv_at hl 3 rfl) ?_
                                                        refine va_get (D := E.1) (ci := 5) (v := .int (v 1)) (C := RX5) (T := TX5) (N := 26) hx hb hts (fun _ h => (List.mem_cons_of_mem _ (List.mem_append_right _ h))) hown hK.1 hP 0 rfl rfl 1 (by decide) (hts _ (List.mem_of_getElem? (i := 3) rfl)) (fun _ h9 => h9) rfl dX5_doing_72 ?_
                                                        refine w_top (show (v 1) = nI nw from hnw) ?_
                                                        refine lv_aload_n hx hb dX5_doing_75 rfl (lv_at hl 3 rfl) ?_
                                                        refine cR_V ⟨hx, hb, hml, hown, hts⟩ (c_X5_stateNow l E r v f B_1 C_1 up m0 m1 hup hm0 hm1) (cwV 0 hts gX5_doing_X5_stateNow rfl rfl rfl (by decide +kernel) ⟨Nat.le_of_ble_eq_true rfl, Nat.le_of_ble_eq_true rfl⟩) hK hP 5 0 rfl rfl rfl hl.1 rfl (Nat.le_of_ble_eq_true rfl) dX5_doing_76 ⟨Nat.le_of_ble_eq_true rfl, Nat.le_of_ble_eq_true rfl⟩ ?_
                                                        refine lv_aload_n hx hb dX5_doing_79 rfl (lv_at hl 3 rfl) ?_
                                                        refine va_get (D := E.1) (ci := 5) (v := .int (v 4)) (C := RX5) (T := TX5) (N := 26) hx hb hts (fun _ h => (List.mem_cons_of_mem _ (List.mem_append_right _ h))) hown hK.1 hP 0 rfl rfl 4 (by decide) (hts _ (List.mem_of_getElem? (i := 1) rfl)) (fun _ h9 => h9) rfl dX5_doing_80 ?_
                                                        refine w_top (show (v 4) = nI up from hup) ?_
                                                        refine lv_aload_n hx hb dX5_doing_83 rfl (lv_at hl 3 rfl) ?_
                                                        refine va_get (D := E.1) (ci := 5) (v := .int (v 5)) (C := RX5) (T := TX5) (N := 26) hx hb hts (fun _ h => (List.mem_cons_of_mem _ (List.mem_append_right _ h))) hown hK.1 hP 0 rfl rfl 5 (by decide) (hts _ (List.mem_of_getElem? (i := 2) rfl)) (fun _ h9 => h9) rfl dX5_doing_84 ?_
                                                        refine w_top (show (v 5) = nI lo from hlo) ?_
                                                        refine lv_iadd hx hb dX5_doing_87 ?_
                                                        refine w_top (show ((nI up) + (nI lo)) = (nI (up + lo)) from nI_add _ _) ?_
                                                        refine lv_iload hx hb dX5_doing_88 (lv_at hl 0 rfl) ?_
                                                        refine lv_iconst (v := 3) hx hb dX5_doing_90 (by decide) ?_
                                                        refine lv_idiv hx hb dX5_doing_91 (by decide) ?_
                                                        refine w_top (show ((nI 8) / 3) = (nI 2) from pk_div (a := 8) (d := 3) (by omega) (by decide) (by decide)) ?_
                                                        refine lv_iload hx hb dX5_doing_92 (lv_at hl 0 rfl) ?_
                                                        refine lv_iconst (v := 3) hx hb dX5_doing_94 (by decide) ?_
                                                        refine lv_irem hx hb dX5_doing_95 (by decide) ?_
                                                        refine w_top (show ((nI 8) - (nI 8) / 3 * 3) = (nI 2) from pk_rem (a := 8) (d := 3) (by omega) (by decide) (by decide)) ?_
                                                        refine cR_V ⟨hx, hb, hml, hown, hts⟩ (c_X5_bringsW l E r v f B_1 C_1 w nw (9 * up + 3 * m0 + m1) (nI (up + lo)) 2 2 (by omega) (by omega) (by omega) (by omega) (by omega) h40) (cwV 6 hts gX5_doing_X5_brings rfl rfl rfl (by decide +kernel) ⟨Nat.le_of_ble_eq_true rfl, Nat.le_of_ble_eq_true rfl⟩) hK hP 5 0 rfl rfl rfl hl.1 rfl (Nat.le_of_ble_eq_true rfl) dX5_doing_96 ⟨Nat.le_of_ble_eq_true rfl, Nat.le_of_ble_eq_true rfl⟩ ?_
                                                        refine w_top (show (m_brW v f B_1 w nw (9 * up + 3 * m0 + m1) (nI (up + lo)) 2 2) = ((gW v f nw w (nI (up + lo)) (9 * up + 3 * m0 + m1)) 2 2) from (gW_eq h40 hB_1 (by omega) (by omega) (by decide) (by decide))) ?_
                                                        refine lv_iload_n hx hb dX5_doing_99 rfl (lv_at hl 1 rfl) ?_
                                                        refine lv_icmp_ne (tgt := 106) hx hb dX5_doing_100 (by decide) (fun c_57 => ?_) (fun c_57 => ?_)
                                                        · skip
                                                          refine lv_iinc (v := (nI 9)) (lv' := [(4, .int (nI 9)), (3, .int (m_b9 (gW v f nw w (nI (up + lo)) (9 * up + 3 * m0 + m1)))), (2, .int (nI w)), (0, .ref (r 0)), (1, .int (nI w))]) hx hb dX5_doing_106 hl (k := 0) rfl (nI_1 _) (by decide) rfl (fun ls hl => ?_)
                                                          refine lv_goto (tgt := 56) hx hb dX5_doing_109 (by decide) ?_
                                                          refine lv_iload hx hb dX5_doing_56 (lv_at hl 0 rfl) ?_
                                                          refine lv_bipush (v := 9) hx hb dX5_doing_58 (by decide) ?_
                                                          refine n_icmp_ge (tgt := 112) (a := 9) (b := 9) hx hb dX5_doing_60 (by decide) (by omega) (by omega) (fun c_58 => ?_) (fun c_58 => ?_)
                                                          · skip
                                                            refine lv_iconst (v := (-1)) hx hb dX5_doing_112 (by decide) ?_
                                                            refine W.widen (k := 1) (n := 25) (Nat.le_of_ble_eq_true rfl) (Nat.le_of_ble_eq_true rfl) ?_
                                                            exact q_ret ((v, f, B_1, C_1) : MS) hx hb hr hlocks ⟨by rw [n_doing, if_pos (show rv ≤ nw by omega), n_do9, if_neg c_32, if_neg c_33, if_neg c_36, if_neg c_39, if_neg c_42, if_neg c_45, if_neg c_48, if_neg c_51, if_neg c_54, if_neg c_57] <;> rfl, rfl, rfl⟩ hP hD hS dX5_doing_113
                                                          · skip
                                                            exact absurd c_58 (by decide)
                                                        · skip
                                                          refine lv_iload hx hb dX5_doing_103 (lv_at hl 0 rfl) ?_
                                                          refine W.widen (k := 1) (n := 25) (Nat.le_of_ble_eq_true rfl) (Nat.le_of_ble_eq_true rfl) ?_
                                                          exact q_ret ((v, f, B_1, C_1) : MS) hx hb hr hlocks ⟨by rw [n_doing, if_pos (show rv ≤ nw by omega), n_do9, if_neg c_32, if_neg c_33, if_neg c_36, if_neg c_39, if_neg c_42, if_neg c_45, if_neg c_48, if_neg c_51, if_neg c_54, if_pos c_57] <;> rfl, rfl, rfl⟩ hP hD hS dX5_doing_105
                                                  · skip
                                                    refine lv_iload hx hb dX5_doing_103 (lv_at hl 0 rfl) ?_
                                                    refine W.widen (k := 1) (n := 25) (Nat.le_of_ble_eq_true rfl) (Nat.le_of_ble_eq_true rfl) ?_
                                                    exact q_ret ((v, f, B_1, C_1) : MS) hx hb hr hlocks ⟨by rw [n_doing, if_pos (show rv ≤ nw by omega), n_do9, if_neg c_32, if_neg c_33, if_neg c_36, if_neg c_39, if_neg c_42, if_neg c_45, if_neg c_48, if_neg c_51, if_pos c_54] <;> rfl, rfl, rfl⟩ hP hD hS dX5_doing_105
                                            · skip
                                              refine lv_iload hx hb dX5_doing_103 (lv_at hl 0 rfl) ?_
                                              refine W.widen (k := 1) (n := 25) (Nat.le_of_ble_eq_true rfl) (Nat.le_of_ble_eq_true rfl) ?_
                                              exact q_ret ((v, f, B_1, C_1) : MS) hx hb hr hlocks ⟨by rw [n_doing, if_pos (show rv ≤ nw by omega), n_do9, if_neg c_32, if_neg c_33, if_neg c_36, if_neg c_39, if_neg c_42, if_neg c_45, if_neg c_48, if_pos c_51] <;> rfl, rfl, rfl⟩ hP hD hS dX5_doing_105
                                      · skip
                                        refine lv_iload hx hb dX5_doing_103 (lv_at hl 0 rfl) ?_
                                        refine W.widen (k := 1) (n := 25) (Nat.le_of_ble_eq_true rfl) (Nat.le_of_ble_eq_true rfl) ?_
                                        exact q_ret ((v, f, B_1, C_1) : MS) hx hb hr hlocks ⟨by rw [n_doing, if_pos (show rv ≤ nw by omega), n_do9, if_neg c_32, if_neg c_33, if_neg c_36, if_neg c_39, if_neg c_42, if_neg c_45, if_pos c_48] <;> rfl, rfl, rfl⟩ hP hD hS dX5_doing_105
                                · skip
                                  refine lv_iload hx hb dX5_doing_103 (lv_at hl 0 rfl) ?_
                                  refine W.widen (k := 1) (n := 25) (Nat.le_of_ble_eq_true rfl) (Nat.le_of_ble_eq_true rfl) ?_
                                  exact q_ret ((v, f, B_1, C_1) : MS) hx hb hr hlocks ⟨by rw [n_doing, if_pos (show rv ≤ nw by omega), n_do9, if_neg c_32, if_neg c_33, if_neg c_36, if_neg c_39, if_neg c_42, if_pos c_45] <;> rfl, rfl, rfl⟩ hP hD hS dX5_doing_105
                          · skip
                            refine lv_iload hx hb dX5_doing_103 (lv_at hl 0 rfl) ?_
                            refine W.widen (k := 1) (n := 25) (Nat.le_of_ble_eq_true rfl) (Nat.le_of_ble_eq_true rfl) ?_
                            exact q_ret ((v, f, B_1, C_1) : MS) hx hb hr hlocks ⟨by rw [n_doing, if_pos (show rv ≤ nw by omega), n_do9, if_neg c_32, if_neg c_33, if_neg c_36, if_neg c_39, if_pos c_42] <;> rfl, rfl, rfl⟩ hP hD hS dX5_doing_105
                    · skip
                      refine lv_iload hx hb dX5_doing_103 (lv_at hl 0 rfl) ?_
                      refine W.widen (k := 1) (n := 25) (Nat.le_of_ble_eq_true rfl) (Nat.le_of_ble_eq_true rfl) ?_
                      exact q_ret ((v, f, B_1, C_1) : MS) hx hb hr hlocks ⟨by rw [n_doing, if_pos (show rv ≤ nw by omega), n_do9, if_neg c_32, if_neg c_33, if_neg c_36, if_pos c_39] <;> rfl, rfl, rfl⟩ hP hD hS dX5_doing_105
              · skip
                refine lv_iload hx hb dX5_doing_103 (lv_at hl 0 rfl) ?_
                refine W.widen (k := 1) (n := 25) (Nat.le_of_ble_eq_true rfl) (Nat.le_of_ble_eq_true rfl) ?_
                exact q_ret ((v, f, B_1, C_1) : MS) hx hb hr hlocks ⟨by rw [n_doing, if_pos (show rv ≤ nw by omega), n_do9, if_neg c_32, if_neg c_33, if_pos c_36] <;> rfl, rfl, rfl⟩ hP hD hS dX5_doing_105
        · skip
          refine lv_iload hx hb dX5_doing_103 (lv_at hl 0 rfl) ?_
          refine W.widen (k := 1) (n := 25) (Nat.le_of_ble_eq_true rfl) (Nat.le_of_ble_eq_true rfl) ?_
          exact q_ret ((v, f, B_1, C_1) : MS) hx hb hr hlocks ⟨by rw [n_doing, if_pos (show rv ≤ nw by omega), n_do9, if_neg c_32, if_pos c_33] <;> rfl, rfl, rfl⟩ hP hD hS dX5_doing_105
