set_option maxHeartbeats 4000000 in
set_option maxRecDepth 100000 in
theorem c_X0_startCost (l : Launch) (E : GG) (r : Nat → Nat) (v : Nat → Int32) (f : Nat → Nat → Int32) (m1 : Nat) (d : Nat) (hm : m1 < 9) (hd : d < 9) : Met l yX0_startCost wsX0_startCost (Rm 1 0 0) (pR E [.ref (r 4), .int (nI m1), .int (nI d)] (DW E r v f)) (QcRead (d_cost v m1 d)) 0 0 (fun _ => False) := by
  refine ofR (by decide) rfl (Nat.le_of_ble_eq_true rfl) ?_
  intro p e s m below meth c hx hb hr hlocks hml hown hts hK hP ls hl
  have hl : lv_has ls 8 [(0, .ref (r 4)), (1, .int (nI m1)), (2, .int (nI d))] := hl
  refine lv_iload_n hx hb dX0_startCost_0 rfl (lv_at hl 1 rfl) ?_
  refine lv_iconst (v := 3) hx hb dX0_startCost_1 (by decide) ?_
  refine lv_idiv hx hb dX0_startCost_2 (by decide) ?_
  refine w_top (show ((nI m1) / 3) = (nI (m1 / 3)) from pk_div (a := m1) (d := 3) (by omega) (by decide) (by decide)) ?_
  refine lv_istore_n (lv' := [(3, .int (nI (m1 / 3))), (0, .ref (r 4)), (1, .int (nI m1)), (2, .int (nI d))]) hx hb dX0_startCost_3 rfl hl (by decide) rfl (fun ls hl => ?_)
  refine lv_iload_n hx hb dX0_startCost_4 rfl (lv_at hl 2 rfl) ?_
  refine lv_iconst (v := 3) hx hb dX0_startCost_5 (by decide) ?_
  refine lv_irem hx hb dX0_startCost_6 (by decide) ?_
  refine w_top (show ((nI m1) - (nI m1) / 3 * 3) = (nI (m1 % 3)) from pk_rem (a := m1) (d := 3) (by omega) (by decide) (by decide)) ?_
  refine lv_istore (lv' := [(4, .int (nI (m1 % 3))), (3, .int (nI (m1 / 3))), (0, .ref (r 4)), (1, .int (nI m1)), (2, .int (nI d))]) hx hb dX0_startCost_7 hl (by decide) rfl (fun ls hl => ?_)
  refine lv_iload_n hx hb dX0_startCost_9 rfl (lv_at hl 4 rfl) ?_
  refine lv_iconst (v := 3) hx hb dX0_startCost_10 (by decide) ?_
  refine lv_idiv hx hb dX0_startCost_11 (by decide) ?_
  refine w_top (show ((nI d) / 3) = (nI (d / 3)) from pk_div (a := d) (d := 3) (by omega) (by decide) (by decide)) ?_
  refine lv_istore (lv' := [(5, .int (nI (d / 3))), (4, .int (nI (m1 % 3))), (3, .int (nI (m1 / 3))), (0, .ref (r 4)), (1, .int (nI m1)), (2, .int (nI d))]) hx hb dX0_startCost_12 hl (by decide) rfl (fun ls hl => ?_)
  refine lv_iload_n hx hb dX0_startCost_14 rfl (lv_at hl 5 rfl) ?_
  refine lv_iconst (v := 3) hx hb dX0_startCost_15 (by decide) ?_
  refine lv_irem hx hb dX0_startCost_16 (by decide) ?_
  refine w_top (show ((nI d) - (nI d) / 3 * 3) = (nI (d % 3)) from pk_rem (a := d) (d := 3) (by omega) (by decide) (by decide)) ?_
  refine lv_istore (lv' := [(6, .int (nI (d % 3))), (5, .int (nI (d / 3))), (4, .int (nI (m1 % 3))), (3, .int (nI (m1 / 3))), (0, .ref (r 4)), (1, .int (nI m1)), (2, .int (nI d))]) hx hb dX0_startCost_17 hl (by decide) rfl (fun ls hl => ?_)
  refine lv_iload_n hx hb dX0_startCost_19 rfl (lv_at hl 3 rfl) ?_
  refine lv_iload hx hb dX0_startCost_20 (lv_at hl 1 rfl) ?_
  refine cR_SN ⟨hx, hb, hml, hown, hts⟩ (c_X2_canFollow l E (nI (m1 / 3)) (nI (d / 3))) ⟨(va_cnB 2 hts gX0_startCost_X2_canFollow_n112 rfl rfl rfl (hK.2.2 (RX0, 112, yX2_canFollow) (List.mem_of_getElem? (i := 13) rfl)) (hts _ (List.mem_of_getElem? (i := 4) rfl)) (by decide +kernel) ⟨Nat.le_of_ble_eq_true rfl, Nat.le_of_ble_eq_true rfl⟩), (hts _ (List.mem_of_getElem? (i := 3) rfl)), trivial⟩ hK nilP rfl hl.1 rfl (Nat.le_of_ble_eq_true rfl) dX0_startCost_22 ⟨Nat.le_of_ble_eq_true rfl, Nat.le_of_ble_eq_true rfl⟩ ?_
  refine b_if_eq (q := (k_follow (nI (m1 / 3)) (nI (d / 3)))) (tgt := 38) hx hb dX0_startCost_25 (by decide) (fun c_1 => ?_) (fun c_1 => ?_)
  · skip
    refine lv_iconst (v := (-1)) hx hb dX0_startCost_38 (by decide) ?_
    exact r_ret hx hb hr hlocks (by rw [d_cost, cI_f (fun z => c_1 z.1)]) dX0_startCost_39
  · skip
    refine lv_iload hx hb dX0_startCost_28 (lv_at hl 2 rfl) ?_
    refine lv_iload hx hb dX0_startCost_30 (lv_at hl 0 rfl) ?_
    refine cR_SN ⟨hx, hb, hml, hown, hts⟩ (c_X2_canFollow l E (nI (m1 % 3)) (nI (d % 3))) ⟨(va_cnB 2 hts gX0_startCost_X2_canFollow_n112 rfl rfl rfl (hK.2.2 (RX0, 112, yX2_canFollow) (List.mem_of_getElem? (i := 13) rfl)) (hts _ (List.mem_of_getElem? (i := 4) rfl)) (by decide +kernel) ⟨Nat.le_of_ble_eq_true rfl, Nat.le_of_ble_eq_true rfl⟩), (hts _ (List.mem_of_getElem? (i := 3) rfl)), trivial⟩ hK nilP rfl hl.1 rfl (Nat.le_of_ble_eq_true rfl) dX0_startCost_32 ⟨Nat.le_of_ble_eq_true rfl, Nat.le_of_ble_eq_true rfl⟩ ?_
    refine b_if_ne (q := (k_follow (nI (m1 % 3)) (nI (d % 3)))) (tgt := 40) hx hb dX0_startCost_35 (by decide) (fun c_2 => ?_) (fun c_2 => ?_)
    · skip
      refine w_join (fun z9 : Int32 => z9 = d_c0 v m1 d) (fun z9 => F0 m 60 ls (.int z9 :: [])) ?_ (fun J60 => ?_)
      · rintro _ rfl
        refine lv_istore (lv' := [(7, .int (d_c0 v m1 d)), (6, .int (nI (d % 3))), (5, .int (nI (d / 3))), (4, .int (nI (m1 % 3))), (3, .int (nI (m1 / 3))), (0, .ref (r 4)), (1, .int (nI m1)), (2, .int (nI d))]) hx hb dX0_startCost_60 hl (by decide) rfl (fun ls hl => ?_)
        refine lv_iload hx hb dX0_startCost_62 (lv_at hl 3 rfl) ?_
        refine lv_iload hx hb dX0_startCost_64 (lv_at hl 1 rfl) ?_
        refine cR_SN ⟨hx, hb, hml, hown, hts⟩ (c_X2_isStart l E (nI (m1 % 3)) (nI (d % 3))) ⟨(va_cnB 2 hts gX0_startCost_X2_isStart_n115 rfl rfl rfl (hK.2.2 (RX0, 115, yX2_isStart) (List.mem_of_getElem? (i := 14) rfl)) (hts _ (List.mem_of_getElem? (i := 4) rfl)) (by decide +kernel) ⟨Nat.le_of_ble_eq_true rfl, Nat.le_of_ble_eq_true rfl⟩), (hts _ (List.mem_of_getElem? (i := 6) rfl)), trivial⟩ hK nilP rfl hl.1 rfl (Nat.le_of_ble_eq_true rfl) dX0_startCost_66 ⟨Nat.le_of_ble_eq_true rfl, Nat.le_of_ble_eq_true rfl⟩ ?_
        refine b_if_eq (q := (k_start (nI (m1 % 3)) (nI (d % 3)))) (tgt := 85) hx hb dX0_startCost_69 (by decide) (fun c_3 => ?_) (fun c_3 => ?_)
        · skip
          refine lv_iload hx hb dX0_startCost_85 (lv_at hl 0 rfl) ?_
          exact r_ret hx hb hr hlocks (by rw [d_cost, cI_t ⟨c_1, c_2⟩, cI_f c_3]) dX0_startCost_87
        · skip
          refine lv_iload hx hb dX0_startCost_72 (lv_at hl 0 rfl) ?_
          refine lv_aload_n hx hb dX0_startCost_74 rfl (lv_at hl 5 rfl) ?_
          refine va_get (D := E.1) (ci := 0) (v := .ref (r 3)) (C := RX0) (T := TX0) (N := 9) hx hb hts (fun _ h => (List.mem_cons_of_mem _ (List.mem_append_left _ (List.mem_append_right _ h)))) hown hK.1 hP 0 rfl rfl 2 (by decide) (hts _ (List.mem_of_getElem? (i := 2) rfl)) (fun _ h9 => h9) rfl dX0_startCost_75 ?_
          refine va_getN (D := E.1) (ci := 2) (v := .int (v 24)) (C := RX2) (T := TX2) (N := 8) (host := "TwoLakes") (ref := RX2) hx hb hts (fun _ h => (List.mem_cons_of_mem _ (List.mem_append_right _ h))) hown hK.1 hP 3 rfl rfl 4 (by decide) (va_Nw.use rfl (hK.2.1 (RX0, 118, RX2, "startCost", "I") (List.mem_of_getElem? (i := 19) rfl))) (fun _ h9 => h9) rfl dX0_startCost_78 ?_
          refine lv_iadd hx hb dX0_startCost_81 ?_
          refine lv_goto (tgt := 87) hx hb dX0_startCost_82 (by decide) ?_
          exact r_ret hx hb hr hlocks (by rw [d_cost, cI_t ⟨c_1, c_2⟩, cI_t c_3]) dX0_startCost_87
      · skip
        refine lv_iload_n hx hb dX0_startCost_40 rfl (lv_at hl 3 rfl) ?_
        refine lv_iload hx hb dX0_startCost_41 (lv_at hl 1 rfl) ?_
        refine cR_SN ⟨hx, hb, hml, hown, hts⟩ (c_X2_isStart l E (nI (m1 / 3)) (nI (d / 3))) ⟨(va_cnB 2 hts gX0_startCost_X2_isStart_n115 rfl rfl rfl (hK.2.2 (RX0, 115, yX2_isStart) (List.mem_of_getElem? (i := 14) rfl)) (hts _ (List.mem_of_getElem? (i := 4) rfl)) (by decide +kernel) ⟨Nat.le_of_ble_eq_true rfl, Nat.le_of_ble_eq_true rfl⟩), (hts _ (List.mem_of_getElem? (i := 6) rfl)), trivial⟩ hK nilP rfl hl.1 rfl (Nat.le_of_ble_eq_true rfl) dX0_startCost_43 ⟨Nat.le_of_ble_eq_true rfl, Nat.le_of_ble_eq_true rfl⟩ ?_
        refine b_if_eq (q := (k_start (nI (m1 / 3)) (nI (d / 3)))) (tgt := 59) hx hb dX0_startCost_46 (by decide) (fun c_4 => ?_) (fun c_4 => ?_)
        · skip
          refine lv_iconst (v := 0) hx hb dX0_startCost_59 (by decide) ?_
          exact J60 _ (cI_f c_4 _ _).symm
        · skip
          refine lv_aload_n hx hb dX0_startCost_49 rfl (lv_at hl 4 rfl) ?_
          refine va_get (D := E.1) (ci := 0) (v := .ref (r 2)) (C := RX0) (T := TX0) (N := 9) hx hb hts (fun _ h => (List.mem_cons_of_mem _ (List.mem_append_left _ (List.mem_append_right _ h)))) hown hK.1 hP 0 rfl rfl 1 (by decide) (hts _ (List.mem_of_getElem? (i := 1) rfl)) (fun _ h9 => h9) rfl dX0_startCost_50 ?_
          refine va_getN (D := E.1) (ci := 2) (v := .int (v 14)) (C := RX2) (T := TX2) (N := 8) (host := "TwoLakes") (ref := RX2) hx hb hts (fun _ h => (List.mem_cons_of_mem _ (List.mem_append_right _ h))) hown hK.1 hP 2 rfl rfl 4 (by decide) (va_Nw.use rfl (hK.2.1 (RX0, 118, RX2, "startCost", "I") (List.mem_of_getElem? (i := 19) rfl))) (fun _ h9 => h9) rfl dX0_startCost_53 ?_
          refine lv_goto (tgt := 60) hx hb dX0_startCost_56 (by decide) ?_
          exact J60 _ (cI_t c_4 _ _).symm
    · skip
      refine lv_iconst (v := (-1)) hx hb dX0_startCost_38 (by decide) ?_
      exact r_ret hx hb hr hlocks (by rw [d_cost, cI_f (fun z => c_2 z.2)]) dX0_startCost_39
