set_option maxHeartbeats 4000000 in
set_option maxRecDepth 100000 in
theorem c_X5_legal (l : Launch) (E : GG) (r : Nat → Nat) (v : Nat → Int32) (f : Nat → Nat → Int32) (B C : Nat → Int32) (sz : Nat) (a : Int32) (b : Int32) (nw : Nat) (hnw : v 1 = nI nw) (hn24 : nw ≤ 24) : Met l yX5_legal wsX5_legal (Rm 4 0 0) (pM E [.ref (r 0), .int a, .int b] (MW E r v f B C) sz) (va_Qi (fun (z : Int32) (u : MS) => z = n_legal v f nw a b ∧ u = (upd v 0 0, f, B, C)) (bM E (va_A (MW E r v f B C) sz) (MWu E r)) (va_A (MW E r v f B C) sz)) 0 0 (va_A (MW E r v f B C) sz) := by
  refine ofM (by decide) rfl (Nat.le_of_ble_eq_true rfl) ?_
  intro p e s m below meth c A hx hb hr hlocks hml hown hin hts hK hP hD hS hA hsz hAe ls hl
  rw [← hAe]
  have hl : lv_has ls 3 [(0, .ref (r 0)), (1, .int a), (2, .int b)] := hl
  refine lv_aload_n hx hb dX5_legal_0 rfl (lv_at hl 0 rfl) ?_
  refine lv_iconst (v := 0) hx hb dX5_legal_1 (by decide) ?_
  refine va_put (D := E.1) (ci := 5) (v := .int 0) (ty := .int) (C := RX5) (T := TX5) (N := 26) hx hb hts (fun _ h => (List.mem_cons_of_mem _ (List.mem_append_right _ h))) tyX5 tyX5_ok nmX5 hown hK.1 hP hD hS 0 rfl rfl 0 (by decide) (hts _ (List.mem_of_getElem? (i := 1) rfl)) (fun _ h9 => h9) rfl (by decide +kernel) rfl rfl (Nat.le_of_ble_eq_true rfl) dX5_legal_2 (fun H locs hP hD hS => ?_)
  have hP : va_P E.1 vwCl (MW E r (upd v 0 0) f B C) H := hP
  have hD : va_D A (MW E r (upd v 0 0) f B C) := hD
  refine lv_iload_n hx hb dX5_legal_5 rfl (lv_at hl 1 rfl) ?_
  refine lv_iload_n hx hb dX5_legal_6 rfl (lv_at hl 2 rfl) ?_
  refine cR_S ⟨hx, hb, hml, hown, hts⟩ (c_X5_areModes l E a b) (va_cwS 2 hts gX5_legal_X5_areModes rfl rfl rfl (by decide +kernel) ⟨Nat.le_of_ble_eq_true rfl, Nat.le_of_ble_eq_true rfl⟩) hK nilP rfl hl.1 rfl (Nat.le_of_ble_eq_true rfl) dX5_legal_7 ⟨Nat.le_of_ble_eq_true rfl, Nat.le_of_ble_eq_true rfl⟩ ?_
  refine b_if_eq (q := (m_in a 0 2 ∧ m_in b 0 2)) (tgt := 22) hx hb dX5_legal_10 (by decide) (fun c_1 => ?_) (fun c_1 => ?_)
  · skip
    refine lv_iconst (v := (-1)) hx hb dX5_legal_22 (by decide) ?_
    refine lv_goto (tgt := 40) hx hb dX5_legal_23 (by decide) ?_
    exact q_ret (((upd v 0 0), f, B, C) : MS) hx hb hr hlocks ⟨by rw [n_legal, cI_f (by simp_all)], rfl⟩ hP hD hS dX5_legal_40
  · skip
    refine lv_aload_n hx hb dX5_legal_13 rfl (lv_at hl 0 rfl) ?_
    refine va_get (D := E.1) (ci := 5) (v := .int (v 1)) (C := RX5) (T := TX5) (N := 26) hx hb hts (fun _ h => (List.mem_cons_of_mem _ (List.mem_append_right _ h))) hown hK.1 hP 0 rfl rfl 1 (by decide) (hts _ (List.mem_of_getElem? (i := 2) rfl)) (fun _ h9 => h9) rfl dX5_legal_14 ?_
    refine w_top (show (v 1) = nI nw from hnw) ?_
    refine lv_bipush (v := 24) hx hb dX5_legal_17 (by decide) ?_
    refine n_icmp_ne (tgt := 26) (a := nw) (b := 24) hx hb dX5_legal_19 (by decide) (by omega) (by omega) (fun c_2 => ?_) (fun c_2 => ?_)
    · skip
      refine lv_aload_n hx hb dX5_legal_26 rfl (lv_at hl 0 rfl) ?_
      refine lv_iload_n hx hb dX5_legal_27 rfl (lv_at hl 1 rfl) ?_
      refine lv_iload_n hx hb dX5_legal_28 rfl (lv_at hl 2 rfl) ?_
      refine cR_V ⟨hx, hb, hml, hown, hts⟩ (c_X5_isLegalNow l E r (upd v 0 0) f B C a b nw hnw (by omega)) (cwV 2 hts gX5_legal_X5_isLegalNow rfl rfl rfl (by decide +kernel) ⟨Nat.le_of_ble_eq_true rfl, Nat.le_of_ble_eq_true rfl⟩) hK hP 5 0 rfl rfl rfl hl.1 rfl (Nat.le_of_ble_eq_true rfl) dX5_legal_29 ⟨Nat.le_of_ble_eq_true rfl, Nat.le_of_ble_eq_true rfl⟩ ?_
      refine b_if_eq (q := (m_legal (upd v 0 0) f nw ((upd v 0 0) 4) ((upd v 0 0) 5) (f 21 0) (f 21 1) a b)) (tgt := 39) hx hb dX5_legal_32 (by decide) (fun c_3 => ?_) (fun c_3 => ?_)
      · skip
        refine lv_iconst (v := 0) hx hb dX5_legal_39 (by decide) ?_
        exact q_ret (((upd v 0 0), f, B, C) : MS) hx hb hr hlocks ⟨by rw [n_legal, cI_t ⟨c_1, c_2⟩]; exact (bI_f c_3).symm, rfl⟩ hP hD hS dX5_legal_40
      · skip
        refine lv_iconst (v := 1) hx hb dX5_legal_35 (by decide) ?_
        refine lv_goto (tgt := 40) hx hb dX5_legal_36 (by decide) ?_
        exact q_ret (((upd v 0 0), f, B, C) : MS) hx hb hr hlocks ⟨by rw [n_legal, cI_t ⟨c_1, c_2⟩]; exact (bI_t c_3).symm, rfl⟩ hP hD hS dX5_legal_40
    · skip
      refine lv_iconst (v := (-1)) hx hb dX5_legal_22 (by decide) ?_
      refine lv_goto (tgt := 40) hx hb dX5_legal_23 (by decide) ?_
      exact q_ret (((upd v 0 0), f, B, C) : MS) hx hb hr hlocks ⟨by rw [n_legal, cI_f (by simp_all)], rfl⟩ hP hD hS dX5_legal_40
def m_st (p a : Int32) : Int32 := if p = 0 ∧ ¬ a = 0 then 1 else 0
def d_v (v : Nat → Int32) (f : Nat → Nat → Int32) (nw w : Nat) (a b : Int32) : Nat → Int32 := upd (upd (upd (upd v 4 (v 4 + (f 8 nw - m_loses f a b))) 5 (v 5 + (m_loses f a b - f 9 nw))) 23 (v 23 + m_money f w nw (f 21 0) (f 21 1) a b)) 1 (nI (nw + 1))
def d_f (f : Nat → Nat → Int32) (a b : Int32) : Nat → Nat → Int32 := va_up (va_up (va_up (va_up f 22 (upd (f 22) 0 (f 22 0 + m_st (f 21 0) a))) 22 (upd (upd (f 22) 0 (f 22 0 + m_st (f 21 0) a)) 1 (f 22 1 + m_st (f 21 1) b))) 21 (upd (f 21) 0 a)) 21 (upd (upd (f 21) 0 a) 1 b)
set_option maxHeartbeats 4000000 in
set_option maxRecDepth 100000 in
theorem c_X5_does (l : Launch) (E : GG) (r : Nat → Nat) (v : Nat → Int32) (f : Nat → Nat → Int32) (B C : Nat → Int32) (sz : Nat) (a : Int32) (b : Int32) (w : Nat) (hw : w < 3) (nw : Nat) (hnw : v 1 = nI nw) (hn24 : nw < 24) : Met l yX5_does wsX5_does (Rm 1 0 0) (pM E [.ref (r 0), .int a, .int b, .int (nI w)] (MW E r v f B C) sz) (va_Qi (fun (z : Int32) (u : MS) => z = m_money f w nw (f 21 0) (f 21 1) a b ∧ u = (d_v v f nw w a b, d_f f a b, B, C)) (bM E (va_A (MW E r v f B C) sz) (MWu E r)) (va_A (MW E r v f B C) sz)) 0 0 (va_A (MW E r v f B C) sz) := by
  refine ofM (by decide) rfl (Nat.le_of_ble_eq_true rfl) ?_
  intro p e s m below meth c A hx hb hr hlocks hml hown hin hts hK hP hD hS hA hsz hAe ls hl
  rw [← hAe]
  have hl : lv_has ls 6 [(0, .ref (r 0)), (1, .int a), (2, .int b), (3, .int (nI w))] := hl
  refine lv_aload_n hx hb dX5_does_0 rfl (lv_at hl 0 rfl) ?_
  refine lv_iload_n hx hb dX5_does_1 rfl (lv_at hl 3 rfl) ?_
  refine lv_aload_n hx hb dX5_does_2 rfl (lv_at hl 0 rfl) ?_
  refine va_get (D := E.1) (ci := 5) (v := .int (v 1)) (C := RX5) (T := TX5) (N := 26) hx hb hts (fun _ h => (List.mem_cons_of_mem _ (List.mem_append_right _ h))) hown hK.1 hP 0 rfl rfl 1 (by decide) (hts _ (List.mem_of_getElem? (i := 1) rfl)) (fun _ h9 => h9) rfl dX5_does_3 ?_
  refine w_top (show (v 1) = nI nw from hnw) ?_
  refine lv_aload_n hx hb dX5_does_6 rfl (lv_at hl 0 rfl) ?_
  refine va_get (D := E.1) (ci := 5) (v := .ref (r 21)) (C := RX5) (T := TX5) (N := 26) hx hb hts (fun _ h => (List.mem_cons_of_mem _ (List.mem_append_right _ h))) hown hK.1 hP 0 rfl rfl 21 (by decide) (hts _ (List.mem_of_getElem? (i := 2) rfl)) (fun _ h9 => h9) rfl dX5_does_7 ?_
  refine lv_iconst (v := 0) hx hb dX5_does_10 (by decide) ?_
  refine n_iald (f := f 21) hx hb hK.1 hP 12 0 rfl rfl (i := 0) (by omega) (by decide) dX5_does_11 ?_
  refine lv_aload_n hx hb dX5_does_12 rfl (lv_at hl 0 rfl) ?_
  refine va_get (D := E.1) (ci := 5) (v := .ref (r 21)) (C := RX5) (T := TX5) (N := 26) hx hb hts (fun _ h => (List.mem_cons_of_mem _ (List.mem_append_right _ h))) hown hK.1 hP 0 rfl rfl 21 (by decide) (hts _ (List.mem_of_getElem? (i := 2) rfl)) (fun _ h9 => h9) rfl dX5_does_13 ?_
  refine lv_iconst (v := 1) hx hb dX5_does_16 (by decide) ?_
  refine n_iald (f := f 21) hx hb hK.1 hP 12 0 rfl rfl (i := 1) (by omega) (by decide) dX5_does_17 ?_
  refine lv_iload_n hx hb dX5_does_18 rfl (lv_at hl 1 rfl) ?_
  refine lv_iload_n hx hb dX5_does_19 rfl (lv_at hl 2 rfl) ?_
  refine cR_V ⟨hx, hb, hml, hown, hts⟩ (c_X5_money l E r v f B C w nw (f 21 0) (f 21 1) a b (by omega) (by omega)) (cwV 6 hts gX5_does_X5_money rfl rfl rfl (by decide +kernel) ⟨Nat.le_of_ble_eq_true rfl, Nat.le_of_ble_eq_true rfl⟩) hK hP 5 0 rfl rfl rfl hl.1 rfl (Nat.le_of_ble_eq_true rfl) dX5_does_20 ⟨Nat.le_of_ble_eq_true rfl, Nat.le_of_ble_eq_true rfl⟩ ?_
  refine lv_istore (lv' := [(4, .int (m_money f w nw (f 21 0) (f 21 1) a b)), (0, .ref (r 0)), (1, .int a), (2, .int b), (3, .int (nI w))]) hx hb dX5_does_23 hl (by decide) rfl (fun ls hl => ?_)
  refine lv_aload_n hx hb dX5_does_25 rfl (lv_at hl 1 rfl) ?_
  refine lv_iload_n hx hb dX5_does_26 rfl (lv_at hl 2 rfl) ?_
  refine lv_iload_n hx hb dX5_does_27 rfl (lv_at hl 3 rfl) ?_
  refine cR_V ⟨hx, hb, hml, hown, hts⟩ (c_X5_loses l E r v f B C a b) (cwV 2 hts gX5_does_X5_loses rfl rfl rfl (by decide +kernel) ⟨Nat.le_of_ble_eq_true rfl, Nat.le_of_ble_eq_true rfl⟩) hK hP 5 0 rfl rfl rfl hl.1 rfl (Nat.le_of_ble_eq_true rfl) dX5_does_28 ⟨Nat.le_of_ble_eq_true rfl, Nat.le_of_ble_eq_true rfl⟩ ?_
  refine lv_istore (lv' := [(5, .int (m_loses f a b)), (4, .int (m_money f w nw (f 21 0) (f 21 1) a b)), (0, .ref (r 0)), (1, .int a), (2, .int b), (3, .int (nI w))]) hx hb dX5_does_31 hl (by decide) rfl (fun ls hl => ?_)
  refine lv_aload_n hx hb dX5_does_33 rfl (lv_at hl 2 rfl) ?_
  refine va_get (D := E.1) (ci := 5) (v := .ref (r 22)) (C := RX5) (T := TX5) (N := 26) hx hb hts (fun _ h => (List.mem_cons_of_mem _ (List.mem_append_right _ h))) hown hK.1 hP 0 rfl rfl 22 (by decide) (hts _ (List.mem_of_getElem? (i := 3) rfl)) (fun _ h9 => h9) rfl dX5_does_34 ?_
  refine lv_iconst (v := 0) hx hb dX5_does_37 (by decide) ?_
  refine lv_dup2_11 hx hb dX5_does_38 rfl rfl ?_
  refine n_iald (f := f 22) hx hb hK.1 hP 13 0 rfl rfl (i := 0) (by omega) (by decide) dX5_does_39 ?_
  refine w_join (fun x : Int32 => x = m_st (f 21 0) a) (fun x => F0 m 58 ls (.int x :: [.int (f 22 0), .int 0, .ref (r 22)])) ?_ (fun J58 => ?_)
  · rintro _ rfl
    refine lv_iadd hx hb dX5_does_58 ?_
    refine n_iast (f := f 22) hx hb hK.1 hP hD hS 13 0 rfl rfl (i := 0) (by omega) (by decide) dX5_does_59 (fun H locs hP hD hS => ?_)
    have hP : va_P E.1 vwCl (MW E r v (va_up f 22 (upd (f 22) 0 ((f 22 0) + (m_st (f 21 0) a)))) B C) H := hP
    have hD : va_D A (MW E r v (va_up f 22 (upd (f 22) 0 ((f 22 0) + (m_st (f 21 0) a)))) B C) := hD
    refine lv_aload_n hx hb dX5_does_60 rfl (lv_at hl 2 rfl) ?_
    refine va_get (D := E.1) (ci := 5) (v := .ref (r 22)) (C := RX5) (T := TX5) (N := 26) hx hb hts (fun _ h => (List.mem_cons_of_mem _ (List.mem_append_right _ h))) hown hK.1 hP 0 rfl rfl 22 (by decide) (hts _ (List.mem_of_getElem? (i := 3) rfl)) (fun _ h9 => h9) rfl dX5_does_61 ?_
    refine lv_iconst (v := 1) hx hb dX5_does_64 (by decide) ?_
    refine lv_dup2_11 hx hb dX5_does_65 rfl rfl ?_
    refine n_iald (f := upd (f 22) 0 ((f 22 0) + (m_st (f 21 0) a))) hx hb hK.1 hP 13 0 rfl rfl (i := 1) (by omega) (by decide) dX5_does_66 ?_
    refine w_top (show _ = f 22 1 from rfl) ?_
    refine w_join (fun x : Int32 => x = m_st (f 21 1) b) (fun x => F0 m 85 ls (.int x :: [.int (f 22 1), .int 1, .ref (r 22)])) ?_ (fun J85 => ?_)
    · rintro _ rfl
      refine lv_iadd hx hb dX5_does_85 ?_
      refine n_iast (f := upd (f 22) 0 ((f 22 0) + (m_st (f 21 0) a))) hx hb hK.1 hP hD hS 13 0 rfl rfl (i := 1) (by omega) (by decide) dX5_does_86 (fun H locs hP hD hS => ?_)
      have hP : va_P E.1 vwCl (MW E r v (va_up (va_up f 22 (upd (f 22) 0 ((f 22 0) + (m_st (f 21 0) a)))) 22 (upd (upd (f 22) 0 ((f 22 0) + (m_st (f 21 0) a))) 1 ((f 22 1) + (m_st (f 21 1) b)))) B C) H := hP
      have hD : va_D A (MW E r v (va_up (va_up f 22 (upd (f 22) 0 ((f 22 0) + (m_st (f 21 0) a)))) 22 (upd (upd (f 22) 0 ((f 22 0) + (m_st (f 21 0) a))) 1 ((f 22 1) + (m_st (f 21 1) b)))) B C) := hD
      refine lv_aload_n hx hb dX5_does_87 rfl (lv_at hl 2 rfl) ?_
      refine lv_dup hx hb dX5_does_88 rfl ?_
      refine va_get (D := E.1) (ci := 5) (v := .int (v 4)) (C := RX5) (T := TX5) (N := 26) hx hb hts (fun _ h => (List.mem_cons_of_mem _ (List.mem_append_right _ h))) hown hK.1 hP 0 rfl rfl 4 (by decide) (hts _ (List.mem_of_getElem? (i := 4) rfl)) (fun _ h9 => h9) rfl dX5_does_89 ?_
      refine lv_aload_n hx hb dX5_does_92 rfl (lv_at hl 2 rfl) ?_
      refine va_get (D := E.1) (ci := 5) (v := .ref (r 8)) (C := RX5) (T := TX5) (N := 26) hx hb hts (fun _ h => (List.mem_cons_of_mem _ (List.mem_append_right _ h))) hown hK.1 hP 0 rfl rfl 8 (by decide) (hts _ (List.mem_of_getElem? (i := 5) rfl)) (fun _ h9 => h9) rfl dX5_does_93 ?_
      refine lv_aload_n hx hb dX5_does_96 rfl (lv_at hl 2 rfl) ?_
      refine va_get (D := E.1) (ci := 5) (v := .int (v 1)) (C := RX5) (T := TX5) (N := 26) hx hb hts (fun _ h => (List.mem_cons_of_mem _ (List.mem_append_right _ h))) hown hK.1 hP 0 rfl rfl 1 (by decide) (hts _ (List.mem_of_getElem? (i := 1) rfl)) (fun _ h9 => h9) rfl dX5_does_97 ?_
      refine w_top (show (v 1) = nI nw from hnw) ?_
      refine n_iald (f := f 8) hx hb hK.1 hP 1 0 rfl rfl (i := nw) (by omega) (by decide) dX5_does_100 ?_
      refine lv_iload hx hb dX5_does_101 (lv_at hl 0 rfl) ?_
      refine lv_isub hx hb dX5_does_103 ?_
      refine lv_iadd hx hb dX5_does_104 ?_
      refine va_put (D := E.1) (ci := 5) (v := .int ((v 4) + ((f 8 nw) - (m_loses f a b)))) (ty := .int) (C := RX5) (T := TX5) (N := 26) hx hb hts (fun _ h => (List.mem_cons_of_mem _ (List.mem_append_right _ h))) tyX5 tyX5_ok nmX5 hown hK.1 hP hD hS 0 rfl rfl 4 (by decide) (hts _ (List.mem_of_getElem? (i := 4) rfl)) (fun _ h9 => h9) rfl (by decide +kernel) rfl rfl (Nat.le_of_ble_eq_true rfl) dX5_does_105 (fun H locs hP hD hS => ?_)
      have hP : va_P E.1 vwCl (MW E r (upd v 4 ((v 4) + ((f 8 nw) - (m_loses f a b)))) (va_up (va_up f 22 (upd (f 22) 0 ((f 22 0) + (m_st (f 21 0) a)))) 22 (upd (upd (f 22) 0 ((f 22 0) + (m_st (f 21 0) a))) 1 ((f 22 1) + (m_st (f 21 1) b)))) B C) H := hP
      have hD : va_D A (MW E r (upd v 4 ((v 4) + ((f 8 nw) - (m_loses f a b)))) (va_up (va_up f 22 (upd (f 22) 0 ((f 22 0) + (m_st (f 21 0) a)))) 22 (upd (upd (f 22) 0 ((f 22 0) + (m_st (f 21 0) a))) 1 ((f 22 1) + (m_st (f 21 1) b)))) B C) := hD
      refine lv_aload_n hx hb dX5_does_108 rfl (lv_at hl 2 rfl) ?_
      refine lv_dup hx hb dX5_does_109 rfl ?_
      refine va_get (D := E.1) (ci := 5) (v := .int (v 5)) (C := RX5) (T := TX5) (N := 26) hx hb hts (fun _ h => (List.mem_cons_of_mem _ (List.mem_append_right _ h))) hown hK.1 hP 0 rfl rfl 5 (by decide) (hts _ (List.mem_of_getElem? (i := 6) rfl)) (fun _ h9 => h9) rfl dX5_does_110 ?_
      refine lv_iload hx hb dX5_does_113 (lv_at hl 0 rfl) ?_
      refine lv_aload_n hx hb dX5_does_115 rfl (lv_at hl 2 rfl) ?_
      refine va_get (D := E.1) (ci := 5) (v := .ref (r 9)) (C := RX5) (T := TX5) (N := 26) hx hb hts (fun _ h => (List.mem_cons_of_mem _ (List.mem_append_right _ h))) hown hK.1 hP 0 rfl rfl 9 (by decide) (hts _ (List.mem_of_getElem? (i := 7) rfl)) (fun _ h9 => h9) rfl dX5_does_116 ?_
      refine lv_aload_n hx hb dX5_does_119 rfl (lv_at hl 2 rfl) ?_
      refine va_get (D := E.1) (ci := 5) (v := .int (v 1)) (C := RX5) (T := TX5) (N := 26) hx hb hts (fun _ h => (List.mem_cons_of_mem _ (List.mem_append_right _ h))) hown hK.1 hP 0 rfl rfl 1 (by decide) (hts _ (List.mem_of_getElem? (i := 1) rfl)) (fun _ h9 => h9) rfl dX5_does_120 ?_
      refine w_top (show (v 1) = nI nw from hnw) ?_
      refine n_iald (f := f 9) hx hb hK.1 hP 2 0 rfl rfl (i := nw) (by omega) (by decide) dX5_does_123 ?_
      refine lv_isub hx hb dX5_does_124 ?_
      refine lv_iadd hx hb dX5_does_125 ?_
      refine va_put (D := E.1) (ci := 5) (v := .int ((v 5) + ((m_loses f a b) - (f 9 nw)))) (ty := .int) (C := RX5) (T := TX5) (N := 26) hx hb hts (fun _ h => (List.mem_cons_of_mem _ (List.mem_append_right _ h))) tyX5 tyX5_ok nmX5 hown hK.1 hP hD hS 0 rfl rfl 5 (by decide) (hts _ (List.mem_of_getElem? (i := 6) rfl)) (fun _ h9 => h9) rfl (by decide +kernel) rfl rfl (Nat.le_of_ble_eq_true rfl) dX5_does_126 (fun H locs hP hD hS => ?_)
      have hP : va_P E.1 vwCl (MW E r (upd (upd v 4 ((v 4) + ((f 8 nw) - (m_loses f a b)))) 5 ((v 5) + ((m_loses f a b) - (f 9 nw)))) (va_up (va_up f 22 (upd (f 22) 0 ((f 22 0) + (m_st (f 21 0) a)))) 22 (upd (upd (f 22) 0 ((f 22 0) + (m_st (f 21 0) a))) 1 ((f 22 1) + (m_st (f 21 1) b)))) B C) H := hP
      have hD : va_D A (MW E r (upd (upd v 4 ((v 4) + ((f 8 nw) - (m_loses f a b)))) 5 ((v 5) + ((m_loses f a b) - (f 9 nw)))) (va_up (va_up f 22 (upd (f 22) 0 ((f 22 0) + (m_st (f 21 0) a)))) 22 (upd (upd (f 22) 0 ((f 22 0) + (m_st (f 21 0) a))) 1 ((f 22 1) + (m_st (f 21 1) b)))) B C) := hD
      refine lv_aload_n hx hb dX5_does_129 rfl (lv_at hl 2 rfl) ?_
      refine va_get (D := E.1) (ci := 5) (v := .ref (r 21)) (C := RX5) (T := TX5) (N := 26) hx hb hts (fun _ h => (List.mem_cons_of_mem _ (List.mem_append_right _ h))) hown hK.1 hP 0 rfl rfl 21 (by decide) (hts _ (List.mem_of_getElem? (i := 2) rfl)) (fun _ h9 => h9) rfl dX5_does_130 ?_
      refine lv_iconst (v := 0) hx hb dX5_does_133 (by decide) ?_
      refine lv_iload_n hx hb dX5_does_134 rfl (lv_at hl 3 rfl) ?_
      refine n_iast (f := f 21) hx hb hK.1 hP hD hS 12 0 rfl rfl (i := 0) (by omega) (by decide) dX5_does_135 (fun H locs hP hD hS => ?_)
      have hP : va_P E.1 vwCl (MW E r (upd (upd v 4 ((v 4) + ((f 8 nw) - (m_loses f a b)))) 5 ((v 5) + ((m_loses f a b) - (f 9 nw)))) (va_up (va_up (va_up f 22 (upd (f 22) 0 ((f 22 0) + (m_st (f 21 0) a)))) 22 (upd (upd (f 22) 0 ((f 22 0) + (m_st (f 21 0) a))) 1 ((f 22 1) + (m_st (f 21 1) b)))) 21 (upd (f 21) 0 a)) B C) H := hP
      have hD : va_D A (MW E r (upd (upd v 4 ((v 4) + ((f 8 nw) - (m_loses f a b)))) 5 ((v 5) + ((m_loses f a b) - (f 9 nw)))) (va_up (va_up (va_up f 22 (upd (f 22) 0 ((f 22 0) + (m_st (f 21 0) a)))) 22 (upd (upd (f 22) 0 ((f 22 0) + (m_st (f 21 0) a))) 1 ((f 22 1) + (m_st (f 21 1) b)))) 21 (upd (f 21) 0 a)) B C) := hD
      refine lv_aload_n hx hb dX5_does_136 rfl (lv_at hl 2 rfl) ?_
      refine va_get (D := E.1) (ci := 5) (v := .ref (r 21)) (C := RX5) (T := TX5) (N := 26) hx hb hts (fun _ h => (List.mem_cons_of_mem _ (List.mem_append_right _ h))) hown hK.1 hP 0 rfl rfl 21 (by decide) (hts _ (List.mem_of_getElem? (i := 2) rfl)) (fun _ h9 => h9) rfl dX5_does_137 ?_
      refine lv_iconst (v := 1) hx hb dX5_does_140 (by decide) ?_
      refine lv_iload_n hx hb dX5_does_141 rfl (lv_at hl 4 rfl) ?_
      refine n_iast (f := upd (f 21) 0 a) hx hb hK.1 hP hD hS 12 0 rfl rfl (i := 1) (by omega) (by decide) dX5_does_142 (fun H locs hP hD hS => ?_)
      have hP : va_P E.1 vwCl (MW E r (upd (upd v 4 ((v 4) + ((f 8 nw) - (m_loses f a b)))) 5 ((v 5) + ((m_loses f a b) - (f 9 nw)))) (va_up (va_up (va_up (va_up f 22 (upd (f 22) 0 ((f 22 0) + (m_st (f 21 0) a)))) 22 (upd (upd (f 22) 0 ((f 22 0) + (m_st (f 21 0) a))) 1 ((f 22 1) + (m_st (f 21 1) b)))) 21 (upd (f 21) 0 a)) 21 (upd (upd (f 21) 0 a) 1 b)) B C) H := hP
      have hD : va_D A (MW E r (upd (upd v 4 ((v 4) + ((f 8 nw) - (m_loses f a b)))) 5 ((v 5) + ((m_loses f a b) - (f 9 nw)))) (va_up (va_up (va_up (va_up f 22 (upd (f 22) 0 ((f 22 0) + (m_st (f 21 0) a)))) 22 (upd (upd (f 22) 0 ((f 22 0) + (m_st (f 21 0) a))) 1 ((f 22 1) + (m_st (f 21 1) b)))) 21 (upd (f 21) 0 a)) 21 (upd (upd (f 21) 0 a) 1 b)) B C) := hD
      refine lv_aload_n hx hb dX5_does_143 rfl (lv_at hl 2 rfl) ?_
      refine lv_dup hx hb dX5_does_144 rfl ?_
      refine va_get (D := E.1) (ci := 5) (v := .int (v 23)) (C := RX5) (T := TX5) (N := 26) hx hb hts (fun _ h => (List.mem_cons_of_mem _ (List.mem_append_right _ h))) hown hK.1 hP 0 rfl rfl 23 (by decide) (hts _ (List.mem_of_getElem? (i := 8) rfl)) (fun _ h9 => h9) rfl dX5_does_145 ?_
      refine lv_iload hx hb dX5_does_148 (lv_at hl 1 rfl) ?_
      refine lv_iadd hx hb dX5_does_150 ?_
      refine va_put (D := E.1) (ci := 5) (v := .int ((v 23) + (m_money f w nw (f 21 0) (f 21 1) a b))) (ty := .int) (C := RX5) (T := TX5) (N := 26) hx hb hts (fun _ h => (List.mem_cons_of_mem _ (List.mem_append_right _ h))) tyX5 tyX5_ok nmX5 hown hK.1 hP hD hS 0 rfl rfl 23 (by decide) (hts _ (List.mem_of_getElem? (i := 8) rfl)) (fun _ h9 => h9) rfl (by decide +kernel) rfl rfl (Nat.le_of_ble_eq_true rfl) dX5_does_151 (fun H locs hP hD hS => ?_)
      have hP : va_P E.1 vwCl (MW E r (upd (upd (upd v 4 ((v 4) + ((f 8 nw) - (m_loses f a b)))) 5 ((v 5) + ((m_loses f a b) - (f 9 nw)))) 23 ((v 23) + (m_money f w nw (f 21 0) (f 21 1) a b))) (va_up (va_up (va_up (va_up f 22 (upd (f 22) 0 ((f 22 0) + (m_st (f 21 0) a)))) 22 (upd (upd (f 22) 0 ((f 22 0) + (m_st (f 21 0) a))) 1 ((f 22 1) + (m_st (f 21 1) b)))) 21 (upd (f 21) 0 a)) 21 (upd (upd (f 21) 0 a) 1 b)) B C) H := hP
      have hD : va_D A (MW E r (upd (upd (upd v 4 ((v 4) + ((f 8 nw) - (m_loses f a b)))) 5 ((v 5) + ((m_loses f a b) - (f 9 nw)))) 23 ((v 23) + (m_money f w nw (f 21 0) (f 21 1) a b))) (va_up (va_up (va_up (va_up f 22 (upd (f 22) 0 ((f 22 0) + (m_st (f 21 0) a)))) 22 (upd (upd (f 22) 0 ((f 22 0) + (m_st (f 21 0) a))) 1 ((f 22 1) + (m_st (f 21 1) b)))) 21 (upd (f 21) 0 a)) 21 (upd (upd (f 21) 0 a) 1 b)) B C) := hD
      refine lv_aload_n hx hb dX5_does_154 rfl (lv_at hl 2 rfl) ?_
      refine lv_dup hx hb dX5_does_155 rfl ?_
      refine va_get (D := E.1) (ci := 5) (v := .int (v 1)) (C := RX5) (T := TX5) (N := 26) hx hb hts (fun _ h => (List.mem_cons_of_mem _ (List.mem_append_right _ h))) hown hK.1 hP 0 rfl rfl 1 (by decide) (hts _ (List.mem_of_getElem? (i := 1) rfl)) (fun _ h9 => h9) rfl dX5_does_156 ?_
      refine w_top (show (v 1) = nI nw from hnw) ?_
      refine lv_iconst (v := 1) hx hb dX5_does_159 (by decide) ?_
      refine lv_iadd hx hb dX5_does_160 ?_
      refine w_top (show ((nI nw) + 1) = (nI (nw + 1)) from nI_add _ _) ?_
      refine va_put (D := E.1) (ci := 5) (v := .int (nI (nw + 1))) (ty := .int) (C := RX5) (T := TX5) (N := 26) hx hb hts (fun _ h => (List.mem_cons_of_mem _ (List.mem_append_right _ h))) tyX5 tyX5_ok nmX5 hown hK.1 hP hD hS 0 rfl rfl 1 (by decide) (hts _ (List.mem_of_getElem? (i := 1) rfl)) (fun _ h9 => h9) rfl (by decide +kernel) rfl rfl (Nat.le_of_ble_eq_true rfl) dX5_does_161 (fun H locs hP hD hS => ?_)
      have hP : va_P E.1 vwCl (MW E r (upd (upd (upd (upd v 4 ((v 4) + ((f 8 nw) - (m_loses f a b)))) 5 ((v 5) + ((m_loses f a b) - (f 9 nw)))) 23 ((v 23) + (m_money f w nw (f 21 0) (f 21 1) a b))) 1 (nI (nw + 1))) (va_up (va_up (va_up (va_up f 22 (upd (f 22) 0 ((f 22 0) + (m_st (f 21 0) a)))) 22 (upd (upd (f 22) 0 ((f 22 0) + (m_st (f 21 0) a))) 1 ((f 22 1) + (m_st (f 21 1) b)))) 21 (upd (f 21) 0 a)) 21 (upd (upd (f 21) 0 a) 1 b)) B C) H := hP
      have hD : va_D A (MW E r (upd (upd (upd (upd v 4 ((v 4) + ((f 8 nw) - (m_loses f a b)))) 5 ((v 5) + ((m_loses f a b) - (f 9 nw)))) 23 ((v 23) + (m_money f w nw (f 21 0) (f 21 1) a b))) 1 (nI (nw + 1))) (va_up (va_up (va_up (va_up f 22 (upd (f 22) 0 ((f 22 0) + (m_st (f 21 0) a)))) 22 (upd (upd (f 22) 0 ((f 22 0) + (m_st (f 21 0) a))) 1 ((f 22 1) + (m_st (f 21 1) b)))) 21 (upd (f 21) 0 a)) 21 (upd (upd (f 21) 0 a) 1 b)) B C) := hD
      refine lv_iload hx hb dX5_does_164 (lv_at hl 1 rfl) ?_
      exact q_ret (((upd (upd (upd (upd v 4 ((v 4) + ((f 8 nw) - (m_loses f a b)))) 5 ((v 5) + ((m_loses f a b) - (f 9 nw)))) 23 ((v 23) + (m_money f w nw (f 21 0) (f 21 1) a b))) 1 (nI (nw + 1))), (va_up (va_up (va_up (va_up f 22 (upd (f 22) 0 ((f 22 0) + (m_st (f 21 0) a)))) 22 (upd (upd (f 22) 0 ((f 22 0) + (m_st (f 21 0) a))) 1 ((f 22 1) + (m_st (f 21 1) b)))) 21 (upd (f 21) 0 a)) 21 (upd (upd (f 21) 0 a) 1 b)), B, C) : MS) hx hb hr hlocks ⟨rfl, rfl⟩ hP hD hS dX5_does_166
    · skip
      refine w_top (show _ = f 22 1 from rfl) ?_
      refine lv_aload_n hx hb dX5_does_67 rfl (lv_at hl 2 rfl) ?_
      refine va_get (D := E.1) (ci := 5) (v := .ref (r 21)) (C := RX5) (T := TX5) (N := 26) hx hb hts (fun _ h => (List.mem_cons_of_mem _ (List.mem_append_right _ h))) hown hK.1 hP 0 rfl rfl 21 (by decide) (hts _ (List.mem_of_getElem? (i := 2) rfl)) (fun _ h9 => h9) rfl dX5_does_68 ?_
      refine lv_iconst (v := 1) hx hb dX5_does_71 (by decide) ?_
      refine n_iald (f := f 21) hx hb hK.1 hP 12 0 rfl rfl (i := 1) (by omega) (by decide) dX5_does_72 ?_
      refine lv_if_ne (tgt := 84) hx hb dX5_does_73 (by decide) (fun c_1 => ?_) (fun c_1 => ?_)
      · skip
        refine lv_iconst (v := 0) hx hb dX5_does_84 (by decide) ?_
        exact J85 _ (by first | rfl | (simp [m_st, c_1]; done) | (simp only [m_st, c_1, if_true, if_false, reduceIte, not_true_eq_false, not_false_eq_true]; done) | (simp only [m_st]; split <;> first | rfl | (simp_all; done) | omega) | (simp_all [m_st]; done))
      · skip
        refine lv_iload_n hx hb dX5_does_76 rfl (lv_at hl 4 rfl) ?_
        refine lv_if_eq (tgt := 84) hx hb dX5_does_77 (by decide) (fun c_2 => ?_) (fun c_2 => ?_)
        · skip
          refine lv_iconst (v := 0) hx hb dX5_does_84 (by decide) ?_
          exact J85 _ (by first | rfl | (simp [m_st, c_1, c_2]; done) | (simp only [m_st, c_1, c_2, if_true, if_false, reduceIte, not_true_eq_false, not_false_eq_true]; done) | (simp only [m_st]; split <;> first | rfl | (simp_all; done) | omega) | (simp_all [m_st]; done))
        · skip
          refine lv_iconst (v := 1) hx hb dX5_does_80 (by decide) ?_
          refine lv_goto (tgt := 85) hx hb dX5_does_81 (by decide) ?_
          exact J85 _ (by first | rfl | (simp [m_st, c_1, c_2]; done) | (simp only [m_st, c_1, c_2, if_true, if_false, reduceIte, not_true_eq_false, not_false_eq_true]; done) | (simp only [m_st]; split <;> first | rfl | (simp_all; done) | omega) | (simp_all [m_st]; done))
  · skip
    refine lv_aload_n hx hb dX5_does_40 rfl (lv_at hl 2 rfl) ?_
    refine va_get (D := E.1) (ci := 5) (v := .ref (r 21)) (C := RX5) (T := TX5) (N := 26) hx hb hts (fun _ h => (List.mem_cons_of_mem _ (List.mem_append_right _ h))) hown hK.1 hP 0 rfl rfl 21 (by decide) (hts _ (List.mem_of_getElem? (i := 2) rfl)) (fun _ h9 => h9) rfl dX5_does_41 ?_
    refine lv_iconst (v := 0) hx hb dX5_does_44 (by decide) ?_
    refine n_iald (f := f 21) hx hb hK.1 hP 12 0 rfl rfl (i := 0) (by omega) (by decide) dX5_does_45 ?_
    refine lv_if_ne (tgt := 57) hx hb dX5_does_46 (by decide) (fun c_3 => ?_) (fun c_3 => ?_)
    · skip
      refine lv_iconst (v := 0) hx hb dX5_does_57 (by decide) ?_
      exact J58 _ (by first | rfl | (simp [m_st, c_3]; done) | (simp only [m_st, c_3, if_true, if_false, reduceIte, not_true_eq_false, not_false_eq_true]; done) | (simp only [m_st]; split <;> first | rfl | (simp_all; done) | omega) | (simp_all [m_st]; done))
    · skip
      refine lv_iload_n hx hb dX5_does_49 rfl (lv_at hl 3 rfl) ?_
      refine lv_if_eq (tgt := 57) hx hb dX5_does_50 (by decide) (fun c_4 => ?_) (fun c_4 => ?_)
      · skip
        refine lv_iconst (v := 0) hx hb dX5_does_57 (by decide) ?_
        exact J58 _ (by first | rfl | (simp [m_st, c_3, c_4]; done) | (simp only [m_st, c_3, c_4, if_true, if_false, reduceIte, not_true_eq_false, not_false_eq_true]; done) | (simp only [m_st]; split <;> first | rfl | (simp_all; done) | omega) | (simp_all [m_st]; done))
      · skip
        refine lv_iconst (v := 1) hx hb dX5_does_53 (by decide) ?_
        refine lv_goto (tgt := 58) hx hb dX5_does_54 (by decide) ?_
        exact J58 _ (by first | rfl | (simp [m_st, c_3, c_4]; done) | (simp only [m_st, c_3, c_4, if_true, if_false, reduceIte, not_true_eq_false, not_false_eq_true]; done) | (simp only [m_st]; split <;> first | rfl | (simp_all; done) | omega) | (simp_all [m_st]; done))
