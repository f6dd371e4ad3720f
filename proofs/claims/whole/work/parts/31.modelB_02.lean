set_option maxHeartbeats 4000000 in
set_option maxRecDepth 100000 in
theorem c_X5_bringsA (l : Launch) (E : GG) (r : Nat → Nat) (v : Nat → Int32) (f : Nat → Nat → Int32) (B C : Nat → Int32) (h : Nat) (s1 : Nat) (t : Int32) (a : Nat) (b : Nat) (hh : h < 24) (hs : s1 < 369) (ha : a < 3) (hb3 : b < 3) (h40 : (v 2).toInt ≤ 40) : Met l yX5_brings wsX5_brings (Rm 3 0 0) (pR E [.ref (r 0), .int (-1), .int (nI h), .int (nI s1), .int t, .int (nI a), .int (nI b)] (MW E r v f B C)) (QcRead (m_brA v f C h s1 t a b)) 0 0 (fun _ => False) := by
  refine ofR (by decide) rfl (Nat.le_of_ble_eq_true rfl) ?_
  intro p e s m below meth c hx hb hr hlocks hml hown hts hK hP ls hl
  have hl : lv_has ls 13 [(0, .ref (r 0)), (1, .int (-1)), (2, .int (nI h)), (3, .int (nI s1)), (4, .int t), (5, .int (nI a)), (6, .int (nI b))] := hl
  refine lv_iload_n hx hb dX5_brings_0 rfl (lv_at hl 3 rfl) ?_
  refine lv_bipush (v := 9) hx hb dX5_brings_1 (by decide) ?_
  refine lv_idiv hx hb dX5_brings_3 (by decide) ?_
  refine w_top (show ((nI s1) / 9) = (nI (s1 / 9)) from pk_div (a := s1) (d := 9) (by omega) (by decide) (by decide)) ?_
  refine lv_istore (lv' := [(7, .int (nI (s1 / 9))), (0, .ref (r 0)), (1, .int (-1)), (2, .int (nI h)), (3, .int (nI s1)), (4, .int t), (5, .int (nI a)), (6, .int (nI b))]) hx hb dX5_brings_4 hl (by decide) rfl (fun ls hl => ?_)
  refine lv_iload_n hx hb dX5_brings_6 rfl (lv_at hl 4 rfl) ?_
  refine lv_iconst (v := 3) hx hb dX5_brings_7 (by decide) ?_
  refine lv_idiv hx hb dX5_brings_8 (by decide) ?_
  refine w_top (show ((nI s1) / 3) = (nI (s1 / 3)) from pk_div (a := s1) (d := 3) (by omega) (by decide) (by decide)) ?_
  refine lv_iconst (v := 3) hx hb dX5_brings_9 (by decide) ?_
  refine lv_irem hx hb dX5_brings_10 (by decide) ?_
  refine w_top (show ((nI (s1 / 3)) - (nI (s1 / 3)) / 3 * 3) = (nI ((s1 / 3) % 3)) from pk_rem (a := s1 / 3) (d := 3) (by omega) (by decide) (by decide)) ?_
  refine lv_istore (lv' := [(8, .int (nI ((s1 / 3) % 3))), (7, .int (nI (s1 / 9))), (0, .ref (r 0)), (1, .int (-1)), (2, .int (nI h)), (3, .int (nI s1)), (4, .int t), (5, .int (nI a)), (6, .int (nI b))]) hx hb dX5_brings_11 hl (by decide) rfl (fun ls hl => ?_)
  refine lv_iload_n hx hb dX5_brings_13 rfl (lv_at hl 5 rfl) ?_
  refine lv_iconst (v := 3) hx hb dX5_brings_14 (by decide) ?_
  refine lv_irem hx hb dX5_brings_15 (by decide) ?_
  refine w_top (show ((nI s1) - (nI s1) / 3 * 3) = (nI (s1 % 3)) from pk_rem (a := s1) (d := 3) (by omega) (by decide) (by decide)) ?_
  refine lv_istore (lv' := [(9, .int (nI (s1 % 3))), (8, .int (nI ((s1 / 3) % 3))), (7, .int (nI (s1 / 9))), (0, .ref (r 0)), (1, .int (-1)), (2, .int (nI h)), (3, .int (nI s1)), (4, .int t), (5, .int (nI a)), (6, .int (nI b))]) hx hb dX5_brings_16 hl (by decide) rfl (fun ls hl => ?_)
  refine lv_aload_n hx hb dX5_brings_18 rfl (lv_at hl 3 rfl) ?_
  refine lv_iload_n hx hb dX5_brings_19 rfl (lv_at hl 5 rfl) ?_
  refine lv_iload hx hb dX5_brings_20 (lv_at hl 2 rfl) ?_
  refine lv_iload hx hb dX5_brings_22 (lv_at hl 7 rfl) ?_
  refine lv_iload hx hb dX5_brings_24 (lv_at hl 2 rfl) ?_
  refine lv_isub hx hb dX5_brings_26 ?_
  refine lv_iload hx hb dX5_brings_27 (lv_at hl 1 rfl) ?_
  refine lv_iload hx hb dX5_brings_29 (lv_at hl 0 rfl) ?_
  refine lv_iload hx hb dX5_brings_31 (lv_at hl 8 rfl) ?_
  refine lv_iload hx hb dX5_brings_33 (lv_at hl 9 rfl) ?_
  refine cR_V ⟨hx, hb, hml, hown, hts⟩ (c_X5_isLegal l E r v f B C h (nI (s1 / 9)) (t - (nI (s1 / 9))) (nI ((s1 / 3) % 3)) (nI (s1 % 3)) (nI a) (nI b) (by omega)) (cwV 7 hts gX5_brings_X5_isLegal rfl rfl rfl (by decide +kernel) ⟨Nat.le_of_ble_eq_true rfl, Nat.le_of_ble_eq_true rfl⟩) hK hP 5 0 rfl rfl rfl hl.1 rfl (Nat.le_of_ble_eq_true rfl) dX5_brings_35 ⟨Nat.le_of_ble_eq_true rfl, Nat.le_of_ble_eq_true rfl⟩ ?_
  refine b_if_ne (q := (m_legal v f h (nI (s1 / 9)) (t - (nI (s1 / 9))) (nI ((s1 / 3) % 3)) (nI (s1 % 3)) (nI a) (nI b))) (tgt := 44) hx hb dX5_brings_38 (by decide) (fun c_1 => ?_) (fun c_1 => ?_)
  · skip
    have hto := m_to_le c_1 h40
    refine lv_bipush (v := 9) hx hb dX5_brings_44 (by decide) ?_
    refine lv_iload hx hb dX5_brings_46 (lv_at hl 2 rfl) ?_
    refine lv_aload_n hx hb dX5_brings_48 rfl (lv_at hl 3 rfl) ?_
    refine va_get (D := E.1) (ci := 5) (v := .ref (r 8)) (C := RX5) (T := TX5) (N := 26) hx hb hts (fun _ h => (List.mem_cons_of_mem _ (List.mem_append_right _ h))) hown hK.1 hP 0 rfl rfl 8 (by decide) (hts _ (List.mem_of_getElem? (i := 2) rfl)) (fun _ h9 => h9) rfl dX5_brings_49 ?_
    refine lv_iload_n hx hb dX5_brings_52 rfl (lv_at hl 5 rfl) ?_
    refine n_iald (f := f 8) hx hb hK.1 hP 1 0 rfl rfl (i := h) (by omega) (by decide) dX5_brings_53 ?_
    refine lv_iadd hx hb dX5_brings_54 ?_
    refine lv_aload_n hx hb dX5_brings_55 rfl (lv_at hl 3 rfl) ?_
    refine lv_iload hx hb dX5_brings_56 (lv_at hl 8 rfl) ?_
    refine lv_iload hx hb dX5_brings_58 (lv_at hl 9 rfl) ?_
    refine cR_V ⟨hx, hb, hml, hown, hts⟩ (c_X5_loses l E r v f B C (nI a) (nI b)) (cwV 2 hts gX5_brings_X5_loses rfl rfl rfl (by decide +kernel) ⟨Nat.le_of_ble_eq_true rfl, Nat.le_of_ble_eq_true rfl⟩) hK hP 5 0 rfl rfl rfl hl.1 rfl (Nat.le_of_ble_eq_true rfl) dX5_brings_60 ⟨Nat.le_of_ble_eq_true rfl, Nat.le_of_ble_eq_true rfl⟩ ?_
    refine lv_isub hx hb dX5_brings_63 ?_
    refine w_top (show (((nI (s1 / 9)) + (f 8 h)) - (m_loses f (nI a) (nI b))) = (nI (m_to f h (nI (s1 / 9)) (nI a) (nI b))) from (m_to_eq c_1 h40)) ?_
    refine lv_imul hx hb dX5_brings_64 ?_
    refine w_top (show (9 * (nI (m_to f h (nI (s1 / 9)) (nI a) (nI b)))) = (nI (9 * (m_to f h (nI (s1 / 9)) (nI a) (nI b)))) from pk_mul _ _) ?_
    refine lv_iconst (v := 3) hx hb dX5_brings_65 (by decide) ?_
    refine lv_iload hx hb dX5_brings_66 (lv_at hl 8 rfl) ?_
    refine lv_imul hx hb dX5_brings_68 ?_
    refine w_top (show (3 * (nI a)) = (nI (3 * a)) from pk_mul _ _) ?_
    refine lv_iadd hx hb dX5_brings_69 ?_
    refine w_top (show ((nI (9 * (m_to f h (nI (s1 / 9)) (nI a) (nI b)))) + (nI (3 * a))) = (nI ((9 * (m_to f h (nI (s1 / 9)) (nI a) (nI b))) + (3 * a))) from nI_add _ _) ?_
    refine lv_iload hx hb dX5_brings_70 (lv_at hl 9 rfl) ?_
    refine lv_iadd hx hb dX5_brings_72 ?_
    refine w_top (show ((nI ((9 * (m_to f h (nI (s1 / 9)) (nI a) (nI b))) + (3 * a))) + (nI b)) = (nI (((9 * (m_to f h (nI (s1 / 9)) (nI a) (nI b))) + (3 * a)) + b)) from nI_add _ _) ?_
    refine lv_istore (lv' := [(10, .int (nI (((9 * (m_to f h (nI (s1 / 9)) (nI a) (nI b))) + (3 * a)) + b))), (9, .int (nI (s1 % 3))), (8, .int (nI ((s1 / 3) % 3))), (7, .int (nI (s1 / 9))), (0, .ref (r 0)), (1, .int (-1)), (2, .int (nI h)), (3, .int (nI s1)), (4, .int t), (5, .int (nI a)), (6, .int (nI b))]) hx hb dX5_brings_73 hl (by decide) rfl (fun ls hl => ?_)
    refine lv_iload_n hx hb dX5_brings_75 rfl (lv_at hl 5 rfl) ?_
    refine lv_if_lt (tgt := 132) hx hb dX5_brings_76 (by decide) (fun c_2 => ?_) (fun c_2 => ?_)
    · skip
      refine lv_aload_n hx hb dX5_brings_132 rfl (lv_at hl 4 rfl) ?_
      refine va_get (D := E.1) (ci := 5) (v := .ref (r 25)) (C := RX5) (T := TX5) (N := 26) hx hb hts (fun _ h => (List.mem_cons_of_mem _ (List.mem_append_right _ h))) hown hK.1 hP 0 rfl rfl 25 (by decide) (hts _ (List.mem_of_getElem? (i := 4) rfl)) (fun _ h9 => h9) rfl dX5_brings_133 ?_
      refine lv_sipush (v := 369) hx hb dX5_brings_136 (by decide) ?_
      refine lv_iload_n hx hb dX5_brings_139 rfl (lv_at hl 6 rfl) ?_
      refine lv_iconst (v := 1) hx hb dX5_brings_140 (by decide) ?_
      refine lv_iadd hx hb dX5_brings_141 ?_
      refine w_top (show ((nI h) + 1) = (nI (h + 1)) from nI_add _ _) ?_
      refine lv_imul hx hb dX5_brings_142 ?_
      refine w_top (show (369 * (nI (h + 1))) = (nI (369 * (h + 1))) from pk_mul _ _) ?_
      refine lv_iload hx hb dX5_brings_143 (lv_at hl 0 rfl) ?_
      refine lv_iadd hx hb dX5_brings_145 ?_
      refine w_top (show ((nI (369 * (h + 1))) + (nI (((9 * (m_to f h (nI (s1 / 9)) (nI a) (nI b))) + (3 * a)) + b))) = (nI ((369 * (h + 1)) + (((9 * (m_to f h (nI (s1 / 9)) (nI a) (nI b))) + (3 * a)) + b))) from nI_add _ _) ?_
      refine n_iald (f := C) hx hb hK.1 hP 15 0 rfl rfl (i := (369 * (h + 1)) + (((9 * (m_to f h (nI (s1 / 9)) (nI a) (nI b))) + (3 * a)) + b)) (by omega) (by decide) dX5_brings_146 ?_
      refine lv_istore (lv' := [(11, .int (C ((369 * (h + 1)) + (((9 * (m_to f h (nI (s1 / 9)) (nI a) (nI b))) + (3 * a)) + b)))), (10, .int (nI (((9 * (m_to f h (nI (s1 / 9)) (nI a) (nI b))) + (3 * a)) + b))), (9, .int (nI (s1 % 3))), (8, .int (nI ((s1 / 3) % 3))), (7, .int (nI (s1 / 9))), (0, .ref (r 0)), (1, .int (-1)), (2, .int (nI h)), (3, .int (nI s1)), (4, .int t), (5, .int (nI a)), (6, .int (nI b))]) hx hb dX5_brings_147 hl (by decide) rfl (fun ls hl => ?_)
      refine lv_iload hx hb dX5_brings_149 (lv_at hl 0 rfl) ?_
      refine lv_ldc hx hb hown (hts _ (List.mem_of_getElem? (i := 1) rfl)) dX5_brings_151 ?_
      refine lv_icmp_ne (tgt := 159) hx hb dX5_brings_153 (by decide) (fun c_3 => ?_) (fun c_3 => ?_)
      · skip
        refine lv_iconst (v := 0) hx hb dX5_brings_159 (by decide) ?_
        refine lv_istore (lv' := [(12, .int 0), (11, .int (C ((369 * (h + 1)) + (((9 * (m_to f h (nI (s1 / 9)) (nI a) (nI b))) + (3 * a)) + b)))), (10, .int (nI (((9 * (m_to f h (nI (s1 / 9)) (nI a) (nI b))) + (3 * a)) + b))), (9, .int (nI (s1 % 3))), (8, .int (nI ((s1 / 3) % 3))), (7, .int (nI (s1 / 9))), (0, .ref (r 0)), (1, .int (-1)), (2, .int (nI h)), (3, .int (nI s1)), (4, .int t), (5, .int (nI a)), (6, .int (nI b))]) hx hb dX5_brings_160 hl (by decide) rfl (fun ls hl => ?_)
        refine lv_iload hx hb dX5_brings_162 (lv_at hl 0 rfl) ?_
        refine lv_iconst (v := 3) hx hb dX5_brings_164 (by decide) ?_
        refine n_icmp_ge (tgt := 202) (a := 0) (b := 3) hx hb dX5_brings_165 (by decide) (by omega) (by omega) (fun c_4 => ?_) (fun c_4 => ?_)
        · skip
          exact absurd c_4 (by decide)
        · skip
          refine lv_iload hx hb dX5_brings_168 (lv_at hl 1 rfl) ?_
          refine lv_aload_n hx hb dX5_brings_170 rfl (lv_at hl 6 rfl) ?_
          refine va_get (D := E.1) (ci := 5) (v := .ref (r 17)) (C := RX5) (T := TX5) (N := 26) hx hb hts (fun _ h => (List.mem_cons_of_mem _ (List.mem_append_right _ h))) hown hK.1 hP 0 rfl rfl 17 (by decide) (hts _ (List.mem_of_getElem? (i := 5) rfl)) (fun _ h9 => h9) rfl dX5_brings_171 ?_
          refine lv_iload hx hb dX5_brings_174 (lv_at hl 0 rfl) ?_
          refine n_iald (f := f 17) hx hb hK.1 hP 10 0 rfl rfl (i := 0) (by omega) (by decide) dX5_brings_176 ?_
          refine lv_aload_n hx hb dX5_brings_177 rfl (lv_at hl 6 rfl) ?_
          refine lv_iload hx hb dX5_brings_178 (lv_at hl 0 rfl) ?_
          refine lv_iload_n hx hb dX5_brings_180 rfl (lv_at hl 8 rfl) ?_
          refine lv_iload hx hb dX5_brings_181 (lv_at hl 4 rfl) ?_
          refine lv_iload hx hb dX5_brings_183 (lv_at hl 3 rfl) ?_
          refine lv_iload hx hb dX5_brings_185 (lv_at hl 11 rfl) ?_
          refine lv_iload hx hb dX5_brings_187 (lv_at hl 12 rfl) ?_
          refine cR_V ⟨hx, hb, hml, hown, hts⟩ (c_X5_money l E r v f B C 0 h (nI ((s1 / 3) % 3)) (nI (s1 % 3)) (nI a) (nI b) (by omega) (by omega)) (cwV 6 hts gX5_brings_X5_money rfl rfl rfl (by decide +kernel) ⟨Nat.le_of_ble_eq_true rfl, Nat.le_of_ble_eq_true rfl⟩) hK hP 5 0 rfl rfl rfl hl.1 rfl (Nat.le_of_ble_eq_true rfl) dX5_brings_189 ⟨Nat.le_of_ble_eq_true rfl, Nat.le_of_ble_eq_true rfl⟩ ?_
          refine lv_imul hx hb dX5_brings_192 ?_
          refine lv_iadd hx hb dX5_brings_193 ?_
          refine lv_istore (lv' := [(11, .int ((C ((369 * (h + 1)) + (((9 * (m_to f h (nI (s1 / 9)) (nI a) (nI b))) + (3 * a)) + b))) + ((f 17 0) * (m_money f 0 h (nI ((s1 / 3) % 3)) (nI (s1 % 3)) (nI a) (nI b))))), (12, .int 0), (10, .int (nI (((9 * (m_to f h (nI (s1 / 9)) (nI a) (nI b))) + (3 * a)) + b))), (9, .int (nI (s1 % 3))), (8, .int (nI ((s1 / 3) % 3))), (7, .int (nI (s1 / 9))), (0, .ref (r 0)), (1, .int (-1)), (2, .int (nI h)), (3, .int (nI s1)), (4, .int t), (5, .int (nI a)), (6, .int (nI b))]) hx hb dX5_brings_194 hl (by decide) rfl (fun ls hl => ?_)
          refine lv_iinc (v := (nI 1)) (lv' := [(12, .int (nI 1)), (11, .int ((C ((369 * (h + 1)) + (((9 * (m_to f h (nI (s1 / 9)) (nI a) (nI b))) + (3 * a)) + b))) + ((f 17 0) * (m_money f 0 h (nI ((s1 / 3) % 3)) (nI (s1 % 3)) (nI a) (nI b))))), (10, .int (nI (((9 * (m_to f h (nI (s1 / 9)) (nI a) (nI b))) + (3 * a)) + b))), (9, .int (nI (s1 % 3))), (8, .int (nI ((s1 / 3) % 3))), (7, .int (nI (s1 / 9))), (0, .ref (r 0)), (1, .int (-1)), (2, .int (nI h)), (3, .int (nI s1)), (4, .int t), (5, .int (nI a)), (6, .int (nI b))]) hx hb dX5_brings_196 hl (k := 1) rfl (nI_1 _) (by decide) rfl (fun ls hl => ?_)
          refine lv_goto (tgt := 162) hx hb dX5_brings_199 (by decide) ?_
          refine lv_iload hx hb dX5_brings_162 (lv_at hl 0 rfl) ?_
          refine lv_iconst (v := 3) hx hb dX5_brings_164 (by decide) ?_
          refine n_icmp_ge (tgt := 202) (a := 1) (b := 3) hx hb dX5_brings_165 (by decide) (by omega) (by omega) (fun c_5 => ?_) (fun c_5 => ?_)
          · skip
            exact absurd c_5 (by decide)
          · skip
            refine lv_iload hx hb dX5_brings_168 (lv_at hl 1 rfl) ?_
            refine lv_aload_n hx hb dX5_brings_170 rfl (lv_at hl 6 rfl) ?_
            refine va_get (D := E.1) (ci := 5) (v := .ref (r 17)) (C := RX5) (T := TX5) (N := 26) hx hb hts (fun _ h => (List.mem_cons_of_mem _ (List.mem_append_right _ h))) hown hK.1 hP 0 rfl rfl 17 (by decide) (hts _ (List.mem_of_getElem? (i := 5) rfl)) (fun _ h9 => h9) rfl dX5_brings_171 ?_
            refine lv_iload hx hb dX5_brings_174 (lv_at hl 0 rfl) ?_
            refine n_iald (f := f 17) hx hb hK.1 hP 10 0 rfl rfl (i := 1) (by omega) (by decide) dX5_brings_176 ?_
            refine lv_aload_n hx hb dX5_brings_177 rfl (lv_at hl 6 rfl) ?_
            refine lv_iload hx hb dX5_brings_178 (lv_at hl 0 rfl) ?_
            refine lv_iload_n hx hb dX5_brings_180 rfl (lv_at hl 8 rfl) ?_
            refine lv_iload hx hb dX5_brings_181 (lv_at hl 4 rfl) ?_
            refine lv_iload hx hb dX5_brings_183 (lv_at hl 3 rfl) ?_
            refine lv_iload hx hb dX5_brings_185 (lv_at hl 11 rfl) ?_
            refine lv_iload hx hb dX5_brings_187 (lv_at hl 12 rfl) ?_
            refine cR_V ⟨hx, hb, hml, hown, hts⟩ (c_X5_money l E r v f B C 1 h (nI ((s1 / 3) % 3)) (nI (s1 % 3)) (nI a) (nI b) (by omega) (by omega)) (cwV 6 hts gX5_brings_X5_money rfl rfl rfl (by decide +kernel) ⟨Nat.le_of_ble_eq_true rfl, Nat.le_of_ble_eq_true rfl⟩) hK hP 5 0 rfl rfl rfl hl.1 rfl (Nat.le_of_ble_eq_true rfl) dX5_brings_189 ⟨Nat.le_of_ble_eq_true rfl, Nat.le_of_ble_eq_true rfl⟩ ?_
            refine lv_imul hx hb dX5_brings_192 ?_
            refine lv_iadd hx hb dX5_brings_193 ?_
            refine lv_istore (lv' := [(11, .int (((C ((369 * (h + 1)) + (((9 * (m_to f h (nI (s1 / 9)) (nI a) (nI b))) + (3 * a)) + b))) + ((f 17 0) * (m_money f 0 h (nI ((s1 / 3) % 3)) (nI (s1 % 3)) (nI a) (nI b)))) + ((f 17 1) * (m_money f 1 h (nI ((s1 / 3) % 3)) (nI (s1 % 3)) (nI a) (nI b))))), (12, .int (nI 1)), (10, .int (nI (((9 * (m_to f h (nI (s1 / 9)) (nI a) (nI b))) + (3 * a)) + b))), (9, .int (nI (s1 % 3))), (8, .int (nI ((s1 / 3) % 3))), (7, .int (nI (s1 / 9))), (0, .ref (r 0)), (1, .int (-1)), (2, .int (nI h)), (3, .int (nI s1)), (4, .int t), (5, .int (nI a)), (6, .int (nI b))]) hx hb dX5_brings_194 hl (by decide) rfl (fun ls hl => ?_)
            refine lv_iinc (v := (nI 2)) (lv' := [(12, .int (nI 2)), (11, .int (((C ((369 * (h + 1)) + (((9 * (m_to f h (nI (s1 / 9)) (nI a) (nI b))) + (3 * a)) + b))) + ((f 17 0) * (m_money f 0 h (nI ((s1 / 3) % 3)) (nI (s1 % 3)) (nI a) (nI b)))) + ((f 17 1) * (m_money f 1 h (nI ((s1 / 3) % 3)) (nI (s1 % 3)) (nI a) (nI b))))), (10, .int (nI (((9 * (m_to f h (nI (s1 / 9)) (nI a) (nI b))) + (3 * a)) + b))), (9, .int (nI (s1 % 3))), (8, .int (nI ((s1 / 3) % 3))), (7, .int (nI (s1 / 9))), (0, .ref (r 0)), (1, .int (-1)), (2, .int (nI h)), (3, .int (nI s1)), (4, .int t), (5, .int (nI a)), (6, .int (nI b))]) hx hb dX5_brings_196 hl (k := 1) rfl (nI_1 _) (by decide) rfl (fun ls hl => ?_)
            refine lv_goto (tgt := 162) hx hb dX5_brings_199 (by decide) ?_
            refine lv_iload hx hb dX5_brings_162 (lv_at hl 0 rfl) ?_
            refine lv_iconst (v := 3) hx hb dX5_brings_164 (by decide) ?_
            refine n_icmp_ge (tgt := 202) (a := 2) (b := 3) hx hb dX5_brings_165 (by decide) (by omega) (by omega) (fun c_6 => ?_) (fun c_6 => ?_)
            · skip
              exact absurd c_6 (by decide)
            · skip
              refine lv_iload hx hb dX5_brings_168 (lv_at hl 1 rfl) ?_
              refine lv_aload_n hx hb dX5_brings_170 rfl (lv_at hl 6 rfl) ?_
              refine va_get (D := E.1) (ci := 5) (v := .ref (r 17)) (C := RX5) (T := TX5) (N := 26) hx hb hts (fun _ h => (List.mem_cons_of_mem _ (List.mem_append_right _ h))) hown hK.1 hP 0 rfl rfl 17 (by decide) (hts _ (List.mem_of_getElem? (i := 5) rfl)) (fun _ h9 => h9) rfl dX5_brings_171 ?_
              refine lv_iload hx hb dX5_brings_174 (lv_at hl 0 rfl) ?_
              refine n_iald (f := f 17) hx hb hK.1 hP 10 0 rfl rfl (i := 2) (by omega) (by decide) dX5_brings_176 ?_
              refine lv_aload_n hx hb dX5_brings_177 rfl (lv_at hl 6 rfl) ?_
              refine lv_iload hx hb dX5_brings_178 (lv_at hl 0 rfl) ?_
              refine lv_iload_n hx hb dX5_brings_180 rfl (lv_at hl 8 rfl) ?_
              refine lv_iload hx hb dX5_brings_181 (lv_at hl 4 rfl) ?_
              refine lv_iload hx hb dX5_brings_183 (lv_at hl 3 rfl) ?_
              refine lv_iload hx hb dX5_brings_185 (lv_at hl 11 rfl) ?_
              refine lv_iload hx hb dX5_brings_187 (lv_at hl 12 rfl) ?_
              refine cR_V ⟨hx, hb, hml, hown, hts⟩ (c_X5_money l E r v f B C 2 h (nI ((s1 / 3) % 3)) (nI (s1 % 3)) (nI a) (nI b) (by omega) (by omega)) (cwV 6 hts gX5_brings_X5_money rfl rfl rfl (by decide +kernel) ⟨Nat.le_of_ble_eq_true rfl, Nat.le_of_ble_eq_true rfl⟩) hK hP 5 0 rfl rfl rfl hl.1 rfl (Nat.le_of_ble_eq_true rfl) dX5_brings_189 ⟨Nat.le_of_ble_eq_true rfl, Nat.le_of_ble_eq_true rfl⟩ ?_
              refine lv_imul hx hb dX5_brings_192 ?_
              refine lv_iadd hx hb dX5_brings_193 ?_
              refine lv_istore (lv' := [(11, .int ((((C ((369 * (h + 1)) + (((9 * (m_to f h (nI (s1 / 9)) (nI a) (nI b))) + (3 * a)) + b))) + ((f 17 0) * (m_money f 0 h (nI ((s1 / 3) % 3)) (nI (s1 % 3)) (nI a) (nI b)))) + ((f 17 1) * (m_money f 1 h (nI ((s1 / 3) % 3)) (nI (s1 % 3)) (nI a) (nI b)))) + ((f 17 2) * (m_money f 2 h (nI ((s1 / 3) % 3)) (nI (s1 % 3)) (nI a) (nI b))))), (12, .int (nI 2)), (10, .int (nI (((9 * (m_to f h (nI (s1 / 9)) (nI a) (nI b))) + (3 * a)) + b))), (9, .int (nI (s1 % 3))), (8, .int (nI ((s1 / 3) % 3))), (7, .int (nI (s1 / 9))), (0, .ref (r 0)), (1, .int (-1)), (2, .int (nI h)), (3, .int (nI s1)), (4, .int t), (5, .int (nI a)), (6, .int (nI b))]) hx hb dX5_brings_194 hl (by decide) rfl (fun ls hl => ?_)
              refine lv_iinc (v := (nI 3)) (lv' := [(12, .int (nI 3)), (11, .int ((((C ((369 * (h + 1)) + (((9 * (m_to f h (nI (s1 / 9)) (nI a) (nI b))) + (3 * a)) + b))) + ((f 17 0) * (m_money f 0 h (nI ((s1 / 3) % 3)) (nI (s1 % 3)) (nI a) (nI b)))) + ((f 17 1) * (m_money f 1 h (nI ((s1 / 3) % 3)) (nI (s1 % 3)) (nI a) (nI b)))) + ((f 17 2) * (m_money f 2 h (nI ((s1 / 3) % 3)) (nI (s1 % 3)) (nI a) (nI b))))), (10, .int (nI (((9 * (m_to f h (nI (s1 / 9)) (nI a) (nI b))) + (3 * a)) + b))), (9, .int (nI (s1 % 3))), (8, .int (nI ((s1 / 3) % 3))), (7, .int (nI (s1 / 9))), (0, .ref (r 0)), (1, .int (-1)), (2, .int (nI h)), (3, .int (nI s1)), (4, .int t), (5, .int (nI a)), (6, .int (nI b))]) hx hb dX5_brings_196 hl (k := 1) rfl (nI_1 _) (by decide) rfl (fun ls hl => ?_)
              refine lv_goto (tgt := 162) hx hb dX5_brings_199 (by decide) ?_
              refine lv_iload hx hb dX5_brings_162 (lv_at hl 0 rfl) ?_
              refine lv_iconst (v := 3) hx hb dX5_brings_164 (by decide) ?_
              refine n_icmp_ge (tgt := 202) (a := 3) (b := 3) hx hb dX5_brings_165 (by decide) (by omega) (by omega) (fun c_7 => ?_) (fun c_7 => ?_)
              · skip
                refine lv_iload hx hb dX5_brings_202 (lv_at hl 1 rfl) ?_
                exact r_ret hx hb hr hlocks (by first | rfl | (simp [m_br, m_finA, c_1, c_2, c_3, c_4, c_5, c_6, c_7]; done) | (simp only [m_br, m_finA, c_1, c_2, c_3, c_4, c_5, c_6, c_7, if_true, if_false, reduceIte, not_true_eq_false, not_false_eq_true]; done) | (simp only [m_br, m_finA]; split <;> first | rfl | (simp_all; done) | omega) | (simp_all [m_br, m_finA]; done)) dX5_brings_204
              · skip
                exact absurd c_7 (by decide)
      · skip
        refine lv_ldc hx hb hown (hts _ (List.mem_of_getElem? (i := 1) rfl)) dX5_brings_156 ?_
        exact r_ret hx hb hr hlocks (by first | rfl | (simp [m_br, m_finA, c_1, c_2, c_3]; done) | (simp only [m_br, m_finA, c_1, c_2, c_3, if_true, if_false, reduceIte, not_true_eq_false, not_false_eq_true]; done) | (simp only [m_br, m_finA]; split <;> first | rfl | (simp_all; done) | omega) | (simp_all [m_br, m_finA]; done)) dX5_brings_158
    · skip
      exact absurd c_2 (by decide)
  · skip
    refine lv_ldc hx hb hown (hts _ (List.mem_of_getElem? (i := 1) rfl)) dX5_brings_41 ?_
    exact r_ret hx hb hr hlocks (by first | rfl | (simp [m_br, m_finA, c_1]; done) | (simp only [m_br, m_finA, c_1, if_true, if_false, reduceIte, not_true_eq_false, not_false_eq_true]; done) | (simp only [m_br, m_finA]; split <;> first | rfl | (simp_all; done) | omega) | (simp_all [m_br, m_finA]; done)) dX5_brings_43
