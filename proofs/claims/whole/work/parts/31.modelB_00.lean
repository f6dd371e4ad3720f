theorem Int32_ge {x lo : Int32} (h : ¬ x < lo) : lo.toInt ≤ x.toInt := by
  rcases Int.lt_or_le x.toInt lo.toInt with q | q
  · exact absurd (Int32.lt_iff_toInt_lt.mpr q) h
  · exact q
theorem in_nat {x hi : Int32} (h : m_in x 0 hi) (h40 : hi.toInt ≤ 40) : x = nI x.toNatClampNeg ∧ x.toNatClampNeg ≤ 40 := by
  have h1 := Int32_ge h.1
  have h2 := Int32_ge h.2
  have h0 : (0 : Int32).toInt = 0 := rfl
  obtain ⟨j, hj, e⟩ := nI_of (x := x) h.1
  have h3 : (j : Int) ≤ 40 := by
    have := nI_toInt hj
    rw [e, this] at h2
    omega
  rw [e, nI_clamp hj]
  exact ⟨rfl, by omega⟩
def m_to (f : Nat → Nat → Int32) (h : Nat) (u a b : Int32) : Nat := (u + f 8 h - m_loses f a b).toNatClampNeg
theorem m_to_eq {v : Nat → Int32} {f : Nat → Nat → Int32} {h : Nat} {u l p q a b : Int32} (hl : m_legal v f h u l p q a b) (h40 : (v 2).toInt ≤ 40) : u + f 8 h - m_loses f a b = nI (m_to f h u a b) := (in_nat hl.1.1 h40).1
theorem m_to_le {v : Nat → Int32} {f : Nat → Nat → Int32} {h : Nat} {u l p q a b : Int32} (hl : m_legal v f h u l p q a b) (h40 : (v 2).toInt ≤ 40) : m_to f h u a b ≤ 40 := (in_nat hl.1.1 h40).2
/-- NEVER -/
abbrev nev : Int32 := -1000000000
/-- the reference's value of a state from an hour on, in a world / for all -/
abbrev m_leg (v : Nat → Int32) (f : Nat → Nat → Int32) (h s : Nat) (t : Int32) (a b : Nat) : Prop := m_legal v f h (nI (s / 9)) (t - nI (s / 9)) (nI ((s / 3) % 3)) (nI (s % 3)) (nI a) (nI b)
abbrev m_mon (f : Nat → Nat → Int32) (w h s a b : Nat) : Int32 := m_money f w h (nI ((s / 3) % 3)) (nI (s % 3)) (nI a) (nI b)
abbrev m_then (f : Nat → Nat → Int32) (h s a b : Nat) : Nat := 9 * m_to f h (nI (s / 9)) (nI a) (nI b) + 3 * a + b
noncomputable def m_br (v : Nat → Int32) (f : Nat → Nat → Int32) (h s : Nat) (t : Int32) (a b : Nat) (nx : Nat → Int32) (fin : Int32 → Int32) : Int32 := @ite Int32 (m_leg v f h s t a b) (Classical.propDecidable _) (if nx (m_then f h s a b) = nev then nev else fin (nx (m_then f h s a b))) nev
abbrev m_finW (f : Nat → Nat → Int32) (w h s a b : Nat) (x : Int32) : Int32 := x + m_mon f w h s a b
abbrev m_finA (f : Nat → Nat → Int32) (h s a b : Nat) (x : Int32) : Int32 := x + f 17 0 * m_mon f 0 h s a b + f 17 1 * m_mon f 1 h s a b + f 17 2 * m_mon f 2 h s a b
noncomputable abbrev m_brW (v : Nat → Int32) (f : Nat → Nat → Int32) (B : Nat → Int32) (w h s : Nat) (t : Int32) (a b : Nat) : Int32 := m_br v f h s t a b (fun k => B (9225 * w + 369 * (h + 1) + k)) (m_finW f w h s a b)
noncomputable abbrev m_brA (v : Nat → Int32) (f : Nat → Nat → Int32) (C : Nat → Int32) (h s : Nat) (t : Int32) (a b : Nat) : Int32 := m_br v f h s t a b (fun k => C (369 * (h + 1) + k)) (m_finA f h s a b)
def m_mx (x y : Int32) : Int32 := if x ≤ y then y else x
theorem m_mx_le {x y : Int32} (h : x ≤ y) : y = m_mx x y := (if_pos h).symm
theorem m_mx_gt {x y : Int32} (h : ¬ x ≤ y) : x = m_mx x y := (if_neg h).symm
def m_b9 (g : Nat → Nat → Int32) : Int32 := m_mx (g 2 2) (m_mx (g 2 1) (m_mx (g 2 0) (m_mx (g 1 2) (m_mx (g 1 1) (m_mx (g 1 0) (m_mx (g 0 2) (m_mx (g 0 1) (m_mx (g 0 0) nev))))))))
def m_wt (f : Nat → Nat → Int32) (B : Nat → Int32) (h s : Nat) : Int32 := if B (0 + 369 * h + s) = nev then nev else if B (9225 + 369 * h + s) = nev then nev else if B (18450 + 369 * h + s) = nev then nev else 0 + f 17 0 * B (0 + 369 * h + s) + f 17 1 * B (9225 + 369 * h + s) + f 17 2 * B (18450 + 369 * h + s)
set_option maxHeartbeats 4000000 in
set_option maxRecDepth 100000 in
theorem c_X5_weighed (l : Launch) (E : GG) (r : Nat → Nat) (v : Nat → Int32) (f : Nat → Nat → Int32) (B C : Nat → Int32) (h : Nat) (s1 : Nat) (hh : h < 25) (hs : s1 < 369) : Met l yX5_weighed wsX5_weighed (Rm 0 0 0) (pR E [.ref (r 0), .int (nI h), .int (nI s1)] (MW E r v f B C)) (QcRead (m_wt f B h s1)) 0 0 (fun _ => False) := by
  refine ofR (by decide) rfl (Nat.le_of_ble_eq_true rfl) ?_
  intro p e s m below meth c hx hb hr hlocks hml hown hts hK hP ls hl
  have hl : lv_has ls 6 [(0, .ref (r 0)), (1, .int (nI h)), (2, .int (nI s1))] := hl
  refine lv_iconst (v := 0) hx hb dX5_weighed_0 (by decide) ?_
  refine lv_istore_n (lv' := [(3, .int 0), (0, .ref (r 0)), (1, .int (nI h)), (2, .int (nI s1))]) hx hb dX5_weighed_1 rfl hl (by decide) rfl (fun ls hl => ?_)
  refine lv_iconst (v := 0) hx hb dX5_weighed_2 (by decide) ?_
  refine lv_istore (lv' := [(4, .int 0), (3, .int 0), (0, .ref (r 0)), (1, .int (nI h)), (2, .int (nI s1))]) hx hb dX5_weighed_3 hl (by decide) rfl (fun ls hl => ?_)
  refine lv_iload hx hb dX5_weighed_5 (lv_at hl 0 rfl) ?_
  refine lv_iconst (v := 3) hx hb dX5_weighed_7 (by decide) ?_
  refine n_icmp_ge (tgt := 61) (a := 0) (b := 3) hx hb dX5_weighed_8 (by decide) (by omega) (by omega) (fun c_1 => ?_) (fun c_1 => ?_)
  · skip
    exact absurd c_1 (by decide)
  · skip
    refine lv_aload_n hx hb dX5_weighed_11 rfl (lv_at hl 2 rfl) ?_
    refine va_get (D := E.1) (ci := 5) (v := .ref (r 24)) (C := RX5) (T := TX5) (N := 26) hx hb hts (fun _ h => (List.mem_cons_of_mem _ (List.mem_append_right _ h))) hown hK.1 hP 0 rfl rfl 24 (by decide) (hts _ (List.mem_of_getElem? (i := 1) rfl)) (fun _ h9 => h9) rfl dX5_weighed_12 ?_
    refine lv_sipush (v := 9225) hx hb dX5_weighed_15 (by decide) ?_
    refine lv_iload hx hb dX5_weighed_18 (lv_at hl 0 rfl) ?_
    refine lv_imul hx hb dX5_weighed_20 ?_
    refine w_top (show (9225 * 0) = (nI 0) from pk_mul _ _) ?_
    refine lv_sipush (v := 369) hx hb dX5_weighed_21 (by decide) ?_
    refine lv_iload_n hx hb dX5_weighed_24 rfl (lv_at hl 3 rfl) ?_
    refine lv_imul hx hb dX5_weighed_25 ?_
    refine w_top (show (369 * (nI h)) = (nI (369 * h)) from pk_mul _ _) ?_
    refine lv_iadd hx hb dX5_weighed_26 ?_
    refine w_top (show ((nI 0) + (nI (369 * h))) = (nI (0 + (369 * h))) from nI_add _ _) ?_
    refine lv_iload_n hx hb dX5_weighed_27 rfl (lv_at hl 4 rfl) ?_
    refine lv_iadd hx hb dX5_weighed_28 ?_
    refine w_top (show ((nI (0 + (369 * h))) + (nI s1)) = (nI ((0 + (369 * h)) + s1)) from nI_add _ _) ?_
    refine n_iald (f := B) hx hb hK.1 hP 14 0 rfl rfl (i := (0 + (369 * h)) + s1) (by omega) (by decide) dX5_weighed_29 ?_
    refine lv_istore (lv' := [(5, .int (B ((0 + (369 * h)) + s1))), (4, .int 0), (3, .int 0), (0, .ref (r 0)), (1, .int (nI h)), (2, .int (nI s1))]) hx hb dX5_weighed_30 hl (by decide) rfl (fun ls hl => ?_)
    refine lv_iload hx hb dX5_weighed_32 (lv_at hl 0 rfl) ?_
    refine lv_ldc hx hb hown (hts _ (List.mem_of_getElem? (i := 2) rfl)) dX5_weighed_34 ?_
    refine lv_icmp_ne (tgt := 42) hx hb dX5_weighed_36 (by decide) (fun c_2 => ?_) (fun c_2 => ?_)
    · skip
      refine lv_iload_n hx hb dX5_weighed_42 rfl (lv_at hl 2 rfl) ?_
      refine lv_aload_n hx hb dX5_weighed_43 rfl (lv_at hl 3 rfl) ?_
      refine va_get (D := E.1) (ci := 5) (v := .ref (r 17)) (C := RX5) (T := TX5) (N := 26) hx hb hts (fun _ h => (List.mem_cons_of_mem _ (List.mem_append_right _ h))) hown hK.1 hP 0 rfl rfl 17 (by decide) (hts _ (List.mem_of_getElem? (i := 3) rfl)) (fun _ h9 => h9) rfl dX5_weighed_44 ?_
      refine lv_iload hx hb dX5_weighed_47 (lv_at hl 1 rfl) ?_
      refine n_iald (f := f 17) hx hb hK.1 hP 10 0 rfl rfl (i := 0) (by omega) (by decide) dX5_weighed_49 ?_
      refine lv_iload hx hb dX5_weighed_50 (lv_at hl 0 rfl) ?_
      refine lv_imul hx hb dX5_weighed_52 ?_
      refine lv_iadd hx hb dX5_weighed_53 ?_
      refine lv_istore_n (lv' := [(3, .int (0 + ((f 17 0) * (B ((0 + (369 * h)) + s1))))), (5, .int (B ((0 + (369 * h)) + s1))), (4, .int 0), (0, .ref (r 0)), (1, .int (nI h)), (2, .int (nI s1))]) hx hb dX5_weighed_54 rfl hl (by decide) rfl (fun ls hl => ?_)
      refine lv_iinc (v := (nI 1)) (lv' := [(4, .int (nI 1)), (3, .int (0 + ((f 17 0) * (B ((0 + (369 * h)) + s1))))), (5, .int (B ((0 + (369 * h)) + s1))), (0, .ref (r 0)), (1, .int (nI h)), (2, .int (nI s1))]) hx hb dX5_weighed_55 hl (k := 2) rfl (nI_1 _) (by decide) rfl (fun ls hl => ?_)
      refine lv_goto (tgt := 5) hx hb dX5_weighed_58 (by decide) ?_
      refine lv_iload hx hb dX5_weighed_5 (lv_at hl 0 rfl) ?_
      refine lv_iconst (v := 3) hx hb dX5_weighed_7 (by decide) ?_
      refine n_icmp_ge (tgt := 61) (a := 1) (b := 3) hx hb dX5_weighed_8 (by decide) (by omega) (by omega) (fun c_3 => ?_) (fun c_3 => ?_)
      · skip
        exact absurd c_3 (by decide)
      · skip
        refine lv_aload_n hx hb dX5_weighed_11 rfl (lv_at hl 3 rfl) ?_
        refine va_get (D := E.1) (ci := 5) (v := .ref (r 24)) (C := RX5) (T := TX5) (N := 26) hx hb hts (fun _ h => (List.mem_cons_of_mem _ (List.mem_append_right _ h))) hown hK.1 hP 0 rfl rfl 24 (by decide) (hts _ (List.mem_of_getElem? (i := 1) rfl)) (fun _ h9 => h9) rfl dX5_weighed_12 ?_
        refine lv_sipush (v := 9225) hx hb dX5_weighed_15 (by decide) ?_
        refine lv_iload hx hb dX5_weighed_18 (lv_at hl 0 rfl) ?_
        refine lv_imul hx hb dX5_weighed_20 ?_
        refine w_top (show (9225 * (nI 1)) = (nI 9225) from pk_mul _ _) ?_
        refine lv_sipush (v := 369) hx hb dX5_weighed_21 (by decide) ?_
        refine lv_iload_n hx hb dX5_weighed_24 rfl (lv_at hl 4 rfl) ?_
        refine lv_imul hx hb dX5_weighed_25 ?_
        refine w_top (show (369 * (nI h)) = (nI (369 * h)) from pk_mul _ _) ?_
        refine lv_iadd hx hb dX5_weighed_26 ?_
        refine w_top (show ((nI 9225) + (nI (369 * h))) = (nI (9225 + (369 * h))) from nI_add _ _) ?_
        refine lv_iload_n hx hb dX5_weighed_27 rfl (lv_at hl 5 rfl) ?_
        refine lv_iadd hx hb dX5_weighed_28 ?_
        refine w_top (show ((nI (9225 + (369 * h))) + (nI s1)) = (nI ((9225 + (369 * h)) + s1)) from nI_add _ _) ?_
        refine n_iald (f := B) hx hb hK.1 hP 14 0 rfl rfl (i := (9225 + (369 * h)) + s1) (by omega) (by decide) dX5_weighed_29 ?_
        refine lv_istore (lv' := [(5, .int (B ((9225 + (369 * h)) + s1))), (4, .int (nI 1)), (3, .int (0 + ((f 17 0) * (B ((0 + (369 * h)) + s1))))), (0, .ref (r 0)), (1, .int (nI h)), (2, .int (nI s1))]) hx hb dX5_weighed_30 hl (by decide) rfl (fun ls hl => ?_)
        refine lv_iload hx hb dX5_weighed_32 (lv_at hl 0 rfl) ?_
        refine lv_ldc hx hb hown (hts _ (List.mem_of_getElem? (i := 2) rfl)) dX5_weighed_34 ?_
        refine lv_icmp_ne (tgt := 42) hx hb dX5_weighed_36 (by decide) (fun c_4 => ?_) (fun c_4 => ?_)
        · skip
          refine lv_iload_n hx hb dX5_weighed_42 rfl (lv_at hl 2 rfl) ?_
          refine lv_aload_n hx hb dX5_weighed_43 rfl (lv_at hl 3 rfl) ?_
          refine va_get (D := E.1) (ci := 5) (v := .ref (r 17)) (C := RX5) (T := TX5) (N := 26) hx hb hts (fun _ h => (List.mem_cons_of_mem _ (List.mem_append_right _ h))) hown hK.1 hP 0 rfl rfl 17 (by decide) (hts _ (List.mem_of_getElem? (i := 3) rfl)) (fun _ h9 => h9) rfl dX5_weighed_44 ?_
          refine lv_iload hx hb dX5_weighed_47 (lv_at hl 1 rfl) ?_
          refine n_iald (f := f 17) hx hb hK.1 hP 10 0 rfl rfl (i := 1) (by omega) (by decide) dX5_weighed_49 ?_
          refine lv_iload hx hb dX5_weighed_50 (lv_at hl 0 rfl) ?_
          refine lv_imul hx hb dX5_weighed_52 ?_
          refine lv_iadd hx hb dX5_weighed_53 ?_
          refine lv_istore_n (lv' := [(3, .int ((0 + ((f 17 0) * (B ((0 + (369 * h)) + s1)))) + ((f 17 1) * (B ((9225 + (369 * h)) + s1))))), (5, .int (B ((9225 + (369 * h)) + s1))), (4, .int (nI 1)), (0, .ref (r 0)), (1, .int (nI h)), (2, .int (nI s1))]) hx hb dX5_weighed_54 rfl hl (by decide) rfl (fun ls hl => ?_)
          refine lv_iinc (v := (nI 2)) (lv' := [(4, .int (nI 2)), (3, .int ((0 + ((f 17 0) * (B ((0 + (369 * h)) + s1)))) + ((f 17 1) * (B ((9225 + (369 * h)) + s1))))), (5, .int (B ((9225 + (369 * h)) + s1))), (0, .ref (r 0)), (1, .int (nI h)), (2, .int (nI s1))]) hx hb dX5_weighed_55 hl (k := 2) rfl (nI_1 _) (by decide) rfl (fun ls hl => ?_)
          refine lv_goto (tgt := 5) hx hb dX5_weighed_58 (by decide) ?_
          refine lv_iload hx hb dX5_weighed_5 (lv_at hl 0 rfl) ?_
          refine lv_iconst (v := 3) hx hb dX5_weighed_7 (by decide) ?_
          refine n_icmp_ge (tgt := 61) (a := 2) (b := 3) hx hb dX5_weighed_8 (by decide) (by omega) (by omega) (fun c_5 => ?_) (fun c_5 => ?_)
          · skip
            exact absurd c_5 (by decide)
          · skip
            refine lv_aload_n hx hb dX5_weighed_11 rfl (lv_at hl 3 rfl) ?_
            refine va_get (D := E.1) (ci := 5) (v := .ref (r 24)) (C := RX5) (T := TX5) (N := 26) hx hb hts (fun _ h => (List.mem_cons_of_mem _ (List.mem_append_right _ h))) hown hK.1 hP 0 rfl rfl 24 (by decide) (hts _ (List.mem_of_getElem? (i := 1) rfl)) (fun _ h9 => h9) rfl dX5_weighed_12 ?_
            refine lv_sipush (v := 9225) hx hb dX5_weighed_15 (by decide) ?_
            refine lv_iload hx hb dX5_weighed_18 (lv_at hl 0 rfl) ?_
            refine lv_imul hx hb dX5_weighed_20 ?_
            refine w_top (show (9225 * (nI 2)) = (nI 18450) from pk_mul _ _) ?_
            refine lv_sipush (v := 369) hx hb dX5_weighed_21 (by decide) ?_
            refine lv_iload_n hx hb dX5_weighed_24 rfl (lv_at hl 4 rfl) ?_
            refine lv_imul hx hb dX5_weighed_25 ?_
            refine w_top (show (369 * (nI h)) = (nI (369 * h)) from pk_mul _ _) ?_
            refine lv_iadd hx hb dX5_weighed_26 ?_
            refine w_top (show ((nI 18450) + (nI (369 * h))) = (nI (18450 + (369 * h))) from nI_add _ _) ?_
            refine lv_iload_n hx hb dX5_weighed_27 rfl (lv_at hl 5 rfl) ?_
            refine lv_iadd hx hb dX5_weighed_28 ?_
            refine w_top (show ((nI (18450 + (369 * h))) + (nI s1)) = (nI ((18450 + (369 * h)) + s1)) from nI_add _ _) ?_
            refine n_iald (f := B) hx hb hK.1 hP 14 0 rfl rfl (i := (18450 + (369 * h)) + s1) (by omega) (by decide) dX5_weighed_29 ?_
            refine lv_istore (lv' := [(5, .int (B ((18450 + (369 * h)) + s1))), (4, .int (nI 2)), (3, .int ((0 + ((f 17 0) * (B ((0 + (369 * h)) + s1)))) + ((f 17 1) * (B ((9225 + (369 * h)) + s1))))), (0, .ref (r 0)), (1, .int (nI h)), (2, .int (nI s1))]) hx hb dX5_weighed_30 hl (by decide) rfl (fun ls hl => ?_)
            refine lv_iload hx hb dX5_weighed_32 (lv_at hl 0 rfl) ?_
            refine lv_ldc hx hb hown (hts _ (List.mem_of_getElem? (i := 2) rfl)) dX5_weighed_34 ?_
            refine lv_icmp_ne (tgt := 42) hx hb dX5_weighed_36 (by decide) (fun c_6 => ?_) (fun c_6 => ?_)
            · skip
              refine lv_iload_n hx hb dX5_weighed_42 rfl (lv_at hl 2 rfl) ?_
              refine lv_aload_n hx hb dX5_weighed_43 rfl (lv_at hl 3 rfl) ?_
              refine va_get (D := E.1) (ci := 5) (v := .ref (r 17)) (C := RX5) (T := TX5) (N := 26) hx hb hts (fun _ h => (List.mem_cons_of_mem _ (List.mem_append_right _ h))) hown hK.1 hP 0 rfl rfl 17 (by decide) (hts _ (List.mem_of_getElem? (i := 3) rfl)) (fun _ h9 => h9) rfl dX5_weighed_44 ?_
              refine lv_iload hx hb dX5_weighed_47 (lv_at hl 1 rfl) ?_
              refine n_iald (f := f 17) hx hb hK.1 hP 10 0 rfl rfl (i := 2) (by omega) (by decide) dX5_weighed_49 ?_
              refine lv_iload hx hb dX5_weighed_50 (lv_at hl 0 rfl) ?_
              refine lv_imul hx hb dX5_weighed_52 ?_
              refine lv_iadd hx hb dX5_weighed_53 ?_
              refine lv_istore_n (lv' := [(3, .int (((0 + ((f 17 0) * (B ((0 + (369 * h)) + s1)))) + ((f 17 1) * (B ((9225 + (369 * h)) + s1)))) + ((f 17 2) * (B ((18450 + (369 * h)) + s1))))), (5, .int (B ((18450 + (369 * h)) + s1))), (4, .int (nI 2)), (0, .ref (r 0)), (1, .int (nI h)), (2, .int (nI s1))]) hx hb dX5_weighed_54 rfl hl (by decide) rfl (fun ls hl => ?_)
              refine lv_iinc (v := (nI 3)) (lv' := [(4, .int (nI 3)), (3, .int (((0 + ((f 17 0) * (B ((0 + (369 * h)) + s1)))) + ((f 17 1) * (B ((9225 + (369 * h)) + s1)))) + ((f 17 2) * (B ((18450 + (369 * h)) + s1))))), (5, .int (B ((18450 + (369 * h)) + s1))), (0, .ref (r 0)), (1, .int (nI h)), (2, .int (nI s1))]) hx hb dX5_weighed_55 hl (k := 2) rfl (nI_1 _) (by decide) rfl (fun ls hl => ?_)
              refine lv_goto (tgt := 5) hx hb dX5_weighed_58 (by decide) ?_
              refine lv_iload hx hb dX5_weighed_5 (lv_at hl 0 rfl) ?_
              refine lv_iconst (v := 3) hx hb dX5_weighed_7 (by decide) ?_
              refine n_icmp_ge (tgt := 61) (a := 3) (b := 3) hx hb dX5_weighed_8 (by decide) (by omega) (by omega) (fun c_7 => ?_) (fun c_7 => ?_)
              · skip
                refine lv_iload_n hx hb dX5_weighed_61 rfl (lv_at hl 1 rfl) ?_
                exact r_ret hx hb hr hlocks (by first | rfl | (simp [m_wt, c_1, c_2, c_3, c_4, c_5, c_6, c_7]; done) | (simp only [m_wt, c_1, c_2, c_3, c_4, c_5, c_6, c_7, if_true, if_false, reduceIte, not_true_eq_false, not_false_eq_true]; done) | (simp only [m_wt]; split <;> first | rfl | (simp_all; done) | omega) | (simp_all [m_wt]; done)) dX5_weighed_62
              · skip
                exact absurd c_7 (by decide)
            · skip
              refine lv_ldc hx hb hown (hts _ (List.mem_of_getElem? (i := 2) rfl)) dX5_weighed_39 ?_
              exact r_ret hx hb hr hlocks (by first | rfl | (simp [m_wt, c_1, c_2, c_3, c_4, c_5, c_6]; done) | (simp only [m_wt, c_1, c_2, c_3, c_4, c_5, c_6, if_true, if_false, reduceIte, not_true_eq_false, not_false_eq_true]; done) | (simp only [m_wt]; split <;> first | rfl | (simp_all; done) | omega) | (simp_all [m_wt]; done)) dX5_weighed_41
        · skip
          refine lv_ldc hx hb hown (hts _ (List.mem_of_getElem? (i := 2) rfl)) dX5_weighed_39 ?_
          exact r_ret hx hb hr hlocks (by first | rfl | (simp [m_wt, c_1, c_2, c_3, c_4]; done) | (simp only [m_wt, c_1, c_2, c_3, c_4, if_true, if_false, reduceIte, not_true_eq_false, not_false_eq_true]; done) | (simp only [m_wt]; split <;> first | rfl | (simp_all; done) | omega) | (simp_all [m_wt]; done)) dX5_weighed_41
    · skip
      refine lv_ldc hx hb hown (hts _ (List.mem_of_getElem? (i := 2) rfl)) dX5_weighed_39 ?_
      exact r_ret hx hb hr hlocks (by first | rfl | (simp [m_wt, c_1, c_2]; done) | (simp only [m_wt, c_1, c_2, if_true, if_false, reduceIte, not_true_eq_false, not_false_eq_true]; done) | (simp only [m_wt]; split <;> first | rfl | (simp_all; done) | omega) | (simp_all [m_wt]; done)) dX5_weighed_41
