theorem okB_dn {v : Nat → Int32} {f : Nat → Nat → Int32} {sg B : Nat → Int32} {h : Nat} (hB : okB v f sg (h + 1) B) (hs : okBs v f sg h 369 B) : okB v f sg h B := by
  intro w h' s h1 h2 h3 h4
  by_cases e : h' = h
  · subst e; exact hs w s h1 h4
  · exact hB w h' s h1 (by omega) h3 h4
theorem okC_dn {v : Nat → Int32} {f : Nat → Nat → Int32} {sg C : Nat → Int32} {rv h : Nat} (hC : okC v f sg rv (h + 1) C) (hs : okCs v f sg rv h 369 C) : okC v f sg rv h C := by
  intro h' s h2 h3 h4
  by_cases e : h' = h
  · subst e; exact hs s h4
  · exact hC h' s (by omega) h3 h4
set_option maxHeartbeats 4000000 in
set_option maxRecDepth 100000 in
theorem c_X5_laysOut (l : Launch) (E : GG) (r : Nat → Nat) (v : Nat → Int32) (f : Nat → Nat → Int32) (B C : Nat → Int32) (sz : Nat) (t : Int32) (nw rv : Nat) (hnw : v 1 = nI nw) (hn24 : nw ≤ 24) (hrv : v 19 = nI rv) (hr24 : rv ≤ 24) (h40 : (v 2).toInt ≤ 40) : Met l yX5_laysOut wsX5_laysOut (Rm 5 1 25) (pM E [.ref (r 0), .int t] (MW E r v f B C) sz) (va_Qv (fun (u : MS) => u.1 = v ∧ u.2.1 = f ∧ okB v f (m_sg f nw t) nw u.2.2.1 ∧ okC v f (m_sg f nw t) rv nw u.2.2.2) (bM E (va_A (MW E r v f B C) sz) (MWu E r)) (va_A (MW E r v f B C) sz)) 1 25 (va_A (MW E r v f B C) sz) := by
  refine ofM (by decide) rfl (Nat.le_of_ble_eq_true rfl) ?_
  intro p e s m below meth c A hx hb hr hlocks hml hown hin hts hK hP hD hS hA hsz hAe ls hl
  rw [← hAe]
  have hl : lv_has ls 6 [(0, .ref (r 0)), (1, .int t)] := hl
  refine lv_bipush (v := 25) hx hb dX5_laysOut_0 (by decide) ?_
  refine n_newI (N := 25) hx hb (hts _ (List.mem_of_getElem? (i := 1) rfl)) hK hP hD hS hA (by decide) (by decide) (by decide) (Nat.le_of_ble_eq_true rfl) (Nat.le_of_ble_eq_true rfl) dX5_laysOut_2 (fun q_1 H hP hD hS => ?_)
  have hP : va_P E.1 vwCl (MW E r v f B C ++ [(q_1, .inl (E.2 0, 25, .inl (fun _ => 0)))]) H := hP
  have hD : va_D A (MW E r v f B C ++ [(q_1, .inl (E.2 0, 25, .inl (fun _ => 0)))]) := hD
  refine lv_astore_n (lv' := [(2, .ref q_1), (0, .ref (r 0)), (1, .int t)]) hx hb dX5_laysOut_4 rfl hl (by decide) rfl (fun ls hl => ?_)
  refine lv_aload_n hx hb dX5_laysOut_5 rfl (lv_at hl 0 rfl) ?_
  refine lv_aload_n hx hb dX5_laysOut_6 rfl (lv_at hl 1 rfl) ?_
  refine va_get (D := E.1) (ci := 5) (v := .int (v 1)) (C := RX5) (T := TX5) (N := 26) hx hb hts (fun _ h => (List.mem_cons_of_mem _ (List.mem_append_right _ h))) hown hK.1 hP 0 rfl rfl 1 (by decide) (hts _ (List.mem_of_getElem? (i := 2) rfl)) (fun _ h9 => h9) rfl dX5_laysOut_7 ?_
  refine w_top (show (v 1) = nI nw from hnw) ?_
  refine lv_iload_n hx hb dX5_laysOut_10 rfl (lv_at hl 2 rfl) ?_
  refine n_iast (f := (fun _ => 0)) hx hb hK.1 hP hD hS 16 0 rfl rfl (i := nw) (by omega) (by decide) dX5_laysOut_11 (fun H locs hP hD hS => ?_)
  have hP : va_P E.1 vwCl (MW E r v f B C ++ [(q_1, .inl (E.2 0, 25, .inl (upd (fun _ => 0) nw t)))]) H := hP
  have hD : va_D A (MW E r v f B C ++ [(q_1, .inl (E.2 0, 25, .inl (upd (fun _ => 0) nw t)))]) := hD
  refine lv_aload_n hx hb dX5_laysOut_12 rfl (lv_at hl 1 rfl) ?_
  refine va_get (D := E.1) (ci := 5) (v := .int (v 1)) (C := RX5) (T := TX5) (N := 26) hx hb hts (fun _ h => (List.mem_cons_of_mem _ (List.mem_append_right _ h))) hown hK.1 hP 0 rfl rfl 1 (by decide) (hts _ (List.mem_of_getElem? (i := 2) rfl)) (fun _ h9 => h9) rfl dX5_laysOut_13 ?_
  refine w_top (show (v 1) = nI nw from hnw) ?_
  refine lv_istore_n (lv' := [(3, .int (nI nw)), (2, .ref q_1), (0, .ref (r 0)), (1, .int t)]) hx hb dX5_laysOut_16 rfl hl (by decide) rfl (fun ls hl => ?_)
  refine w_while (σ := Heap × List Loc × Array Slot × Nat × (Nat → Int32)) (fun ⟨H, locs, ls, h, g⟩ => 24 - h) (fun ⟨H, locs, ls, h, g⟩ => va_P E.1 vwCl (MW E r v f B C ++ [(q_1, .inl (E.2 0, 25, .inl g))]) H ∧ va_D A (MW E r v f B C ++ [(q_1, .inl (E.2 0, 25, .inl g))]) ∧ va_S A s.heap H locs ∧ lv_has ls 6 [(0, .ref (r 0)), (1, .int t), (2, .ref q_1), (3, .int (nI h))] ∧ nw ≤ h ∧ h ≤ 24 ∧ ∀ k, nw ≤ k → k ≤ h → g k = m_sg f nw t k) (fun ⟨H, locs, ls, h, g⟩ => H) (fun ⟨H, locs, ls, h, g⟩ => locs) (fun ⟨H, locs, ls, h, g⟩ => F0 m 17 ls []) ?_ (H, locs, ls, nw, upd (fun _ => 0) nw t) ⟨hP, hD, hS, lv_sub hl [2, 3, 1, 0] rfl, Nat.le_refl _, hn24, m_sg_0'⟩
  rintro ⟨H, locs, ls, h, g⟩ ⟨hP, hD, hS, hl, h1, h2, hg⟩ ih17
  dsimp only at hP hD hS hl ⊢
  refine lv_iload_n hx hb dX5_laysOut_17 rfl (lv_at hl 3 rfl) ?_
  refine lv_bipush (v := 24) hx hb dX5_laysOut_18 (by decide) ?_
  refine n_icmp_ge (tgt := 51) (a := h) (b := 24) hx hb dX5_laysOut_20 (by decide) (by omega) (by omega) (fun c_2 => ?_) (fun c_2 => ?_)
  · skip
    obtain rfl : h = 24 := by omega
    refine lv_bipush (v := 24) hx hb dX5_laysOut_51 (by decide) ?_
    refine lv_istore_n (lv' := [(3, .int 24), (0, .ref (r 0)), (1, .int t), (2, .ref q_1)]) hx hb dX5_laysOut_53 rfl hl (by decide) rfl (fun ls hl => ?_)
    refine w_while (σ := Heap × List Loc × Array Slot × Nat × (Nat → Int32) × (Nat → Int32)) (fun ⟨H, locs, ls, j, B, C⟩ => j) (fun ⟨H, locs, ls, j, B, C⟩ => va_P E.1 vwCl (MW E r v f B C ++ [(q_1, .inl (E.2 0, 25, .inl g))]) H ∧ va_D A (MW E r v f B C ++ [(q_1, .inl (E.2 0, 25, .inl g))]) ∧ va_S A s.heap H locs ∧ lv_has ls 6 [(0, .ref (r 0)), (1, .int t), (2, .ref q_1), (3, .int (nI j - 1))] ∧ nw ≤ j ∧ j ≤ 25 ∧ okB v f (m_sg f nw t) j B ∧ okC v f (m_sg f nw t) rv j C) (fun ⟨H, locs, ls, j, B, C⟩ => H) (fun ⟨H, locs, ls, j, B, C⟩ => locs) (fun ⟨H, locs, ls, j, B, C⟩ => F0 m 54 ls []) ?_ (H, locs, ls, 25, B, C) ⟨hP, hD, hS, lv_sub hl [1, 2, 3, 0] rfl, by omega, Nat.le_refl _, fun w h s h1 h2 h3 => absurd h2 (by omega), fun h s h1 h2 => absurd h1 (by omega)⟩
    rintro ⟨H, locs, ls, j, B, C⟩ ⟨hP, hD, hS, hl, h3, h4, hB, hC⟩ ih54
    dsimp only at hP hD hS hl ⊢
    rcases Nat.eq_or_lt_of_le h3 with hj | hj
    · skip
      refine lv_iload_n hx hb dX5_laysOut_54 rfl (lv_at hl 3 rfl) ?_
      refine lv_aload_n hx hb dX5_laysOut_55 rfl (lv_at hl 0 rfl) ?_
      refine va_get (D := E.1) (ci := 5) (v := .int (v 1)) (C := RX5) (T := TX5) (N := 26) hx hb hts (fun _ h => (List.mem_cons_of_mem _ (List.mem_append_right _ h))) hown hK.1 hP 0 rfl rfl 1 (by decide) (hts _ (List.mem_of_getElem? (i := 2) rfl)) (fun _ h9 => h9) rfl dX5_laysOut_56 ?_
      refine w_top (show (v 1) = nI nw from hnw) ?_
      refine lv_icmp_lt (tgt := 199) hx hb dX5_laysOut_59 (by decide) (fun c_3 => ?_) (fun c_3 => ?_)
      · skip
        refine W.widen (k := 1) (n := 25) (Nat.le_of_ble_eq_true rfl) (Nat.le_of_ble_eq_true rfl) ?_
        exact qv_ret ((v, f, B, C) : MS) hx hb hr hlocks ⟨rfl, rfl, by rw [← hj] at hB; exact hB, by rw [← hj] at hC; exact hC⟩ (hP.sub (ws' := MW E r v f B C) [0, 1, 2, 3, 4, 5, 6, 7, 8, 9, 10, 11, 12, 13, 14, 15] rfl) (hD.sub (ws' := MW E r v f B C) [0, 1, 2, 3, 4, 5, 6, 7, 8, 9, 10, 11, 12, 13, 14, 15] (by decide) rfl) hS dX5_laysOut_199
      · skip
        exact absurd (by rw [← hj]; exact m1_lt (by omega)) c_3
    · obtain ⟨h, rfl⟩ : ∃ h, j = h + 1 := ⟨j - 1, by omega⟩
      rw [nI_pred] at hl
      refine lv_iload_n hx hb dX5_laysOut_54 rfl (lv_at hl 3 rfl) ?_
      refine lv_aload_n hx hb dX5_laysOut_55 rfl (lv_at hl 0 rfl) ?_
      refine va_get (D := E.1) (ci := 5) (v := .int (v 1)) (C := RX5) (T := TX5) (N := 26) hx hb hts (fun _ h => (List.mem_cons_of_mem _ (List.mem_append_right _ h))) hown hK.1 hP 0 rfl rfl 1 (by decide) (hts _ (List.mem_of_getElem? (i := 2) rfl)) (fun _ h9 => h9) rfl dX5_laysOut_56 ?_
      refine w_top (show (v 1) = nI nw from hnw) ?_
      refine n_icmp_lt (tgt := 199) (a := h) (b := nw) hx hb dX5_laysOut_59 (by decide) (by omega) (by omega) (fun c_4 => ?_) (fun c_4 => ?_)
      · skip
        exact absurd c_4 (by omega)
      · skip
        refine lv_iconst (v := 0) hx hb dX5_laysOut_62 (by decide) ?_
        refine lv_istore (lv' := [(4, .int 0), (0, .ref (r 0)), (1, .int t), (2, .ref q_1), (3, .int (nI h))]) hx hb dX5_laysOut_63 hl (by decide) rfl (fun ls hl => ?_)
        refine w_while (σ := Heap × List Loc × Array Slot × Nat × (Nat → Int32) × (Nat → Int32)) (fun ⟨H, locs, ls, s1, B, C⟩ => 369 - s1) (fun ⟨H, locs, ls, s1, B, C⟩ => va_P E.1 vwCl (MW E r v f B C ++ [(q_1, .inl (E.2 0, 25, .inl g))]) H ∧ va_D A (MW E r v f B C ++ [(q_1, .inl (E.2 0, 25, .inl g))]) ∧ va_S A s.heap H locs ∧ lv_has ls 6 [(0, .ref (r 0)), (1, .int t), (2, .ref q_1), (3, .int (nI h)), (4, .int (nI s1))] ∧ s1 ≤ 369 ∧ okB v f (m_sg f nw t) (h + 1) B ∧ okC v f (m_sg f nw t) rv (h + 1) C ∧ okBs v f (m_sg f nw t) h s1 B ∧ okCs v f (m_sg f nw t) rv h s1 C) (fun ⟨H, locs, ls, s1, B, C⟩ => H) (fun ⟨H, locs, ls, s1, B, C⟩ => locs) (fun ⟨H, locs, ls, s1, B, C⟩ => F0 m 65 ls []) ?_ (H, locs, ls, 0, B, C) ⟨hP, hD, hS, lv_sub hl [1, 2, 3, 4, 0] rfl, by omega, hB, hC, fun w s hw hs => absurd hs (Nat.not_lt_zero _), fun s hs => absurd hs (Nat.not_lt_zero _)⟩
        rintro ⟨H, locs, ls, s1, B, C⟩ ⟨hP, hD, hS, hl, h5, hB, hC, hBs, hCs⟩ ih65
        dsimp only at hP hD hS hl ⊢
        refine lv_iload hx hb dX5_laysOut_65 (lv_at hl 4 rfl) ?_
        refine lv_sipush (v := 369) hx hb dX5_laysOut_67 (by decide) ?_
        refine n_icmp_ge (tgt := 193) (a := s1) (b := 369) hx hb dX5_laysOut_70 (by decide) (by omega) (by omega) (fun c_5 => ?_) (fun c_5 => ?_)
        · skip
          have hs1 : s1 = 369 := by omega
          rw [hs1] at hBs hCs
          refine lv_iinc (v := (nI h - 1)) (lv' := [(3, .int (nI h - 1)), (0, .ref (r 0)), (1, .int t), (2, .ref q_1), (4, .int (nI s1))]) hx hb dX5_laysOut_193 hl (k := 3) rfl (m1_eq _) (by decide) rfl (fun ls hl => ?_)
          refine lv_goto (tgt := 54) hx hb dX5_laysOut_196 (by decide) ?_
          exact ih54 (H, locs, ls, h, B, C) ⟨hP, hD, hS, lv_sub hl [1, 2, 3, 0] rfl, by omega, by omega, okB_dn hB hBs, okC_dn hC hCs⟩ (by dsimp only; omega)
        · skip
          refine lv_iconst (v := 0) hx hb dX5_laysOut_73 (by decide) ?_
          refine lv_istore (lv' := [(5, .int 0), (0, .ref (r 0)), (1, .int t), (2, .ref q_1), (3, .int (nI h)), (4, .int (nI s1))]) hx hb dX5_laysOut_74 hl (by decide) rfl (fun ls hl => ?_)
          refine lv_iload hx hb dX5_laysOut_76 (lv_at hl 0 rfl) ?_
          refine lv_iconst (v := 3) hx hb dX5_laysOut_78 (by decide) ?_
          refine n_icmp_ge (tgt := 139) (a := 0) (b := 3) hx hb dX5_laysOut_79 (by decide) (by omega) (by omega) (fun c_6 => ?_) (fun c_6 => ?_)
          · skip
            exact absurd c_6 (by decide)
          · skip
            refine lv_aload_n hx hb dX5_laysOut_82 rfl (lv_at hl 1 rfl) ?_
            refine va_get (D := E.1) (ci := 5) (v := .ref (r 24)) (C := RX5) (T := TX5) (N := 26) hx hb hts (fun _ h => (List.mem_cons_of_mem _ (List.mem_append_right _ h))) hown hK.1 hP 0 rfl rfl 24 (by decide) (hts _ (List.mem_of_getElem? (i := 5) rfl)) (fun _ h9 => h9) rfl dX5_laysOut_83 ?_
            refine lv_sipush (v := 9225) hx hb dX5_laysOut_86 (by decide) ?_
            refine lv_iload hx hb dX5_laysOut_89 (lv_at hl 0 rfl) ?_
            refine lv_imul hx hb dX5_laysOut_91 ?_
            refine w_top (show (9225 * 0) = (nI 0) from pk_mul _ _) ?_
            refine lv_sipush (v := 369) hx hb dX5_laysOut_92 (by decide) ?_
            refine lv_iload_n hx hb dX5_laysOut_95 rfl (lv_at hl 4 rfl) ?_
            refine lv_imul hx hb dX5_laysOut_96 ?_
            refine w_top (show (369 * (nI h)) = (nI (369 * h)) from pk_mul _ _) ?_
            refine lv_iadd hx hb dX5_laysOut_97 ?_
            refine w_top (show ((nI 0) + (nI (369 * h))) = (nI (0 + (369 * h))) from nI_add _ _) ?_
            refine lv_iload hx hb dX5_laysOut_98 (lv_at hl 5 rfl) ?_
            refine lv_iadd hx hb dX5_laysOut_100 ?_
            refine w_top (show ((nI (0 + (369 * h))) + (nI s1)) = (nI ((0 + (369 * h)) + s1)) from nI_add _ _) ?_
            refine w_join (fun x : Int32 => x = mV v f (m_sg f nw t) 0 (24 - h) s1) (fun x => F0 m 132 ls (.int x :: [.int (nI ((0 + (369 * h)) + s1)), .ref (r 24)])) ?_ (fun J132 => ?_)
            · rintro _ rfl
              refine n_iast (f := B) hx hb hK.1 hP hD hS 14 0 rfl rfl (i := (0 + (369 * h)) + s1) (by omega) (by decide) dX5_laysOut_132 (fun H locs hP hD hS => ?_)
              have hP : va_P E.1 vwCl (MW E r v f (upd B ((0 + (369 * h)) + s1) (mV v f (m_sg f nw t) 0 (24 - h) s1)) C ++ [(q_1, .inl (E.2 0, 25, .inl g))]) H := hP
              have hD : va_D A (MW E r v f (upd B ((0 + (369 * h)) + s1) (mV v f (m_sg f nw t) 0 (24 - h) s1)) C ++ [(q_1, .inl (E.2 0, 25, .inl g))]) := hD
              have hB := okB_upd (w := 0) (s := s1) (x := mV v f (m_sg f nw t) 0 (24 - h) s1) hB (by omega) (by omega) (by omega)
              rw [show 9225 * 0 + 369 * h + s1 = 0 + 369 * h + s1 by omega] at hB
              refine lv_iinc (v := (nI 1)) (lv' := [(5, .int (nI 1)), (0, .ref (r 0)), (1, .int t), (2, .ref q_1), (3, .int (nI h)), (4, .int (nI s1))]) hx hb dX5_laysOut_133 hl (k := 0) rfl (nI_1 _) (by decide) rfl (fun ls hl => ?_)
              refine lv_goto (tgt := 76) hx hb dX5_laysOut_136 (by decide) ?_
              refine lv_iload hx hb dX5_laysOut_76 (lv_at hl 0 rfl) ?_
              refine lv_iconst (v := 3) hx hb dX5_laysOut_78 (by decide) ?_
              refine n_icmp_ge (tgt := 139) (a := 1) (b := 3) hx hb dX5_laysOut_79 (by decide) (by omega) (by omega) (fun c_7 => ?_) (fun c_7 => ?_)
              · skip
                exact absurd c_7 (by decide)
              · skip
                refine lv_aload_n hx hb dX5_laysOut_82 rfl (lv_at hl 1 rfl) ?_
                refine va_get (D := E.1) (ci := 5) (v := .ref (r 24)) (C := RX5) (T := TX5) (N := 26) hx hb hts (fun _ h => (List.mem_cons_of_mem _ (List.mem_append_right _ h))) hown hK.1 hP 0 rfl rfl 24 (by decide) (hts _ (List.mem_of_getElem? (i := 5) rfl)) (fun _ h9 => h9) rfl dX5_laysOut_83 ?_
                refine lv_sipush (v := 9225) hx hb dX5_laysOut_86 (by decide) ?_
                refine lv_iload hx hb dX5_laysOut_89 (lv_at hl 0 rfl) ?_
                refine lv_imul hx hb dX5_laysOut_91 ?_
                refine w_top (show (9225 * (nI 1)) = (nI 9225) from pk_mul _ _) ?_
                refine lv_sipush (v := 369) hx hb dX5_laysOut_92 (by decide) ?_
                refine lv_iload_n hx hb dX5_laysOut_95 rfl (lv_at hl 4 rfl) ?_
                refine lv_imul hx hb dX5_laysOut_96 ?_
                refine w_top (show (369 * (nI h)) = (nI (369 * h)) from pk_mul _ _) ?_
                refine lv_iadd hx hb dX5_laysOut_97 ?_
                refine w_top (show ((nI 9225) + (nI (369 * h))) = (nI (9225 + (369 * h))) from nI_add _ _) ?_
                refine lv_iload hx hb dX5_laysOut_98 (lv_at hl 5 rfl) ?_
                refine lv_iadd hx hb dX5_laysOut_100 ?_
                refine w_top (show ((nI (9225 + (369 * h))) + (nI s1)) = (nI ((9225 + (369 * h)) + s1)) from nI_add _ _) ?_
                refine w_join (fun x : Int32 => x = mV v f (m_sg f nw t) 1 (24 - h) s1) (fun x => F0 m 132 ls (.int x :: [.int (nI ((9225 + (369 * h)) + s1)), .ref (r 24)])) ?_ (fun J132 => ?_)
                · rintro _ rfl
                  refine n_iast (f := upd B ((0 + (369 * h)) + s1) (mV v f (m_sg f nw t) 0 (24 - h) s1)) hx hb hK.1 hP hD hS 14 0 rfl rfl (i := (9225 + (369 * h)) + s1) (by omega) (by decide) dX5_laysOut_132 (fun H locs hP hD hS => ?_)
                  have hP : va_P E.1 vwCl (MW E r v f (upd (upd B ((0 + (369 * h)) + s1) (mV v f (m_sg f nw t) 0 (24 - h) s1)) ((9225 + (369 * h)) + s1) (mV v f (m_sg f nw t) 1 (24 - h) s1)) C ++ [(q_1, .inl (E.2 0, 25, .inl g))]) H := hP
                  have hD : va_D A (MW E r v f (upd (upd B ((0 + (369 * h)) + s1) (mV v f (m_sg f nw t) 0 (24 - h) s1)) ((9225 + (369 * h)) + s1) (mV v f (m_sg f nw t) 1 (24 - h) s1)) C ++ [(q_1, .inl (E.2 0, 25, .inl g))]) := hD
                  have hB := okB_upd (w := 1) (s := s1) (x := mV v f (m_sg f nw t) 1 (24 - h) s1) hB (by omega) (by omega) (by omega)
                  rw [show 9225 * 1 + 369 * h + s1 = 9225 + 369 * h + s1 by omega] at hB
                  refine lv_iinc (v := (nI 2)) (lv' := [(5, .int (nI 2)), (0, .ref (r 0)), (1, .int t), (2, .ref q_1), (3, .int (nI h)), (4, .int (nI s1))]) hx hb dX5_laysOut_133 hl (k := 0) rfl (nI_1 _) (by decide) rfl (fun ls hl => ?_)
                  refine lv_goto (tgt := 76) hx hb dX5_laysOut_136 (by decide) ?_
                  refine lv_iload hx hb dX5_laysOut_76 (lv_at hl 0 rfl) ?_
                  refine lv_iconst (v := 3) hx hb dX5_laysOut_78 (by decide) ?_
                  refine n_icmp_ge (tgt := 139) (a := 2) (b := 3) hx hb dX5_laysOut_79 (by decide) (by omega) (by omega) (fun c_8 => ?_) (fun c_8 => ?_)
                  · skip
                    exact absurd c_8 (by decide)
                  · skip
                    refine lv_aload_n hx hb dX5_laysOut_82 rfl (lv_at hl 1 rfl) ?_
                    refine va_get (D := E.1) (ci := 5) (v := .ref (r 24)) (C := RX5) (T := TX5) (N := 26) hx hb hts (fun _ h => (List.mem_cons_of_mem _ (List.mem_append_right _ h))) hown hK.1 hP 0 rfl rfl 24 (by decide) (hts _ (List.mem_of_getElem? (i := 5) rfl)) (fun _ h9 => h9) rfl dX5_laysOut_83 ?_
                    refine lv_sipush (v := 9225) hx hb dX5_laysOut_86 (by decide) ?_
                    refine lv_iload hx hb dX5_laysOut_89 (lv_at hl 0 rfl) ?_
                    refine lv_imul hx hb dX5_laysOut_91 ?_
                    refine w_top (show (9225 * (nI 2)) = (nI 18450) from pk_mul _ _) ?_
                    refine lv_sipush (v := 369) hx hb dX5_laysOut_92 (by decide) ?_
                    refine lv_iload_n hx hb dX5_laysOut_95 rfl (lv_at hl 4 rfl) ?_
                    refine lv_imul hx hb dX5_laysOut_96 ?_
                    refine w_top (show (369 * (nI h)) = (nI (369 * h)) from pk_mul _ _) ?_
                    refine lv_iadd hx hb dX5_laysOut_97 ?_
                    refine w_top (show ((nI 18450) + (nI (369 * h))) = (nI (18450 + (369 * h))) from nI_add _ _) ?_
                    refine lv_iload hx hb dX5_laysOut_98 (lv_at hl 5 rfl) ?_
                    refine lv_iadd hx hb dX5_laysOut_100 ?_
                    refine w_top (show ((nI (18450 + (369 * h))) + (nI s1)) = (nI ((18450 + (369 * h)) + s1)) from nI_add _ _) ?_
                    refine w_join (fun x : Int32 => x = mV v f (m_sg f nw t) 2 (24 - h) s1) (fun x => F0 m 132 ls (.int x :: [.int (nI ((18450 + (369 * h)) + s1)), .ref (r 24)])) ?_ (fun J132 => ?_)
                    · rintro _ rfl
                      refine n_iast (f := upd (upd B ((0 + (369 * h)) + s1) (mV v f (m_sg f nw t) 0 (24 - h) s1)) ((9225 + (369 * h)) + s1) (mV v f (m_sg f nw t) 1 (24 - h) s1)) hx hb hK.1 hP hD hS 14 0 rfl rfl (i := (18450 + (369 * h)) + s1) (by omega) (by decide) dX5_laysOut_132 (fun H locs hP hD hS => ?_)
                      have hP : va_P E.1 vwCl (MW E r v f (upd (upd (upd B ((0 + (369 * h)) + s1) (mV v f (m_sg f nw t) 0 (24 - h) s1)) ((9225 + (369 * h)) + s1) (mV v f (m_sg f nw t) 1 (24 - h) s1)) ((18450 + (369 * h)) + s1) (mV v f (m_sg f nw t) 2 (24 - h) s1)) C ++ [(q_1, .inl (E.2 0, 25, .inl g))]) H := hP
                      have hD : va_D A (MW E r v f (upd (upd (upd B ((0 + (369 * h)) + s1) (mV v f (m_sg f nw t) 0 (24 - h) s1)) ((9225 + (369 * h)) + s1) (mV v f (m_sg f nw t) 1 (24 - h) s1)) ((18450 + (369 * h)) + s1) (mV v f (m_sg f nw t) 2 (24 - h) s1)) C ++ [(q_1, .inl (E.2 0, 25, .inl g))]) := hD
                      have hB := okB_upd (w := 2) (s := s1) (x := mV v f (m_sg f nw t) 2 (24 - h) s1) hB (by omega) (by omega) (by omega)
                      rw [show 9225 * 2 + 369 * h + s1 = 18450 + 369 * h + s1 by omega] at hB
                      have hBs := okBs_3 hBs (by omega) (by omega)
                      refine lv_iinc (v := (nI 3)) (lv' := [(5, .int (nI 3)), (0, .ref (r 0)), (1, .int t), (2, .ref q_1), (3, .int (nI h)), (4, .int (nI s1))]) hx hb dX5_laysOut_133 hl (k := 0) rfl (nI_1 _) (by decide) rfl (fun ls hl => ?_)
                      refine lv_goto (tgt := 76) hx hb dX5_laysOut_136 (by decide) ?_
                      refine lv_iload hx hb dX5_laysOut_76 (lv_at hl 0 rfl) ?_
                      refine lv_iconst (v := 3) hx hb dX5_laysOut_78 (by decide) ?_
                      refine n_icmp_ge (tgt := 139) (a := 3) (b := 3) hx hb dX5_laysOut_79 (by decide) (by omega) (by omega) (fun c_9 => ?_) (fun c_9 => ?_)
                      · skip
                        refine lv_aload_n hx hb dX5_laysOut_139 rfl (lv_at hl 1 rfl) ?_
                        refine va_get (D := E.1) (ci := 5) (v := .ref (r 25)) (C := RX5) (T := TX5) (N := 26) hx hb hts (fun _ h => (List.mem_cons_of_mem _ (List.mem_append_right _ h))) hown hK.1 hP 0 rfl rfl 25 (by decide) (hts _ (List.mem_of_getElem? (i := 7) rfl)) (fun _ h9 => h9) rfl dX5_laysOut_140 ?_
                        refine lv_sipush (v := 369) hx hb dX5_laysOut_143 (by decide) ?_
                        refine lv_iload_n hx hb dX5_laysOut_146 rfl (lv_at hl 4 rfl) ?_
                        refine lv_imul hx hb dX5_laysOut_147 ?_
                        refine w_top (show (369 * (nI h)) = (nI (369 * h)) from pk_mul _ _) ?_
                        refine lv_iload hx hb dX5_laysOut_148 (lv_at hl 5 rfl) ?_
                        refine lv_iadd hx hb dX5_laysOut_150 ?_
                        refine w_top (show ((nI (369 * h)) + (nI s1)) = (nI ((369 * h) + s1)) from nI_add _ _) ?_
                        refine w_join (fun x : Int32 => x = mA v f (m_sg f nw t) rv (24 - h) s1) (fun x => F0 m 186 ls (.int x :: [.int (nI ((369 * h) + s1)), .ref (r 25)])) ?_ (fun J186 => ?_)
                        · rintro _ rfl
                          refine n_iast (f := C) hx hb hK.1 hP hD hS 15 0 rfl rfl (i := (369 * h) + s1) (by omega) (by decide) dX5_laysOut_186 (fun H locs hP hD hS => ?_)
                          have hP : va_P E.1 vwCl (MW E r v f (upd (upd (upd B ((0 + (369 * h)) + s1) (mV v f (m_sg f nw t) 0 (24 - h) s1)) ((9225 + (369 * h)) + s1) (mV v f (m_sg f nw t) 1 (24 - h) s1)) ((18450 + (369 * h)) + s1) (mV v f (m_sg f nw t) 2 (24 - h) s1)) (upd C ((369 * h) + s1) (mA v f (m_sg f nw t) rv (24 - h) s1)) ++ [(q_1, .inl (E.2 0, 25, .inl g))]) H := hP
                          have hD : va_D A (MW E r v f (upd (upd (upd B ((0 + (369 * h)) + s1) (mV v f (m_sg f nw t) 0 (24 - h) s1)) ((9225 + (369 * h)) + s1) (mV v f (m_sg f nw t) 1 (24 - h) s1)) ((18450 + (369 * h)) + s1) (mV v f (m_sg f nw t) 2 (24 - h) s1)) (upd C ((369 * h) + s1) (mA v f (m_sg f nw t) rv (24 - h) s1)) ++ [(q_1, .inl (E.2 0, 25, .inl g))]) := hD
                          refine lv_iinc (v := (nI (s1 + 1))) (lv' := [(4, .int (nI (s1 + 1))), (5, .int (nI 3)), (0, .ref (r 0)), (1, .int t), (2, .ref q_1), (3, .int (nI h))]) hx hb dX5_laysOut_187 hl (k := 5) rfl (nI_1 _) (by decide) rfl (fun ls hl => ?_)
                          refine lv_goto (tgt := 65) hx hb dX5_laysOut_190 (by decide) ?_
                          exact ih65 (H, locs, ls, s1 + 1, (upd (upd (upd B ((0 + (369 * h)) + s1) (mV v f (m_sg f nw t) 0 (24 - h) s1)) ((9225 + (369 * h)) + s1) (mV v f (m_sg f nw t) 1 (24 - h) s1)) ((18450 + (369 * h)) + s1) (mV v f (m_sg f nw t) 2 (24 - h) s1)), (upd C ((369 * h) + s1) (mA v f (m_sg f nw t) rv (24 - h) s1))) ⟨hP, hD, hS, lv_sub hl [2, 3, 4, 5, 0] rfl, by omega, hB, okC_upd hC (by omega), hBs, okCs_1 hCs⟩ (by dsimp only; omega)
                        · skip
                          refine lv_iload_n hx hb dX5_laysOut_151 rfl (lv_at hl 4 rfl) ?_
                          refine lv_bipush (v := 24) hx hb dX5_laysOut_152 (by decide) ?_
                          refine n_icmp_eq (tgt := 165) (a := h) (b := 24) hx hb dX5_laysOut_154 (by decide) (by omega) (by omega) (fun c_10 => ?_) (fun c_10 => ?_)
                          · skip
                            refine lv_aload_n hx hb dX5_laysOut_165 rfl (lv_at hl 1 rfl) ?_
                            refine lv_iload_n hx hb dX5_laysOut_166 rfl (lv_at hl 4 rfl) ?_
                            refine lv_iload hx hb dX5_laysOut_167 (lv_at hl 5 rfl) ?_
                            refine cR_V ⟨hx, hb, hml, hown, hts⟩ (c_X5_weighed l E r v f (upd (upd (upd B ((0 + (369 * h)) + s1) (mV v f (m_sg f nw t) 0 (24 - h) s1)) ((9225 + (369 * h)) + s1) (mV v f (m_sg f nw t) 1 (24 - h) s1)) ((18450 + (369 * h)) + s1) (mV v f (m_sg f nw t) 2 (24 - h) s1)) C h s1 (by omega) (by omega)) (cwV 2 hts gX5_laysOut_X5_weighed rfl rfl rfl (by decide +kernel) ⟨Nat.le_of_ble_eq_true rfl, Nat.le_of_ble_eq_true rfl⟩) hK (hP.sub (ws' := MW E r v f (upd (upd (upd B ((0 + (369 * h)) + s1) (mV v f (m_sg f nw t) 0 (24 - h) s1)) ((9225 + (369 * h)) + s1) (mV v f (m_sg f nw t) 1 (24 - h) s1)) ((18450 + (369 * h)) + s1) (mV v f (m_sg f nw t) 2 (24 - h) s1)) C) [0, 1, 2, 3, 4, 5, 6, 7, 8, 9, 10, 11, 12, 13, 14, 15] rfl) 5 0 rfl rfl rfl hl.1 rfl (Nat.le_of_ble_eq_true rfl) dX5_laysOut_169 ⟨Nat.le_of_ble_eq_true rfl, Nat.le_of_ble_eq_true rfl⟩ ?_
                            refine lv_goto (tgt := 186) hx hb dX5_laysOut_172 (by decide) ?_
                            exact J186 _ (mW_step hBs (Or.inl c_10) (by omega))
                          · skip
                            refine lv_iload_n hx hb dX5_laysOut_157 rfl (lv_at hl 4 rfl) ?_
                            refine lv_aload_n hx hb dX5_laysOut_158 rfl (lv_at hl 1 rfl) ?_
                            refine va_get (D := E.1) (ci := 5) (v := .int (v 19)) (C := RX5) (T := TX5) (N := 26) hx hb hts (fun _ h => (List.mem_cons_of_mem _ (List.mem_append_right _ h))) hown hK.1 hP 0 rfl rfl 19 (by decide) (hts _ (List.mem_of_getElem? (i := 8) rfl)) (fun _ h9 => h9) rfl dX5_laysOut_159 ?_
                            refine w_top (show (v 19) = nI rv from hrv) ?_
                            refine n_icmp_lt (tgt := 175) (a := h) (b := rv) hx hb dX5_laysOut_162 (by decide) (by omega) (by omega) (fun c_11 => ?_) (fun c_11 => ?_)
                            · skip
                              refine lv_aload_n hx hb dX5_laysOut_175 rfl (lv_at hl 1 rfl) ?_
                              refine lv_iconst (v := (-1)) hx hb dX5_laysOut_176 (by decide) ?_
                              refine lv_iload_n hx hb dX5_laysOut_177 rfl (lv_at hl 4 rfl) ?_
                              refine lv_iload hx hb dX5_laysOut_178 (lv_at hl 5 rfl) ?_
                              refine lv_aload_n hx hb dX5_laysOut_180 rfl (lv_at hl 3 rfl) ?_
                              refine lv_iload_n hx hb dX5_laysOut_181 rfl (lv_at hl 4 rfl) ?_
                              refine n_iald (f := g) hx hb hK.1 hP 16 0 rfl rfl (i := h) (by omega) (by decide) dX5_laysOut_182 ?_
                              refine w_top (show (g h) = (m_sg f nw t h) from (hg h (by omega) (by omega))) ?_
                              refine cR_V ⟨hx, hb, hml, hown, hts⟩ (c_X5_bestOfA l E r v f (upd (upd (upd B ((0 + (369 * h)) + s1) (mV v f (m_sg f nw t) 0 (24 - h) s1)) ((9225 + (369 * h)) + s1) (mV v f (m_sg f nw t) 1 (24 - h) s1)) ((18450 + (369 * h)) + s1) (mV v f (m_sg f nw t) 2 (24 - h) s1)) C h s1 (m_sg f nw t h) (by omega) (by omega) h40) (cwV 4 hts gX5_laysOut_X5_bestOf rfl rfl rfl (by decide +kernel) ⟨Nat.le_of_ble_eq_true rfl, Nat.le_of_ble_eq_true rfl⟩) hK (hP.sub (ws' := MW E r v f (upd (upd (upd B ((0 + (369 * h)) + s1) (mV v f (m_sg f nw t) 0 (24 - h) s1)) ((9225 + (369 * h)) + s1) (mV v f (m_sg f nw t) 1 (24 - h) s1)) ((18450 + (369 * h)) + s1) (mV v f (m_sg f nw t) 2 (24 - h) s1)) C) [0, 1, 2, 3, 4, 5, 6, 7, 8, 9, 10, 11, 12, 13, 14, 15] rfl) 5 0 rfl rfl rfl hl.1 rfl (Nat.le_of_ble_eq_true rfl) dX5_laysOut_183 ⟨Nat.le_of_ble_eq_true rfl, Nat.le_of_ble_eq_true rfl⟩ ?_
                              exact J186 _ (mA_step h40 hC (by omega) (by omega))
                            · skip
                              refine lv_aload_n hx hb dX5_laysOut_165 rfl (lv_at hl 1 rfl) ?_
                              refine lv_iload_n hx hb dX5_laysOut_166 rfl (lv_at hl 4 rfl) ?_
                              refine lv_iload hx hb dX5_laysOut_167 (lv_at hl 5 rfl) ?_
                              refine cR_V ⟨hx, hb, hml, hown, hts⟩ (c_X5_weighed l E r v f (upd (upd (upd B ((0 + (369 * h)) + s1) (mV v f (m_sg f nw t) 0 (24 - h) s1)) ((9225 + (369 * h)) + s1) (mV v f (m_sg f nw t) 1 (24 - h) s1)) ((18450 + (369 * h)) + s1) (mV v f (m_sg f nw t) 2 (24 - h) s1)) C h s1 (by omega) (by omega)) (cwV 2 hts gX5_laysOut_X5_weighed rfl rfl rfl (by decide +kernel) ⟨Nat.le_of_ble_eq_true rfl, Nat.le_of_ble_eq_true rfl⟩) hK (hP.sub (ws' := MW E r v f (upd (upd (upd B ((0 + (369 * h)) + s1) (mV v f (m_sg f nw t) 0 (24 - h) s1)) ((9225 + (369 * h)) + s1) (mV v f (m_sg f nw t) 1 (24 - h) s1)) ((18450 + (369 * h)) + s1) (mV v f (m_sg f nw t) 2 (24 - h) s1)) C) [0, 1, 2, 3, 4, 5, 6, 7, 8, 9, 10, 11, 12, 13, 14, 15] rfl) 5 0 rfl rfl rfl hl.1 rfl (Nat.le_of_ble_eq_true rfl) dX5_laysOut_169 ⟨Nat.le_of_ble_eq_true rfl, Nat.le_of_ble_eq_true rfl⟩ ?_
                              refine lv_goto (tgt := 186) hx hb dX5_laysOut_172 (by decide) ?_
                              exact J186 _ (mW_step hBs (Or.inr (by omega)) (by omega))
                      · skip
                        exact absurd c_9 (by decide)
                    · skip
                      refine lv_iload_n hx hb dX5_laysOut_101 rfl (lv_at hl 4 rfl) ?_
                      refine lv_bipush (v := 24) hx hb dX5_laysOut_102 (by decide) ?_
                      refine n_icmp_ne (tgt := 120) (a := h) (b := 24) hx hb dX5_laysOut_104 (by decide) (by omega) (by omega) (fun c_12 => ?_) (fun c_12 => ?_)
                      · skip
                        refine lv_aload_n hx hb dX5_laysOut_120 rfl (lv_at hl 1 rfl) ?_
                        refine lv_iload hx hb dX5_laysOut_121 (lv_at hl 0 rfl) ?_
                        refine lv_iload_n hx hb dX5_laysOut_123 rfl (lv_at hl 4 rfl) ?_
                        refine lv_iload hx hb dX5_laysOut_124 (lv_at hl 5 rfl) ?_
                        refine lv_aload_n hx hb dX5_laysOut_126 rfl (lv_at hl 3 rfl) ?_
                        refine lv_iload_n hx hb dX5_laysOut_127 rfl (lv_at hl 4 rfl) ?_
                        refine n_iald (f := g) hx hb hK.1 hP 16 0 rfl rfl (i := h) (by omega) (by decide) dX5_laysOut_128 ?_
                        refine w_top (show (g h) = (m_sg f nw t h) from (hg h (by omega) (by omega))) ?_
                        refine cR_V ⟨hx, hb, hml, hown, hts⟩ (c_X5_bestOfW l E r v f (upd (upd B ((0 + (369 * h)) + s1) (mV v f (m_sg f nw t) 0 (24 - h) s1)) ((9225 + (369 * h)) + s1) (mV v f (m_sg f nw t) 1 (24 - h) s1)) C 2 h s1 (m_sg f nw t h) (by omega) (by omega) (by omega) h40) (cwV 4 hts gX5_laysOut_X5_bestOf rfl rfl rfl (by decide +kernel) ⟨Nat.le_of_ble_eq_true rfl, Nat.le_of_ble_eq_true rfl⟩) hK (hP.sub (ws' := MW E r v f (upd (upd B ((0 + (369 * h)) + s1) (mV v f (m_sg f nw t) 0 (24 - h) s1)) ((9225 + (369 * h)) + s1) (mV v f (m_sg f nw t) 1 (24 - h) s1)) C) [0, 1, 2, 3, 4, 5, 6, 7, 8, 9, 10, 11, 12, 13, 14, 15] rfl) 5 0 rfl rfl rfl hl.1 rfl (Nat.le_of_ble_eq_true rfl) dX5_laysOut_129 ⟨Nat.le_of_ble_eq_true rfl, Nat.le_of_ble_eq_true rfl⟩ ?_
                        exact J132 _ (mV_step h40 hB (by omega) (by omega))
                      · skip
                        refine lv_iload hx hb dX5_laysOut_107 (lv_at hl 5 rfl) ?_
                        refine lv_bipush (v := 9) hx hb dX5_laysOut_109 (by decide) ?_
                        refine lv_idiv hx hb dX5_laysOut_111 (by decide) ?_
                        refine w_top (show ((nI s1) / 9) = (nI (s1 / 9)) from pk_div (a := s1) (d := 9) (by omega) (by decide) (by decide)) ?_
                        refine lv_aload_n hx hb dX5_laysOut_112 rfl (lv_at hl 1 rfl) ?_
                        refine va_get (D := E.1) (ci := 5) (v := .int (v 20)) (C := RX5) (T := TX5) (N := 26) hx hb hts (fun _ h => (List.mem_cons_of_mem _ (List.mem_append_right _ h))) hown hK.1 hP 0 rfl rfl 20 (by decide) (hts _ (List.mem_of_getElem? (i := 6) rfl)) (fun _ h9 => h9) rfl dX5_laysOut_113 ?_
                        refine lv_imul hx hb dX5_laysOut_116 ?_
                        refine lv_goto (tgt := 132) hx hb dX5_laysOut_117 (by decide) ?_
                        exact J132 _ (by subst c_12; rfl)
                · skip
                  refine lv_iload_n hx hb dX5_laysOut_101 rfl (lv_at hl 4 rfl) ?_
                  refine lv_bipush (v := 24) hx hb dX5_laysOut_102 (by decide) ?_
                  refine n_icmp_ne (tgt := 120) (a := h) (b := 24) hx hb dX5_laysOut_104 (by decide) (by omega) (by omega) (fun c_13 => ?_) (fun c_13 => ?_)
                  · skip
                    refine lv_aload_n hx hb dX5_laysOut_120 rfl (lv_at hl 1 rfl) ?_
                    refine lv_iload hx hb dX5_laysOut_121 (lv_at hl 0 rfl) ?_
                    refine lv_iload_n hx hb dX5_laysOut_123 rfl (lv_at hl 4 rfl) ?_
                    refine lv_iload hx hb dX5_laysOut_124 (lv_at hl 5 rfl) ?_
                    refine lv_aload_n hx hb dX5_laysOut_126 rfl (lv_at hl 3 rfl) ?_
                    refine lv_iload_n hx hb dX5_laysOut_127 rfl (lv_at hl 4 rfl) ?_
                    refine n_iald (f := g) hx hb hK.1 hP 16 0 rfl rfl (i := h) (by omega) (by decide) dX5_laysOut_128 ?_
                    refine w_top (show (g h) = (m_sg f nw t h) from (hg h (by omega) (by omega))) ?_
                    refine cR_V ⟨hx, hb, hml, hown, hts⟩ (c_X5_bestOfW l E r v f (upd B ((0 + (369 * h)) + s1) (mV v f (m_sg f nw t) 0 (24 - h) s1)) C 1 h s1 (m_sg f nw t h) (by omega) (by omega) (by omega) h40) (cwV 4 hts gX5_laysOut_X5_bestOf rfl rfl rfl (by decide +kernel) ⟨Nat.le_of_ble_eq_true rfl, Nat.le_of_ble_eq_true rfl⟩) hK (hP.sub (ws' := MW E r v f (upd B ((0 + (369 * h)) + s1) (mV v f (m_sg f nw t) 0 (24 - h) s1)) C) [0, 1, 2, 3, 4, 5, 6, 7, 8, 9, 10, 11, 12, 13, 14, 15] rfl) 5 0 rfl rfl rfl hl.1 rfl (Nat.le_of_ble_eq_true rfl) dX5_laysOut_129 ⟨Nat.le_of_ble_eq_true rfl, Nat.le_of_ble_eq_true rfl⟩ ?_
                    exact J132 _ (mV_step h40 hB (by omega) (by omega))
                  · skip
                    refine lv_iload hx hb dX5_laysOut_107 (lv_at hl 5 rfl) ?_
                    refine lv_bipush (v := 9) hx hb dX5_laysOut_109 (by decide) ?_
                    refine lv_idiv hx hb dX5_laysOut_111 (by decide) ?_
                    refine w_top (show ((nI s1) / 9) = (nI (s1 / 9)) from pk_div (a := s1) (d := 9) (by omega) (by decide) (by decide)) ?_
                    refine lv_aload_n hx hb dX5_laysOut_112 rfl (lv_at hl 1 rfl) ?_
                    refine va_get (D := E.1) (ci := 5) (v := .int (v 20)) (C := RX5) (T := TX5) (N := 26) hx hb hts (fun _ h => (List.mem_cons_of_mem _ (List.mem_append_right _ h))) hown hK.1 hP 0 rfl rfl 20 (by decide) (hts _ (List.mem_of_getElem? (i := 6) rfl)) (fun _ h9 => h9) rfl dX5_laysOut_113 ?_
                    refine lv_imul hx hb dX5_laysOut_116 ?_
                    refine lv_goto (tgt := 132) hx hb dX5_laysOut_117 (by decide) ?_
                    exact J132 _ (by subst c_13; rfl)
            · skip
              refine lv_iload_n hx hb dX5_laysOut_101 rfl (lv_at hl 4 rfl) ?_
              refine lv_bipush (v := 24) hx hb dX5_laysOut_102 (by decide) ?_
              refine n_icmp_ne (tgt := 120) (a := h) (b := 24) hx hb dX5_laysOut_104 (by decide) (by omega) (by omega) (fun c_14 => ?_) (fun c_14 => ?_)
              · skip
                refine lv_aload_n hx hb dX5_laysOut_120 rfl (lv_at hl 1 rfl) ?_
                refine lv_iload hx hb dX5_laysOut_121 (lv_at hl 0 rfl) ?_
                refine lv_iload_n hx hb dX5_laysOut_123 rfl (lv_at hl 4 rfl) ?_
                refine lv_iload hx hb dX5_laysOut_124 (lv_at hl 5 rfl) ?_
                refine lv_aload_n hx hb dX5_laysOut_126 rfl (lv_at hl 3 rfl) ?_
                refine lv_iload_n hx hb dX5_laysOut_127 rfl (lv_at hl 4 rfl) ?_
                refine n_iald (f := g) hx hb hK.1 hP 16 0 rfl rfl (i := h) (by omega) (by decide) dX5_laysOut_128 ?_
                refine w_top (show (g h) = (m_sg f nw t h) from (hg h (by omega) (by omega))) ?_
                refine cR_V ⟨hx, hb, hml, hown, hts⟩ (c_X5_bestOfW l E r v f B C 0 h s1 (m_sg f nw t h) (by omega) (by omega) (by omega) h40) (cwV 4 hts gX5_laysOut_X5_bestOf rfl rfl rfl (by decide +kernel) ⟨Nat.le_of_ble_eq_true rfl, Nat.le_of_ble_eq_true rfl⟩) hK (hP.sub (ws' := MW E r v f B C) [0, 1, 2, 3, 4, 5, 6, 7, 8, 9, 10, 11, 12, 13, 14, 15] rfl) 5 0 rfl rfl rfl hl.1 rfl (Nat.le_of_ble_eq_true rfl) dX5_laysOut_129 ⟨Nat.le_of_ble_eq_true rfl, Nat.le_of_ble_eq_true rfl⟩ ?_
                exact J132 _ (mV_step h40 hB (by omega) (by omega))
              · skip
                refine lv_iload hx hb dX5_laysOut_107 (lv_at hl 5 rfl) ?_
                refine lv_bipush (v := 9) hx hb dX5_laysOut_109 (by decide) ?_
                refine lv_idiv hx hb dX5_laysOut_111 (by decide) ?_
                refine w_top (show ((nI s1) / 9) = (nI (s1 / 9)) from pk_div (a := s1) (d := 9) (by omega) (by decide) (by decide)) ?_
                refine lv_aload_n hx hb dX5_laysOut_112 rfl (lv_at hl 1 rfl) ?_
                refine va_get (D := E.1) (ci := 5) (v := .int (v 20)) (C := RX5) (T := TX5) (N := 26) hx hb hts (fun _ h => (List.mem_cons_of_mem _ (List.mem_append_right _ h))) hown hK.1 hP 0 rfl rfl 20 (by decide) (hts _ (List.mem_of_getElem? (i := 6) rfl)) (fun _ h9 => h9) rfl dX5_laysOut_113 ?_
                refine lv_imul hx hb dX5_laysOut_116 ?_
                refine lv_goto (tgt := 132) hx hb dX5_laysOut_117 (by decide) ?_
                exact J132 _ (by subst c_14; rfl)
  · skip
    refine lv_aload_n hx hb dX5_laysOut_23 rfl (lv_at hl 2 rfl) ?_
    refine lv_iload_n hx hb dX5_laysOut_24 rfl (lv_at hl 3 rfl) ?_
    refine lv_iconst (v := 1) hx hb dX5_laysOut_25 (by decide) ?_
    refine lv_iadd hx hb dX5_laysOut_26 ?_
    refine w_top (show ((nI h) + 1) = (nI (h + 1)) from nI_add _ _) ?_
    refine lv_aload_n hx hb dX5_laysOut_27 rfl (lv_at hl 2 rfl) ?_
    refine lv_iload_n hx hb dX5_laysOut_28 rfl (lv_at hl 3 rfl) ?_
    refine n_iald (f := g) hx hb hK.1 hP 16 0 rfl rfl (i := h) (by omega) (by decide) dX5_laysOut_29 ?_
    refine lv_aload_n hx hb dX5_laysOut_30 rfl (lv_at hl 0 rfl) ?_
    refine va_get (D := E.1) (ci := 5) (v := .ref (r 8)) (C := RX5) (T := TX5) (N := 26) hx hb hts (fun _ h => (List.mem_cons_of_mem _ (List.mem_append_right _ h))) hown hK.1 hP 0 rfl rfl 8 (by decide) (hts _ (List.mem_of_getElem? (i := 3) rfl)) (fun _ h9 => h9) rfl dX5_laysOut_31 ?_
    refine lv_iload_n hx hb dX5_laysOut_34 rfl (lv_at hl 3 rfl) ?_
    refine n_iald (f := f 8) hx hb hK.1 hP 1 0 rfl rfl (i := h) (by omega) (by decide) dX5_laysOut_35 ?_
    refine lv_iadd hx hb dX5_laysOut_36 ?_
    refine lv_aload_n hx hb dX5_laysOut_37 rfl (lv_at hl 0 rfl) ?_
    refine va_get (D := E.1) (ci := 5) (v := .ref (r 9)) (C := RX5) (T := TX5) (N := 26) hx hb hts (fun _ h => (List.mem_cons_of_mem _ (List.mem_append_right _ h))) hown hK.1 hP 0 rfl rfl 9 (by decide) (hts _ (List.mem_of_getElem? (i := 4) rfl)) (fun _ h9 => h9) rfl dX5_laysOut_38 ?_
    refine lv_iload_n hx hb dX5_laysOut_41 rfl (lv_at hl 3 rfl) ?_
    refine n_iald (f := f 9) hx hb hK.1 hP 2 0 rfl rfl (i := h) (by omega) (by decide) dX5_laysOut_42 ?_
    refine lv_isub hx hb dX5_laysOut_43 ?_
    refine n_iast (f := g) hx hb hK.1 hP hD hS 16 0 rfl rfl (i := h + 1) (by omega) (by decide) dX5_laysOut_44 (fun H locs hP hD hS => ?_)
    have hP : va_P E.1 vwCl (MW E r v f B C ++ [(q_1, .inl (E.2 0, 25, .inl (upd g (h + 1) (((g h) + (f 8 h)) - (f 9 h)))))]) H := hP
    have hD : va_D A (MW E r v f B C ++ [(q_1, .inl (E.2 0, 25, .inl (upd g (h + 1) (((g h) + (f 8 h)) - (f 9 h)))))]) := hD
    refine lv_iinc (v := (nI (h + 1))) (lv' := [(3, .int (nI (h + 1))), (0, .ref (r 0)), (1, .int t), (2, .ref q_1)]) hx hb dX5_laysOut_45 hl (k := 3) rfl (nI_1 _) (by decide) rfl (fun ls hl => ?_)
    refine lv_goto (tgt := 17) hx hb dX5_laysOut_48 (by decide) ?_
    exact ih17 (H, locs, ls, h + 1, (upd g (h + 1) (((g h) + (f 8 h)) - (f 9 h)))) ⟨hP, hD, hS, lv_sub hl [1, 2, 3, 0] rfl, by omega, by omega, m_sg_s' h1 hg⟩ (by dsimp only; omega)
