/-- the money of a doing from the modes of a state; what a state has behind a try of doing d from the modes below k -/
def fMon (f : Nat → Nat → Int32) (h d : Nat) (sc : Int32) (pr : Nat → Int32) (m : Nat) : Int32 := pr h * f 18 (h * 9 + d) - f 23 (d * 9 + m) * sc
noncomputable def fP (f : Nat → Nat → Int32) (h d : Nat) (sc : Int32) (pr be : Nat → Int32) (k j : Nat) (x : I2) : I2 := cI (j < 369 ∧ j % 9 < k ∧ ¬ f 23 (d * 9 + j % 9) = -1 ∧ opn f h d (j / 9) ∧ ¬ be (tTo f h d (j / 9) * 9 + d) = nev ∧ x.1 < fMon f h d sc pr (j % 9) + be (tTo f h d (j / 9) * 9 + d)) (fMon f h d sc pr (j % 9) + be (tTo f h d (j / 9) * 9 + d), nI d) x
noncomputable def fRv (f : Nat → Nat → Int32) (h d : Nat) (sc : Int32) (pr be va ch : Nat → Int32) (k : Nat) : Nat → Int32 := fun j => (fP f h d sc pr be k j (va j, ch j)).1
noncomputable def fRc (f : Nat → Nat → Int32) (h d : Nat) (sc : Int32) (pr be va ch : Nat → Int32) (k : Nat) : Nat → Int32 := fun j => (fP f h d sc pr be k j (va j, ch j)).2
theorem fP_0 {f : Nat → Nat → Int32} {h d : Nat} {sc : Int32} {pr be : Nat → Int32} {j : Nat} {x : I2} : fP f h d sc pr be 0 j x = x := by
  rw [fP, cI_f (fun z => absurd z.2.1 (Nat.not_lt_zero _))]
theorem fRv_0 {f : Nat → Nat → Int32} {h d : Nat} {sc : Int32} {pr be va ch : Nat → Int32} : fRv f h d sc pr be va ch 0 = va := funext fun j => by rw [fRv, fP_0]
theorem fRc_0 {f : Nat → Nat → Int32} {h d : Nat} {sc : Int32} {pr be va ch : Nat → Int32} : fRc f h d sc pr be va ch 0 = ch := funext fun j => by rw [fRc, fP_0]
theorem fP_skip {f : Nat → Nat → Int32} {h d : Nat} {sc : Int32} {pr be : Nat → Int32} {k j : Nat} {x : I2} (hs : f 23 (d * 9 + k) = -1) : fP f h d sc pr be k j x = fP f h d sc pr be (k + 1) j x := by
  by_cases e : j % 9 = k
  · rw [fP, fP, cI_f (fun z => absurd z.2.1 (by omega)), cI_f (fun z => z.2.2.1 (by rw [e]; exact hs))]
  · rw [fP, fP]
    congr 1
    apply propext
    constructor
    · rintro ⟨h1, h2, h3⟩; exact ⟨h1, by omega, h3⟩
    · rintro ⟨h1, h2, h3⟩; exact ⟨h1, by omega, h3⟩
theorem fP_call {f : Nat → Nat → Int32} {h d : Nat} {sc : Int32} {pr be : Nat → Int32} {k j : Nat} {x : I2} (hs : ¬ f 23 (d * 9 + k) = -1) : tP f h d k (fMon f h d sc pr k) be j (fP f h d sc pr be k j x) = fP f h d sc pr be (k + 1) j x := by
  by_cases e : j % 9 = k
  · have e0 : fP f h d sc pr be k j x = x := by rw [fP, cI_f (fun z => absurd z.2.1 (by omega))]
    rw [e0, tP, fP]
    subst e
    by_cases q : j < 369 ∧ j % 9 = j % 9 ∧ opn f h d (j / 9) ∧ ¬ be (tTo f h d (j / 9) * 9 + d) = nev ∧ x.1 < fMon f h d sc pr (j % 9) + be (tTo f h d (j / 9) * 9 + d)
    · rw [cI_t q, cI_t ⟨q.1, by omega, hs, q.2.2⟩]
    · rw [cI_f q, cI_f (fun z => q ⟨z.1, rfl, z.2.2.2⟩)]
  · rw [tP, cI_f (fun z => e z.2.1), fP, fP]
    congr 1
    apply propext
    constructor
    · rintro ⟨h1, h2, h3⟩; exact ⟨h1, by omega, h3⟩
    · rintro ⟨h1, h2, h3⟩; exact ⟨h1, by omega, h3⟩
theorem fRv_skip {f : Nat → Nat → Int32} {h d : Nat} {sc : Int32} {pr be va ch : Nat → Int32} {k : Nat} (hs : f 23 (d * 9 + k) = -1) : fRv f h d sc pr be va ch k = fRv f h d sc pr be va ch (k + 1) := funext fun j => by rw [fRv, fRv, fP_skip hs]
theorem fRc_skip {f : Nat → Nat → Int32} {h d : Nat} {sc : Int32} {pr be va ch : Nat → Int32} {k : Nat} (hs : f 23 (d * 9 + k) = -1) : fRc f h d sc pr be va ch k = fRc f h d sc pr be va ch (k + 1) := funext fun j => by rw [fRc, fRc, fP_skip hs]
theorem fRv_call {f : Nat → Nat → Int32} {h d : Nat} {sc : Int32} {pr be va ch : Nat → Int32} {k : Nat} (hs : ¬ f 23 (d * 9 + k) = -1) : (fun j => (tP f h d k (fMon f h d sc pr k) be j (fRv f h d sc pr be va ch k j, fRc f h d sc pr be va ch k j)).1) = fRv f h d sc pr be va ch (k + 1) := by
  funext j
  show (tP f h d k (fMon f h d sc pr k) be j (fP f h d sc pr be k j (va j, ch j))).1 = _
  rw [fP_call hs, fRv]
theorem fRc_call {f : Nat → Nat → Int32} {h d : Nat} {sc : Int32} {pr be va ch : Nat → Int32} {k : Nat} (hs : ¬ f 23 (d * 9 + k) = -1) : (fun j => (tP f h d k (fMon f h d sc pr k) be j (fRv f h d sc pr be va ch k j, fRc f h d sc pr be va ch k j)).2) = fRc f h d sc pr be va ch (k + 1) := by
  funext j
  show (tP f h d k (fMon f h d sc pr k) be j (fP f h d sc pr be k j (va j, ch j))).2 = _
  rw [fP_call hs, fRc]
set_option maxHeartbeats 4000000 in
set_option maxRecDepth 100000 in
theorem c_X3_tryFromAllModes (l : Launch) (E : GG) (q r : Nat → Nat) (sc : Int32) (pr va be ch : Nat → Int32) (f : Nat → Nat → Int32) (sz : Nat) (h : Nat) (d : Nat) (hh : h < 24) (hd : d < 9) (hop : opOK f h d) : Met l yX3_tryFromAllModes wsX3_tryFromAllModes (Rm 1 0 0) (pM E [.ref (q 0), .ref (r 4), .int (nI h), .int (nI d)] (PW E q r sc pr va be ch f) sz) (va_Qv (fun (u : (Nat → Int32) × (Nat → Int32)) => u.1 = fRv f h d sc pr be va ch 9 ∧ u.2 = fRc f h d sc pr be va ch 9) (bM E (va_A (PW E q r sc pr va be ch f) sz) (fun (u : (Nat → Int32) × (Nat → Int32)) => PW E q r sc pr u.1 be u.2 f)) (va_A (PW E q r sc pr va be ch f) sz)) 0 0 (va_A (PW E q r sc pr va be ch f) sz) := by
  refine ofM (by decide) rfl (Nat.le_of_ble_eq_true rfl) ?_
  intro p e s m below meth c A hx hb hr hlocks hml hown hin hts hK hP hD hS hA hsz hAe ls hl
  rw [← hAe]
  have hl : lv_has ls 7 [(0, .ref (q 0)), (1, .ref (r 4)), (2, .int (nI h)), (3, .int (nI d))] := hl
  refine lv_aload_n hx hb dX3_tryFromAllModes_0 rfl (lv_at hl 0 rfl) ?_
  refine va_get (D := E.1) (ci := 3) (v := .ref (q 1)) (C := RX3) (T := TX3) (N := 5) hx hb hts (fun _ h => (List.mem_cons_of_mem _ (List.mem_append_left _ (List.mem_append_right _ h)))) hown hK.1 hP 0 rfl rfl 0 (by decide) (hts _ (List.mem_of_getElem? (i := 1) rfl)) (fun _ h9 => h9) rfl dX3_tryFromAllModes_1 ?_
  refine lv_iload_n hx hb dX3_tryFromAllModes_4 rfl (lv_at hl 2 rfl) ?_
  refine n_iald (f := pr) hx hb hK.1 hP 1 0 rfl rfl (i := h) (by omega) (by decide) dX3_tryFromAllModes_5 ?_
  refine lv_aload_n hx hb dX3_tryFromAllModes_6 rfl (lv_at hl 1 rfl) ?_
  refine va_getN (D := E.1) (ci := 0) (v := .ref (r 18)) (C := RX0) (T := TX0) (N := 9) (host := "TwoLakes") (ref := RX0) hx hb hts (fun _ h => (List.mem_cons_of_mem _ (List.mem_append_right _ h))) hown hK.1 hP 5 rfl rfl 3 (by decide) (va_Nw.use rfl (hK.2.1 (RX3, 39, RX0, "energy", "[I") (List.mem_of_getElem? (i := 23) rfl))) (fun _ h9 => h9) rfl dX3_tryFromAllModes_7 ?_
  refine lv_iload_n hx hb dX3_tryFromAllModes_10 rfl (lv_at hl 2 rfl) ?_
  refine lv_bipush (v := 9) hx hb dX3_tryFromAllModes_11 (by decide) ?_
  refine lv_imul hx hb dX3_tryFromAllModes_13 ?_
  refine w_top (show ((nI h) * 9) = (nI (h * 9)) from pk_mul _ _) ?_
  refine lv_iload_n hx hb dX3_tryFromAllModes_14 rfl (lv_at hl 3 rfl) ?_
  refine lv_iadd hx hb dX3_tryFromAllModes_15 ?_
  refine w_top (show ((nI (h * 9)) + (nI d)) = (nI ((h * 9) + d)) from nI_add _ _) ?_
  refine n_iald (f := f 18) hx hb hK.1 hP 6 0 rfl rfl (i := (h * 9) + d) (by omega) (by decide) dX3_tryFromAllModes_16 ?_
  refine lv_imul hx hb dX3_tryFromAllModes_17 ?_
  refine lv_istore (lv' := [(4, .int ((pr h) * (f 18 ((h * 9) + d)))), (0, .ref (q 0)), (1, .ref (r 4)), (2, .int (nI h)), (3, .int (nI d))]) hx hb dX3_tryFromAllModes_18 hl (by decide) rfl (fun ls hl => ?_)
  refine lv_iconst (v := 0) hx hb dX3_tryFromAllModes_20 (by decide) ?_
  refine lv_istore (lv' := [(5, .int 0), (4, .int ((pr h) * (f 18 ((h * 9) + d)))), (0, .ref (q 0)), (1, .ref (r 4)), (2, .int (nI h)), (3, .int (nI d))]) hx hb dX3_tryFromAllModes_21 hl (by decide) rfl (fun ls hl => ?_)
  have hP : va_P E.1 vwCl (PW E q r sc pr (fRv f h d sc pr be va ch 0) be (fRc f h d sc pr be va ch 0) f) s.heap := by rw [fRv_0, fRc_0]; exact hP
  have hD : va_D A (PW E q r sc pr (fRv f h d sc pr be va ch 0) be (fRc f h d sc pr be va ch 0) f) := by rw [fRv_0, fRc_0]; exact hD
  refine w_while (σ := Heap × List Loc × Array Slot × Nat) (fun ⟨H, locs, ls, k⟩ => 9 - k) (fun ⟨H, locs, ls, k⟩ => va_P E.1 vwCl (PW E q r sc pr (fRv f h d sc pr be va ch k) be (fRc f h d sc pr be va ch k) f) H ∧ va_D A (PW E q r sc pr (fRv f h d sc pr be va ch k) be (fRc f h d sc pr be va ch k) f) ∧ va_S A s.heap H locs ∧ lv_has ls 7 [(0, .ref (q 0)), (1, .ref (r 4)), (2, .int (nI h)), (3, .int (nI d)), (4, .int (pr h * f 18 (h * 9 + d))), (5, .int (nI k))] ∧ k ≤ 9) (fun ⟨H, locs, ls, k⟩ => H) (fun ⟨H, locs, ls, k⟩ => locs) (fun ⟨H, locs, ls, k⟩ => F0 m 23 ls []) ?_ (s.heap, [], ls, 0) ⟨hP, hD, hS, lv_sub hl [2, 3, 4, 5, 1, 0] rfl, Nat.zero_le _⟩
  rintro ⟨H, locs, ls, k⟩ ⟨hP, hD, hS, hl, hk⟩ ih23
  dsimp only at hP hD hS hl ⊢
  refine lv_iload hx hb dX3_tryFromAllModes_23 (lv_at hl 5 rfl) ?_
  refine lv_bipush (v := 9) hx hb dX3_tryFromAllModes_25 (by decide) ?_
  refine n_icmp_ge (tgt := 75) (a := k) (b := 9) hx hb dX3_tryFromAllModes_27 (by decide) (by omega) (by omega) (fun c_1 => ?_) (fun c_1 => ?_)
  · skip
    exact qv_ret ((fRv f h d sc pr be va ch k, fRc f h d sc pr be va ch k) : (Nat → Int32) × (Nat → Int32)) hx hb hr hlocks (by rw [show k = 9 by omega]; exact ⟨rfl, rfl⟩) hP hD hS dX3_tryFromAllModes_75
  · skip
    refine lv_aload_n hx hb dX3_tryFromAllModes_30 rfl (lv_at hl 1 rfl) ?_
    refine va_getN (D := E.1) (ci := 0) (v := .ref (r 23)) (C := RX0) (T := TX0) (N := 9) (host := "TwoLakes") (ref := RX0) hx hb hts (fun _ h => (List.mem_cons_of_mem _ (List.mem_append_right _ h))) hown hK.1 hP 5 rfl rfl 8 (by decide) (va_Nw.use rfl (hK.2.1 (RX3, 44, RX0, "startCosts", "[I") (List.mem_of_getElem? (i := 30) rfl))) (fun _ h9 => h9) rfl dX3_tryFromAllModes_31 ?_
    refine lv_iload_n hx hb dX3_tryFromAllModes_34 rfl (lv_at hl 3 rfl) ?_
    refine lv_bipush (v := 9) hx hb dX3_tryFromAllModes_35 (by decide) ?_
    refine lv_imul hx hb dX3_tryFromAllModes_37 ?_
    refine w_top (show ((nI d) * 9) = (nI (d * 9)) from pk_mul _ _) ?_
    refine lv_iload hx hb dX3_tryFromAllModes_38 (lv_at hl 5 rfl) ?_
    refine lv_iadd hx hb dX3_tryFromAllModes_40 ?_
    refine w_top (show ((nI (d * 9)) + (nI k)) = (nI ((d * 9) + k)) from nI_add _ _) ?_
    refine n_iald (f := f 23) hx hb hK.1 hP 10 0 rfl rfl (i := (d * 9) + k) (by omega) (by decide) dX3_tryFromAllModes_41 ?_
    refine lv_istore (lv' := [(6, .int (f 23 ((d * 9) + k))), (0, .ref (q 0)), (1, .ref (r 4)), (2, .int (nI h)), (3, .int (nI d)), (4, .int (pr h * f 18 (h * 9 + d))), (5, .int (nI k))]) hx hb dX3_tryFromAllModes_42 hl (by decide) rfl (fun ls hl => ?_)
    refine lv_iload hx hb dX3_tryFromAllModes_44 (lv_at hl 0 rfl) ?_
    refine lv_iconst (v := (-1)) hx hb dX3_tryFromAllModes_46 (by decide) ?_
    refine lv_icmp_eq (tgt := 69) hx hb dX3_tryFromAllModes_47 (by decide) (fun c_2 => ?_) (fun c_2 => ?_)
    · skip
      refine lv_iinc (v := (nI (k + 1))) (lv' := [(5, .int (nI (k + 1))), (6, .int (f 23 ((d * 9) + k))), (0, .ref (q 0)), (1, .ref (r 4)), (2, .int (nI h)), (3, .int (nI d)), (4, .int (pr h * f 18 (h * 9 + d)))]) hx hb dX3_tryFromAllModes_69 hl (k := 6) rfl (nI_1 _) (by decide) rfl (fun ls hl => ?_)
      refine lv_goto (tgt := 23) hx hb dX3_tryFromAllModes_72 (by decide) ?_
      rw [fRv_skip c_2, fRc_skip c_2] at hP hD
      exact ih23 (H, locs, ls, k + 1) ⟨hP, hD, hS, lv_sub hl [2, 3, 4, 5, 6, 0] rfl, by omega⟩ (by dsimp only; omega)
    · skip
      refine lv_aload_n hx hb dX3_tryFromAllModes_50 rfl (lv_at hl 1 rfl) ?_
      refine lv_aload_n hx hb dX3_tryFromAllModes_51 rfl (lv_at hl 2 rfl) ?_
      refine lv_iload_n hx hb dX3_tryFromAllModes_52 rfl (lv_at hl 3 rfl) ?_
      refine lv_iload_n hx hb dX3_tryFromAllModes_53 rfl (lv_at hl 4 rfl) ?_
      refine lv_iload hx hb dX3_tryFromAllModes_54 (lv_at hl 6 rfl) ?_
      refine lv_iload hx hb dX3_tryFromAllModes_56 (lv_at hl 5 rfl) ?_
      refine lv_iload hx hb dX3_tryFromAllModes_58 (lv_at hl 0 rfl) ?_
      refine lv_aload_n hx hb dX3_tryFromAllModes_60 rfl (lv_at hl 1 rfl) ?_
      refine va_get (D := E.1) (ci := 3) (v := .int sc) (C := RX3) (T := TX3) (N := 5) hx hb hts (fun _ h => (List.mem_cons_of_mem _ (List.mem_append_left _ (List.mem_append_right _ h)))) hown hK.1 hP 0 rfl rfl 1 (by decide) (hts _ (List.mem_of_getElem? (i := 2) rfl)) (fun _ h9 => h9) rfl dX3_tryFromAllModes_61 ?_
      refine lv_imul hx hb dX3_tryFromAllModes_64 ?_
      refine lv_isub hx hb dX3_tryFromAllModes_65 ?_
      refine cM_v (As := [.ref (q 0), .ref (r 4), .int (nI h), .int (nI d), .int (nI k), .int ((pr h * f 18 (h * 9 + d)) - ((f 23 ((d * 9) + k)) * sc))]) (wr := []) (rM_V ⟨hx, hb, hml, hown, hts⟩ (c_X3_tryAtAllLevels l E q r sc pr (fRv f h d sc pr be va ch k) be (fRc f h d sc pr be va ch k) f H.size h d k ((pr h * f 18 (h * 9 + d)) - ((f 23 ((d * 9) + k)) * sc)) (by omega) (by omega) (by omega) hop) (cwV 5 hts gX3_tryFromAllModes_X3_tryAtAllLevels rfl rfl rfl (by decide +kernel) ⟨Nat.le_of_ble_eq_true rfl, Nat.le_of_ble_eq_true rfl⟩) hK hP hD 3 0 rfl rfl rfl hl.1 rfl (Nat.le_of_ble_eq_true rfl) dX3_tryFromAllModes_66 ⟨Nat.le_of_ble_eq_true rfl, Nat.le_of_ble_eq_true rfl⟩) hP hD hS hA [0, 1, 2, 3, 4, 5, 6, 7, 8, 9, 10] [] rfl rfl (by decide) (by decide) (fun u_3 H locs hq_3 hP hD hS => ?_)
      obtain ⟨V_3, C_3⟩ := u_3
      obtain ⟨e1, e2⟩ := hq_3
      dsimp only at e1 e2
      rw [show ((pr h * f 18 (h * 9 + d)) - ((f 23 ((d * 9) + k)) * sc)) = fMon f h d sc pr k from rfl, fRv_call c_2] at e1
      rw [show ((pr h * f 18 (h * 9 + d)) - ((f 23 ((d * 9) + k)) * sc)) = fMon f h d sc pr k from rfl, fRc_call c_2] at e2
      subst e1 e2
      have hP : va_P E.1 vwCl (PW E q r sc pr (fRv f h d sc pr be va ch (k + 1)) be (fRc f h d sc pr be va ch (k + 1)) f) H := hP
      have hD : va_D A (PW E q r sc pr (fRv f h d sc pr be va ch (k + 1)) be (fRc f h d sc pr be va ch (k + 1)) f) := hD
      refine lv_iinc (v := (nI (k + 1))) (lv' := [(5, .int (nI (k + 1))), (6, .int (f 23 ((d * 9) + k))), (0, .ref (q 0)), (1, .ref (r 4)), (2, .int (nI h)), (3, .int (nI d)), (4, .int (pr h * f 18 (h * 9 + d)))]) hx hb dX3_tryFromAllModes_69 hl (k := 6) rfl (nI_1 _) (by decide) rfl (fun ls hl => ?_)
      refine lv_goto (tgt := 23) hx hb dX3_tryFromAllModes_72 (by decide) ?_
      exact ih23 (H, locs, ls, k + 1) ⟨hP, hD, hS, lv_sub hl [2, 3, 4, 5, 6, 0] rfl, by omega⟩ (by dsimp only; omega)
