/-- the first n places of a row are those of another -/
def rowG (g : Nat → Int32) (n : Nat) (s : Nat → Int32) : Nat → Int32 := fun j => if j < n then s j else g j
theorem rowG_0 (g s : Nat → Int32) : rowG g 0 s = g := by
  funext j
  exact if_neg (Nat.not_lt_zero _)
theorem rowG_s {g s : Nat → Int32} {n : Nat} {x : Int32} (hx : x = s n) : upd (rowG g n s) n x = rowG g (n + 1) s := by
  funext j
  show (if j = n then x else if j < n then s j else g j) = if j < n + 1 then s j else g j
  by_cases h1 : j = n
  · rw [if_pos h1, if_pos (by omega), hx, h1]
  · rw [if_neg h1]
    by_cases h2 : j < n
    · rw [if_pos h2, if_pos (by omega)]
    · rw [if_neg h2, if_neg (by omega)]
noncomputable def d_costs (v : Nat → Int32) : Nat → Int32 := fun j => d_cost v (j % 9) (j / 9)
set_option maxHeartbeats 4000000 in
set_option maxRecDepth 100000 in
theorem c_X0_countStarts (l : Launch) (E : GG) (r : Nat → Nat) (v : Nat → Int32) (f : Nat → Nat → Int32) (sz : Nat)   : Met l yX0_countStarts wsX0_countStarts (Rm 2 0 0) (pM E [.ref (r 4)] (DW E r v f) sz) (va_Qv (fun (F : Nat → Nat → Int32) => F = va_up f 23 (rowG (f 23) 81 (d_costs v))) (bM E (va_A (DW E r v f) sz) (fun (F : Nat → Nat → Int32) => DW E r v F)) (va_A (DW E r v f) sz)) 0 0 (va_A (DW E r v f) sz) := by
  refine ofM (by decide) rfl (Nat.le_of_ble_eq_true rfl) ?_
  intro p e s m below meth c A hx hb hr hlocks hml hown hin hts hK hP hD hS hA hsz hAe ls hl
  rw [← hAe]
  have hl : lv_has ls 3 [(0, .ref (r 4))] := hl
  refine lv_iconst (v := 0) hx hb dX0_countStarts_0 (by decide) ?_
  refine lv_istore_n (lv' := [(1, .int 0), (0, .ref (r 4))]) hx hb dX0_countStarts_1 rfl hl (by decide) rfl (fun ls hl => ?_)
  have hP : va_P E.1 vwCl (DW E r v (va_up f 23 (rowG (f 23) (0 * 9) (d_costs v)))) s.heap := by rw [Nat.zero_mul, rowG_0]; exact hP
  have hD : va_D A (DW E r v (va_up f 23 (rowG (f 23) (0 * 9) (d_costs v)))) := by rw [Nat.zero_mul, rowG_0]; exact hD
  refine w_while (σ := Heap × List Loc × Array Slot × Nat) (fun ⟨H, locs, ls, d⟩ => 9 - d) (fun ⟨H, locs, ls, d⟩ => va_P E.1 vwCl (DW E r v (va_up f 23 (rowG (f 23) (d * 9) (d_costs v)))) H ∧ va_D A (DW E r v (va_up f 23 (rowG (f 23) (d * 9) (d_costs v)))) ∧ va_S A s.heap H locs ∧ lv_has ls 3 [(0, .ref (r 4)), (1, .int (nI d))] ∧ d ≤ 9) (fun ⟨H, locs, ls, d⟩ => H) (fun ⟨H, locs, ls, d⟩ => locs) (fun ⟨H, locs, ls, d⟩ => F0 m 2 ls []) ?_ (s.heap, [], ls, 0) ⟨hP, hD, hS, lv_sub hl [1, 0] rfl, Nat.zero_le _⟩
  rintro ⟨H, locs, ls, d⟩ ⟨hP, hD, hS, hl, hd⟩ ih2
  dsimp only at hP hD hS hl ⊢
  refine lv_iload_n hx hb dX0_countStarts_2 rfl (lv_at hl 1 rfl) ?_
  refine lv_bipush (v := 9) hx hb dX0_countStarts_3 (by decide) ?_
  refine n_icmp_ge (tgt := 45) (a := d) (b := 9) hx hb dX0_countStarts_5 (by decide) (by omega) (by omega) (fun c_1 => ?_) (fun c_1 => ?_)
  · skip
    exact qv_ret ((va_up f 23 (rowG (f 23) (d * 9) (d_costs v))) : Nat → Nat → Int32) hx hb hr hlocks (by rw [show d * 9 = 81 by omega]) hP hD hS dX0_countStarts_45
  · skip
    refine lv_iconst (v := 0) hx hb dX0_countStarts_8 (by decide) ?_
    refine lv_istore_n (lv' := [(2, .int 0), (0, .ref (r 4)), (1, .int (nI d))]) hx hb dX0_countStarts_9 rfl hl (by decide) rfl (fun ls hl => ?_)
    refine w_while (σ := Heap × List Loc × Array Slot × Nat) (fun ⟨H, locs, ls, k⟩ => 9 - k) (fun ⟨H, locs, ls, k⟩ => va_P E.1 vwCl (DW E r v (va_up f 23 (rowG (f 23) (d * 9 + k) (d_costs v)))) H ∧ va_D A (DW E r v (va_up f 23 (rowG (f 23) (d * 9 + k) (d_costs v)))) ∧ va_S A s.heap H locs ∧ lv_has ls 3 [(0, .ref (r 4)), (1, .int (nI d)), (2, .int (nI k))] ∧ k ≤ 9) (fun ⟨H, locs, ls, k⟩ => H) (fun ⟨H, locs, ls, k⟩ => locs) (fun ⟨H, locs, ls, k⟩ => F0 m 10 ls []) ?_ (H, locs, ls, 0) ⟨hP, hD, hS, lv_sub hl [1, 2, 0] rfl, Nat.zero_le _⟩
    rintro ⟨H, locs, ls, k⟩ ⟨hP, hD, hS, hl, hk⟩ ih10
    dsimp only at hP hD hS hl ⊢
    refine lv_iload_n hx hb dX0_countStarts_10 rfl (lv_at hl 2 rfl) ?_
    refine lv_bipush (v := 9) hx hb dX0_countStarts_11 (by decide) ?_
    refine n_icmp_ge (tgt := 39) (a := k) (b := 9) hx hb dX0_countStarts_13 (by decide) (by omega) (by omega) (fun c_2 => ?_) (fun c_2 => ?_)
    · skip
      refine lv_iinc (v := (nI (d + 1))) (lv' := [(1, .int (nI (d + 1))), (0, .ref (r 4)), (2, .int (nI k))]) hx hb dX0_countStarts_39 hl (k := 1) rfl (nI_1 _) (by decide) rfl (fun ls hl => ?_)
      refine lv_goto (tgt := 2) hx hb dX0_countStarts_42 (by decide) ?_
      rw [show d * 9 + k = (d + 1) * 9 by omega] at hP hD
      exact ih2 (H, locs, ls, d + 1) ⟨hP, hD, hS, lv_sub hl [1, 0] rfl, by omega⟩ (by dsimp only; omega)
    · skip
      refine lv_aload_n hx hb dX0_countStarts_16 rfl (lv_at hl 0 rfl) ?_
      refine va_get (D := E.1) (ci := 0) (v := .ref (r 23)) (C := RX0) (T := TX0) (N := 9) hx hb hts (fun _ h => (List.mem_cons_of_mem _ (List.mem_append_left _ (List.mem_append_right _ h)))) hown hK.1 hP 0 rfl rfl 8 (by decide) (hts _ (List.mem_of_getElem? (i := 1) rfl)) (fun _ h9 => h9) rfl dX0_countStarts_17 ?_
      refine lv_iload_n hx hb dX0_countStarts_20 rfl (lv_at hl 1 rfl) ?_
      refine lv_bipush (v := 9) hx hb dX0_countStarts_21 (by decide) ?_
      refine lv_imul hx hb dX0_countStarts_23 ?_
      refine w_top (show ((nI d) * 9) = (nI (d * 9)) from pk_mul _ _) ?_
      refine lv_iload_n hx hb dX0_countStarts_24 rfl (lv_at hl 2 rfl) ?_
      refine lv_iadd hx hb dX0_countStarts_25 ?_
      refine w_top (show ((nI (d * 9)) + (nI k)) = (nI ((d * 9) + k)) from nI_add _ _) ?_
      refine lv_aload_n hx hb dX0_countStarts_26 rfl (lv_at hl 0 rfl) ?_
      refine lv_iload_n hx hb dX0_countStarts_27 rfl (lv_at hl 2 rfl) ?_
      refine lv_iload_n hx hb dX0_countStarts_28 rfl (lv_at hl 1 rfl) ?_
      refine cR_V ⟨hx, hb, hml, hown, hts⟩ (c_X0_startCost l E r v (va_up f 23 (rowG (f 23) (d * 9 + k) (d_costs v))) k d (by omega) (by omega)) (cwV 2 hts gX0_countStarts_X0_startCost rfl rfl rfl (by decide +kernel) ⟨Nat.le_of_ble_eq_true rfl, Nat.le_of_ble_eq_true rfl⟩) hK hP 0 0 rfl rfl rfl hl.1 rfl (Nat.le_of_ble_eq_true rfl) dX0_countStarts_29 ⟨Nat.le_of_ble_eq_true rfl, Nat.le_of_ble_eq_true rfl⟩ ?_
      refine n_iast (f := rowG (f 23) (d * 9 + k) (d_costs v)) hx hb hK.1 hP hD hS 14 0 rfl rfl (i := (d * 9) + k) (by omega) (by decide) dX0_countStarts_32 (fun H locs hP hD hS => ?_)
      have hP : va_P E.1 vwCl (DW E r v (va_up (va_up f 23 (rowG (f 23) (d * 9 + k) (d_costs v))) 23 (upd (rowG (f 23) (d * 9 + k) (d_costs v)) ((d * 9) + k) (d_cost v k d)))) H := hP
      have hD : va_D A (DW E r v (va_up (va_up f 23 (rowG (f 23) (d * 9 + k) (d_costs v))) 23 (upd (rowG (f 23) (d * 9 + k) (d_costs v)) ((d * 9) + k) (d_cost v k d)))) := hD
      refine lv_iinc (v := (nI (k + 1))) (lv' := [(2, .int (nI (k + 1))), (0, .ref (r 4)), (1, .int (nI d))]) hx hb dX0_countStarts_33 hl (k := 2) rfl (nI_1 _) (by decide) rfl (fun ls hl => ?_)
      refine lv_goto (tgt := 10) hx hb dX0_countStarts_36 (by decide) ?_
      have hP : va_P E.1 vwCl (DW E r v (va_up f 23 (upd (rowG (f 23) (d * 9 + k) (d_costs v)) (d * 9 + k) (d_cost v k d)))) H := hP
      have hD : va_D A (DW E r v (va_up f 23 (upd (rowG (f 23) (d * 9 + k) (d_costs v)) (d * 9 + k) (d_cost v k d)))) := hD
      rw [rowG_s (by rw [d_costs, show (d * 9 + k) % 9 = k by omega, show (d * 9 + k) / 9 = d by omega])] at hP hD
      exact ih10 (H, locs, ls, k + 1) ⟨hP, hD, hS, lv_sub hl [1, 2, 0] rfl, by omega⟩ (by dsimp only; omega)
