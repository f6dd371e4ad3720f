abbrev OW (E : GG) (q : Nat → Nat) (sc : Int32) (pr va be ch : Nat → Int32) : va_W := [(q 0, .inr (3, [.ref (q 1), .int sc, .ref (q 2), .ref (q 3), .ref (q 4)])), (q 1, .inl (E.2 0, 24, .inl pr)), (q 2, .inl (E.2 0, 369, .inl va)), (q 3, .inl (E.2 0, 369, .inl be)), (q 4, .inl (E.2 0, 369, .inl ch))]
def endRow (x : Int32) : Nat → Int32 := fun j => nI (j / 9) * x
set_option maxHeartbeats 4000000 in
set_option maxRecDepth 100000 in
theorem c_X3_endWith (l : Launch) (E : GG) (q : Nat → Nat) (sc : Int32) (pr va be ch : Nat → Int32) (sz : Nat) (x : Int32)  : Met l yX3_endWith wsX3_endWith (Rm 0 0 0) (pM E [.ref (q 0), .int x] (OW E q sc pr va be ch) sz) (va_Qv (fun (V : Nat → Int32) => V = rowG va 369 (endRow x)) (bM E (va_A (OW E q sc pr va be ch) sz) (fun (V : Nat → Int32) => OW E q sc pr V be ch)) (va_A (OW E q sc pr va be ch) sz)) 0 0 (va_A (OW E q sc pr va be ch) sz) := by
  refine ofM (by decide) rfl (Nat.le_of_ble_eq_true rfl) ?_
  intro p e s m below meth c A hx hb hr hlocks hml hown hin hts hK hP hD hS hA hsz hAe ls hl
  rw [← hAe]
  have hl : lv_has ls 3 [(0, .ref (q 0)), (1, .int x)] := hl
  refine lv_iconst (v := 0) hx hb dX3_endWith_0 (by decide) ?_
  refine lv_istore_n (lv' := [(2, .int 0), (0, .ref (q 0)), (1, .int x)]) hx hb dX3_endWith_1 rfl hl (by decide) rfl (fun ls hl => ?_)
  have hP : va_P E.1 vwCl (OW E q sc pr (rowG va 0 (endRow x)) be ch) s.heap := by rw [rowG_0]; exact hP
  have hD : va_D A (OW E q sc pr (rowG va 0 (endRow x)) be ch) := by rw [rowG_0]; exact hD
  refine w_while (σ := Heap × List Loc × Array Slot × Nat) (fun ⟨H, locs, ls, k⟩ => 369 - k) (fun ⟨H, locs, ls, k⟩ => va_P E.1 vwCl (OW E q sc pr (rowG va k (endRow x)) be ch) H ∧ va_D A (OW E q sc pr (rowG va k (endRow x)) be ch) ∧ va_S A s.heap H locs ∧ lv_has ls 3 [(0, .ref (q 0)), (1, .int x), (2, .int (nI k))] ∧ k ≤ 369) (fun ⟨H, locs, ls, k⟩ => H) (fun ⟨H, locs, ls, k⟩ => locs) (fun ⟨H, locs, ls, k⟩ => F0 m 2 ls []) ?_ (s.heap, [], ls, 0) ⟨hP, hD, hS, lv_sub hl [1, 2, 0] rfl, Nat.zero_le _⟩
  rintro ⟨H, locs, ls, k⟩ ⟨hP, hD, hS, hl, hk⟩ ih2
  dsimp only at hP hD hS hl ⊢
  refine lv_iload_n hx hb dX3_endWith_2 rfl (lv_at hl 2 rfl) ?_
  refine lv_sipush (v := 369) hx hb dX3_endWith_3 (by decide) ?_
  refine n_icmp_ge (tgt := 27) (a := k) (b := 369) hx hb dX3_endWith_6 (by decide) (by omega) (by omega) (fun c_1 => ?_) (fun c_1 => ?_)
  · skip
    exact qv_ret (rowG va k (endRow x) : Nat → Int32) hx hb hr hlocks (by rw [show k = 369 by omega]) hP hD hS dX3_endWith_27
  · skip
    refine lv_aload_n hx hb dX3_endWith_9 rfl (lv_at hl 0 rfl) ?_
    refine va_get (D := E.1) (ci := 3) (v := .ref (q 2)) (C := RX3) (T := TX3) (N := 5) hx hb hts (fun _ h => (List.mem_cons_of_mem _ (List.mem_append_right _ h))) hown hK.1 hP 0 rfl rfl 2 (by decide) (hts _ (List.mem_of_getElem? (i := 1) rfl)) (fun _ h9 => h9) rfl dX3_endWith_10 ?_
    refine lv_iload_n hx hb dX3_endWith_13 rfl (lv_at hl 2 rfl) ?_
    refine lv_iload_n hx hb dX3_endWith_14 rfl (lv_at hl 2 rfl) ?_
    refine lv_bipush (v := 9) hx hb dX3_endWith_15 (by decide) ?_
    refine lv_idiv hx hb dX3_endWith_17 (by decide) ?_
    refine w_top (show ((nI k) / 9) = (nI (k / 9)) from pk_div (a := k) (d := 9) (by omega) (by decide) (by decide)) ?_
    refine lv_iload_n hx hb dX3_endWith_18 rfl (lv_at hl 1 rfl) ?_
    refine lv_imul hx hb dX3_endWith_19 ?_
    refine n_iast (f := rowG va k (endRow x)) hx hb hK.1 hP hD hS 2 0 rfl rfl (i := k) (by omega) (by decide) dX3_endWith_20 (fun H locs hP hD hS => ?_)
    have hP : va_P E.1 vwCl (OW E q sc pr (upd (rowG va k (endRow x)) k ((nI (k / 9)) * x)) be ch) H := hP
    have hD : va_D A (OW E q sc pr (upd (rowG va k (endRow x)) k ((nI (k / 9)) * x)) be ch) := hD
    refine lv_iinc (v := (nI (k + 1))) (lv' := [(2, .int (nI (k + 1))), (0, .ref (q 0)), (1, .int x)]) hx hb dX3_endWith_21 hl (k := 2) rfl (nI_1 _) (by decide) rfl (fun ls hl => ?_)
    refine lv_goto (tgt := 2) hx hb dX3_endWith_24 (by decide) ?_
    rw [rowG_s (s := endRow x) (n := k) (x := nI (k / 9) * x) rfl] at hP hD
    exact ih2 (H, locs, ls, k + 1) ⟨hP, hD, hS, lv_sub hl [1, 2, 0] rfl, by omega⟩ (by dsimp only; omega)
