set_option maxHeartbeats 4000000 in
set_option maxRecDepth 100000 in
theorem c_J7_fill_53178 (l : Launch) (E : GG) (q n : Nat) (g : Nat → Int32) (sz : Nat) (y : Int32) (hn : n < 2 ^ 31) : Met l yJ7_fill_53178 wsJ7_fill_53178 (Rm 0 0 0) (pM E [.ref q, .int y] ([(q, .inl (E.2 0, n, .inl g))]) sz) (va_Qv (fun (F : Nat → Int32) => F = rowF g 0 n y) (bM E (va_A ([(q, .inl (E.2 0, n, .inl g))]) sz) (fun (F : Nat → Int32) => [(q, .inl (E.2 0, n, .inl F))])) (va_A ([(q, .inl (E.2 0, n, .inl g))]) sz)) 0 0 (va_A ([(q, .inl (E.2 0, n, .inl g))]) sz) := by
  refine ofM (by decide) rfl (Nat.le_of_ble_eq_true rfl) ?_
  intro p e s m below meth c A hx hb hr hlocks hml hown hin hts hK hP hD hS hA hsz hAe ls hl
  rw [← hAe]
  have hl : lv_has ls 4 [(0, .ref q), (1, .int y)] := hl
  refine lv_iconst (v := 0) hx hb dJ7_fill_53178_0 (by decide) ?_
  refine lv_istore_n (lv' := [(2, .int 0), (0, .ref q), (1, .int y)]) hx hb dJ7_fill_53178_1 rfl hl (by decide) rfl (fun ls hl => ?_)
  refine lv_aload_n hx hb dJ7_fill_53178_2 rfl (lv_at hl 1 rfl) ?_
  refine va_alen (v := nI n) hx hb hK.1 hP 0 0 rfl rfl rfl dJ7_fill_53178_3 ?_
  refine lv_istore_n (lv' := [(3, .int (nI n)), (2, .int 0), (0, .ref q), (1, .int y)]) hx hb dJ7_fill_53178_4 rfl hl (by decide) rfl (fun ls hl => ?_)
  have hP : va_P E.1 vwCl [(q, .inl (E.2 0, n, .inl (rowF g 0 0 y)))] s.heap := by rw [rowF_0]; exact hP
  have hD : va_D A [(q, .inl (E.2 0, n, .inl (rowF g 0 0 y)))] := by rw [rowF_0]; exact hD
  refine w_while (σ := Heap × List Loc × Array Slot × Nat) (fun ⟨H, locs, ls, k⟩ => n - k) (fun ⟨H, locs, ls, k⟩ => va_P E.1 vwCl ([(q, .inl (E.2 0, n, .inl (rowF g 0 k y)))]) H ∧ va_D A ([(q, .inl (E.2 0, n, .inl (rowF g 0 k y)))]) ∧ va_S A s.heap H locs ∧ lv_has ls 4 [(0, .ref q), (1, .int y), (2, .int (nI k)), (3, .int (nI n))] ∧ k ≤ n) (fun ⟨H, locs, ls, k⟩ => H) (fun ⟨H, locs, ls, k⟩ => locs) (fun ⟨H, locs, ls, k⟩ => F0 m 5 ls []) ?_ (s.heap, [], ls, 0) ⟨hP, hD, hS, lv_sub hl [2, 3, 1, 0] rfl, Nat.zero_le _⟩
  rintro ⟨H, locs, ls, k⟩ ⟨hP, hD, hS, hl, hk⟩ ih5
  dsimp only at hP hD hS hl ⊢
  refine lv_iload_n hx hb dJ7_fill_53178_5 rfl (lv_at hl 2 rfl) ?_
  refine lv_iload_n hx hb dJ7_fill_53178_6 rfl (lv_at hl 3 rfl) ?_
  refine n_icmp_ge (tgt := 20) (a := k) (b := n) hx hb dJ7_fill_53178_7 (by decide) (by omega) (by omega) (fun c_1 => ?_) (fun c_1 => ?_)
  · skip
    exact qv_ret (rowF g 0 k y : Nat → Int32) hx hb hr hlocks (by rw [show k = n by omega]) hP hD hS dJ7_fill_53178_20
  · skip
    refine lv_aload_n hx hb dJ7_fill_53178_10 rfl (lv_at hl 0 rfl) ?_
    refine lv_iload_n hx hb dJ7_fill_53178_11 rfl (lv_at hl 2 rfl) ?_
    refine lv_iload_n hx hb dJ7_fill_53178_12 rfl (lv_at hl 1 rfl) ?_
    refine n_iast (f := rowF g 0 k y) hx hb hK.1 hP hD hS 0 0 rfl rfl (i := k) (by omega) (by omega) dJ7_fill_53178_13 (fun H locs hP hD hS => ?_)
    have hP : va_P E.1 vwCl [(q, .inl (E.2 0, n, .inl (upd (rowF g 0 k y) k y)))] H := hP
    have hD : va_D A [(q, .inl (E.2 0, n, .inl (upd (rowF g 0 k y) k y)))] := hD
    refine lv_iinc (v := (nI (k + 1))) (lv' := [(2, .int (nI (k + 1))), (0, .ref q), (1, .int y), (3, .int (nI n))]) hx hb dJ7_fill_53178_14 hl (k := 2) rfl (nI_1 _) (by decide) rfl (fun ls hl => ?_)
    refine lv_goto (tgt := 5) hx hb dJ7_fill_53178_17 (by decide) ?_
    rw [rowF_s (by omega)] at hP hD
    exact ih5 (H, locs, ls, k + 1) ⟨hP, hD, hS, lv_sub hl [1, 2, 0, 3] rfl, by omega⟩ (by dsimp only; omega)
