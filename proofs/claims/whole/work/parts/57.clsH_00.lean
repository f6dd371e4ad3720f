def mixP (pr pr' : Nat → Int32) (x : Int32) : Nat → Int32 := fun j => pr j + x * pr' j
def mixV (va va' : Nat → Int32) (x : Int32) : Nat → Int32 := fun j => if va j = -1000000000 ∨ va' j = -1000000000 then -1000000000 else va j + x * va' j
theorem rowG_at {g s : Nat → Int32} {n : Nat} : rowG g n s n = g n := if_neg (Nat.lt_irrefl _)
set_option maxHeartbeats 4000000 in
set_option maxRecDepth 100000 in
theorem c_X3_mixIn (l : Launch) (E : GG) (q : Nat → Nat) (sc : Int32) (pr va be ch : Nat → Int32) (q2 : Nat → Nat) (sc2 : Int32) (pr2 va2 be2 ch2 : Nat → Int32) (sz : Nat) (x : Int32)  : Met l yX3_mixIn wsX3_mixIn (Rm 0 0 0) (pM E [.ref (q 0), .ref (q2 0), .int x] (OW E q sc pr va be ch ++ OW E q2 sc2 pr2 va2 be2 ch2) sz) (va_Qv (fun (u : (Nat → Int32) × (Nat → Int32)) => u.1 = rowG pr 24 (mixP pr pr2 x) ∧ u.2 = rowG va 369 (mixV va va2 x)) (bM E (va_A (OW E q sc pr va be ch ++ OW E q2 sc2 pr2 va2 be2 ch2) sz) (fun (u : (Nat → Int32) × (Nat → Int32)) => OW E q (sc + x) u.1 u.2 be ch ++ OW E q2 sc2 pr2 va2 be2 ch2)) (va_A (OW E q sc pr va be ch ++ OW E q2 sc2 pr2 va2 be2 ch2) sz)) 0 0 (va_A (OW E q sc pr va be ch ++ OW E q2 sc2 pr2 va2 be2 ch2) sz) := by
  refine ofM (by decide) rfl (Nat.le_of_ble_eq_true rfl) ?_
  intro p e s m below meth c A hx hb hr hlocks hml hown hin hts hK hP hD hS hA hsz hAe ls hl
  rw [← hAe]
  have hl : lv_has ls 5 [(0, .ref (q 0)), (1, .ref (q2 0)), (2, .int x)] := hl
  refine lv_aload_n hx hb dX3_mixIn_0 rfl (lv_at hl 0 rfl) ?_
  refine lv_dup hx hb dX3_mixIn_1 rfl ?_
  refine va_get (D := E.1) (ci := 3) (v := .int sc) (C := RX3) (T := TX3) (N := 5) hx hb hts (fun _ h => (List.mem_cons_of_mem _ (List.mem_append_right _ h))) hown hK.1 hP 0 rfl rfl 1 (by decide) (hts _ (List.mem_of_getElem? (i := 1) rfl)) (fun _ h9 => h9) rfl dX3_mixIn_2 ?_
  refine lv_iload_n hx hb dX3_mixIn_5 rfl (lv_at hl 2 rfl) ?_
  refine lv_iadd hx hb dX3_mixIn_6 ?_
  refine va_put (D := E.1) (ci := 3) (v := .int (sc + x)) (ty := .int) (C := RX3) (T := TX3) (N := 5) hx hb hts (fun _ h => (List.mem_cons_of_mem _ (List.mem_append_right _ h))) tyX3 tyX3_ok nmX3 hown hK.1 hP hD hS 0 rfl rfl 1 (by decide) (hts _ (List.mem_of_getElem? (i := 1) rfl)) (fun _ h9 => h9) rfl (by decide +kernel) rfl rfl (Nat.le_of_ble_eq_true rfl) dX3_mixIn_7 (fun H locs hP hD hS => ?_)
  have hP : va_P E.1 vwCl (OW E q (sc + x) pr va be ch ++ OW E q2 sc2 pr2 va2 be2 ch2) H := hP
  have hD : va_D A (OW E q (sc + x) pr va be ch ++ OW E q2 sc2 pr2 va2 be2 ch2) := hD
  refine lv_iconst (v := 0) hx hb dX3_mixIn_10 (by decide) ?_
  refine lv_istore_n (lv' := [(3, .int 0), (0, .ref (q 0)), (1, .ref (q2 0)), (2, .int x)]) hx hb dX3_mixIn_11 rfl hl (by decide) rfl (fun ls hl => ?_)
  have hP : va_P E.1 vwCl (OW E q (sc + x) (rowG pr 0 (mixP pr pr2 x)) va be ch ++ OW E q2 sc2 pr2 va2 be2 ch2) H := by rw [rowG_0]; exact hP
  have hD : va_D A (OW E q (sc + x) (rowG pr 0 (mixP pr pr2 x)) va be ch ++ OW E q2 sc2 pr2 va2 be2 ch2) := by rw [rowG_0]; exact hD
  refine w_while (σ := Heap × List Loc × Array Slot × Nat) (fun ⟨H, locs, ls, k⟩ => 24 - k) (fun ⟨H, locs, ls, k⟩ => va_P E.1 vwCl (OW E q (sc + x) (rowG pr k (mixP pr pr2 x)) va be ch ++ OW E q2 sc2 pr2 va2 be2 ch2) H ∧ va_D A (OW E q (sc + x) (rowG pr k (mixP pr pr2 x)) va be ch ++ OW E q2 sc2 pr2 va2 be2 ch2) ∧ va_S A s.heap H locs ∧ lv_has ls 5 [(0, .ref (q 0)), (1, .ref (q2 0)), (2, .int x), (3, .int (nI k))] ∧ k ≤ 24) (fun ⟨H, locs, ls, k⟩ => H) (fun ⟨H, locs, ls, k⟩ => locs) (fun ⟨H, locs, ls, k⟩ => F0 m 12 ls []) ?_ (H, locs, ls, 0) ⟨hP, hD, hS, lv_sub hl [1, 2, 3, 0] rfl, Nat.zero_le _⟩
  rintro ⟨H, locs, ls, k⟩ ⟨hP, hD, hS, hl, hk⟩ ih12
  dsimp only at hP hD hS hl ⊢
  refine lv_iload_n hx hb dX3_mixIn_12 rfl (lv_at hl 3 rfl) ?_
  refine lv_bipush (v := 24) hx hb dX3_mixIn_13 (by decide) ?_
  refine n_icmp_ge (tgt := 41) (a := k) (b := 24) hx hb dX3_mixIn_15 (by decide) (by omega) (by omega) (fun c_1 => ?_) (fun c_1 => ?_)
  · skip
    refine lv_iconst (v := 0) hx hb dX3_mixIn_41 (by decide) ?_
    refine lv_istore_n (lv' := [(3, .int 0), (0, .ref (q 0)), (1, .ref (q2 0)), (2, .int x)]) hx hb dX3_mixIn_42 rfl hl (by decide) rfl (fun ls hl => ?_)
    have hP : va_P E.1 vwCl (OW E q (sc + x) (rowG pr 24 (mixP pr pr2 x)) (rowG va 0 (mixV va va2 x)) be ch ++ OW E q2 sc2 pr2 va2 be2 ch2) H := by rw [rowG_0]; exact (show k = 24 by omega) ▸ hP
    have hD : va_D A (OW E q (sc + x) (rowG pr 24 (mixP pr pr2 x)) (rowG va 0 (mixV va va2 x)) be ch ++ OW E q2 sc2 pr2 va2 be2 ch2) := by rw [rowG_0]; exact (show k = 24 by omega) ▸ hD
    refine w_while (σ := Heap × List Loc × Array Slot × Nat) (fun ⟨H, locs, ls, k⟩ => 369 - k) (fun ⟨H, locs, ls, k⟩ => va_P E.1 vwCl (OW E q (sc + x) (rowG pr 24 (mixP pr pr2 x)) (rowG va k (mixV va va2 x)) be ch ++ OW E q2 sc2 pr2 va2 be2 ch2) H ∧ va_D A (OW E q (sc + x) (rowG pr 24 (mixP pr pr2 x)) (rowG va k (mixV va va2 x)) be ch ++ OW E q2 sc2 pr2 va2 be2 ch2) ∧ va_S A s.heap H locs ∧ lv_has ls 5 [(0, .ref (q 0)), (1, .ref (q2 0)), (2, .int x), (3, .int (nI k))] ∧ k ≤ 369) (fun ⟨H, locs, ls, k⟩ => H) (fun ⟨H, locs, ls, k⟩ => locs) (fun ⟨H, locs, ls, k⟩ => F0 m 43 ls []) ?_ (H, locs, ls, 0) ⟨hP, hD, hS, lv_sub hl [1, 2, 3, 0] rfl, Nat.zero_le _⟩
    rintro ⟨H, locs, ls, k⟩ ⟨hP, hD, hS, hl, hk⟩ ih43
    dsimp only at hP hD hS hl ⊢
    refine lv_iload_n hx hb dX3_mixIn_43 rfl (lv_at hl 3 rfl) ?_
    refine lv_sipush (v := 369) hx hb dX3_mixIn_44 (by decide) ?_
    refine n_icmp_ge (tgt := 116) (a := k) (b := 369) hx hb dX3_mixIn_47 (by decide) (by omega) (by omega) (fun c_2 => ?_) (fun c_2 => ?_)
    · skip
      exact qv_ret ((rowG pr 24 (mixP pr pr2 x), rowG va k (mixV va va2 x)) : (Nat → Int32) × (Nat → Int32)) hx hb hr hlocks ⟨rfl, by rw [show k = 369 by omega]⟩ hP hD hS dX3_mixIn_116
    · skip
      refine w_join (fun z9 : Int32 => z9 = bI (va k = -1000000000 ∨ va2 k = -1000000000)) (fun z9 => F0 m 77 ls (.int z9 :: [])) ?_ (fun J77 => ?_)
      · rintro _ rfl
        refine lv_istore (lv' := [(4, .int (bI (va k = -1000000000 ∨ va2 k = -1000000000))), (0, .ref (q 0)), (1, .ref (q2 0)), (2, .int x), (3, .int (nI k))]) hx hb dX3_mixIn_77 hl (by decide) rfl (fun ls hl => ?_)
        refine lv_aload_n hx hb dX3_mixIn_79 rfl (lv_at hl 1 rfl) ?_
        refine va_get (D := E.1) (ci := 3) (v := .ref (q 2)) (C := RX3) (T := TX3) (N := 5) hx hb hts (fun _ h => (List.mem_cons_of_mem _ (List.mem_append_right _ h))) hown hK.1 hP 0 rfl rfl 2 (by decide) (hts _ (List.mem_of_getElem? (i := 3) rfl)) (fun _ h9 => h9) rfl dX3_mixIn_80 ?_
        refine lv_iload_n hx hb dX3_mixIn_83 rfl (lv_at hl 4 rfl) ?_
        refine w_join (fun z9 : Int32 => z9 = mixV va va2 x k) (fun z9 => F0 m 109 ls (.int z9 :: [.int (nI k), .ref (q 2)])) ?_ (fun J109 => ?_)
        · rintro _ rfl
          refine n_iast (f := rowG va k (mixV va va2 x)) hx hb hK.1 hP hD hS 2 0 rfl rfl (i := k) (by omega) (by decide) dX3_mixIn_109 (fun H locs hP hD hS => ?_)
          have hP : va_P E.1 vwCl (OW E q (sc + x) (rowG pr 24 (mixP pr pr2 x)) (upd (rowG va k (mixV va va2 x)) k (mixV va va2 x k)) be ch ++ OW E q2 sc2 pr2 va2 be2 ch2) H := hP
          have hD : va_D A (OW E q (sc + x) (rowG pr 24 (mixP pr pr2 x)) (upd (rowG va k (mixV va va2 x)) k (mixV va va2 x k)) be ch ++ OW E q2 sc2 pr2 va2 be2 ch2) := hD
          refine lv_iinc (v := (nI (k + 1))) (lv' := [(3, .int (nI (k + 1))), (4, .int (bI (va k = -1000000000 ∨ va2 k = -1000000000))), (0, .ref (q 0)), (1, .ref (q2 0)), (2, .int x)]) hx hb dX3_mixIn_110 hl (k := 4) rfl (nI_1 _) (by decide) rfl (fun ls hl => ?_)
          refine lv_goto (tgt := 43) hx hb dX3_mixIn_113 (by decide) ?_
          rw [rowG_s (s := mixV va va2 x) (n := k) (x := mixV va va2 x k) rfl] at hP hD
          exact ih43 (H, locs, ls, k + 1) ⟨hP, hD, hS, lv_sub hl [2, 3, 4, 0] rfl, by omega⟩ (by dsimp only; omega)
        · skip
          refine lv_iload hx hb dX3_mixIn_84 (lv_at hl 0 rfl) ?_
          refine b_if_eq (q := (va k = -1000000000 ∨ va2 k = -1000000000)) (tgt := 94) hx hb dX3_mixIn_86 (by decide) (fun c_3 => ?_) (fun c_3 => ?_)
          · skip
            refine lv_aload_n hx hb dX3_mixIn_94 rfl (lv_at hl 1 rfl) ?_
            refine va_get (D := E.1) (ci := 3) (v := .ref (q 2)) (C := RX3) (T := TX3) (N := 5) hx hb hts (fun _ h => (List.mem_cons_of_mem _ (List.mem_append_right _ h))) hown hK.1 hP 0 rfl rfl 2 (by decide) (hts _ (List.mem_of_getElem? (i := 3) rfl)) (fun _ h9 => h9) rfl dX3_mixIn_95 ?_
            refine lv_iload_n hx hb dX3_mixIn_98 rfl (lv_at hl 4 rfl) ?_
            refine n_iald (f := rowG va k (mixV va va2 x)) hx hb hK.1 hP 2 0 rfl rfl (i := k) (by omega) (by decide) dX3_mixIn_99 ?_
            refine w_top (show (rowG va k (mixV va va2 x) k) = (va k) from rowG_at) ?_
            refine lv_iload_n hx hb dX3_mixIn_100 rfl (lv_at hl 3 rfl) ?_
            refine lv_aload_n hx hb dX3_mixIn_101 rfl (lv_at hl 2 rfl) ?_
            refine va_get (D := E.1) (ci := 3) (v := .ref (q2 2)) (C := RX3) (T := TX3) (N := 5) hx hb hts (fun _ h => (List.mem_cons_of_mem _ (List.mem_append_right _ h))) hown hK.1 hP 5 rfl rfl 2 (by decide) (hts _ (List.mem_of_getElem? (i := 3) rfl)) (fun _ h9 => h9) rfl dX3_mixIn_102 ?_
            refine lv_iload_n hx hb dX3_mixIn_105 rfl (lv_at hl 4 rfl) ?_
            refine n_iald (f := va2) hx hb hK.1 hP 7 0 rfl rfl (i := k) (by omega) (by decide) dX3_mixIn_106 ?_
            refine lv_imul hx hb dX3_mixIn_107 ?_
            refine lv_iadd hx hb dX3_mixIn_108 ?_
            exact J109 _ (if_neg c_3).symm
          · skip
            refine lv_ldc hx hb hown (hts _ (List.mem_of_getElem? (i := 4) rfl)) dX3_mixIn_89 ?_
            refine lv_goto (tgt := 109) hx hb dX3_mixIn_91 (by decide) ?_
            exact J109 _ (if_pos c_3).symm
      · skip
        refine lv_aload_n hx hb dX3_mixIn_50 rfl (lv_at hl 0 rfl) ?_
        refine va_get (D := E.1) (ci := 3) (v := .ref (q 2)) (C := RX3) (T := TX3) (N := 5) hx hb hts (fun _ h => (List.mem_cons_of_mem _ (List.mem_append_right _ h))) hown hK.1 hP 0 rfl rfl 2 (by decide) (hts _ (List.mem_of_getElem? (i := 3) rfl)) (fun _ h9 => h9) rfl dX3_mixIn_51 ?_
        refine lv_iload_n hx hb dX3_mixIn_54 rfl (lv_at hl 3 rfl) ?_
        refine n_iald (f := rowG va k (mixV va va2 x)) hx hb hK.1 hP 2 0 rfl rfl (i := k) (by omega) (by decide) dX3_mixIn_55 ?_
        refine w_top (show (rowG va k (mixV va va2 x) k) = (va k) from rowG_at) ?_
        refine lv_ldc hx hb hown (hts _ (List.mem_of_getElem? (i := 4) rfl)) dX3_mixIn_56 ?_
        refine lv_icmp_eq (tgt := 72) hx hb dX3_mixIn_58 (by decide) (fun c_4 => ?_) (fun c_4 => ?_)
        · skip
          refine lv_iconst (v := 1) hx hb dX3_mixIn_72 (by decide) ?_
          refine lv_goto (tgt := 77) hx hb dX3_mixIn_73 (by decide) ?_
          exact J77 _ (by first | rfl | (simp [bI, c_1, c_2, c_4]; done) | (simp only [bI, c_1, c_2, c_4, if_true, if_false, reduceIte, not_true_eq_false, not_false_eq_true]; done) | (simp only [bI]; split <;> first | rfl | (simp_all; done) | omega) | (simp_all [bI]; done))
        · skip
          refine lv_aload_n hx hb dX3_mixIn_61 rfl (lv_at hl 1 rfl) ?_
          refine va_get (D := E.1) (ci := 3) (v := .ref (q2 2)) (C := RX3) (T := TX3) (N := 5) hx hb hts (fun _ h => (List.mem_cons_of_mem _ (List.mem_append_right _ h))) hown hK.1 hP 5 rfl rfl 2 (by decide) (hts _ (List.mem_of_getElem? (i := 3) rfl)) (fun _ h9 => h9) rfl dX3_mixIn_62 ?_
          refine lv_iload_n hx hb dX3_mixIn_65 rfl (lv_at hl 3 rfl) ?_
          refine n_iald (f := va2) hx hb hK.1 hP 7 0 rfl rfl (i := k) (by omega) (by decide) dX3_mixIn_66 ?_
          refine lv_ldc hx hb hown (hts _ (List.mem_of_getElem? (i := 4) rfl)) dX3_mixIn_67 ?_
          refine lv_icmp_ne (tgt := 76) hx hb dX3_mixIn_69 (by decide) (fun c_5 => ?_) (fun c_5 => ?_)
          · skip
            refine lv_iconst (v := 0) hx hb dX3_mixIn_76 (by decide) ?_
            exact J77 _ (by first | rfl | (simp [bI, c_1, c_2, c_4, c_5]; done) | (simp only [bI, c_1, c_2, c_4, c_5, if_true, if_false, reduceIte, not_true_eq_false, not_false_eq_true]; done) | (simp only [bI]; split <;> first | rfl | (simp_all; done) | omega) | (simp_all [bI]; done))
          · skip
            refine lv_iconst (v := 1) hx hb dX3_mixIn_72 (by decide) ?_
            refine lv_goto (tgt := 77) hx hb dX3_mixIn_73 (by decide) ?_
            exact J77 _ (by first | rfl | (simp [bI, c_1, c_2, c_4, c_5]; done) | (simp only [bI, c_1, c_2, c_4, c_5, if_true, if_false, reduceIte, not_true_eq_false, not_false_eq_true]; done) | (simp only [bI]; split <;> first | rfl | (simp_all; done) | omega) | (simp_all [bI]; done))
  · skip
    refine lv_aload_n hx hb dX3_mixIn_18 rfl (lv_at hl 0 rfl) ?_
    refine va_get (D := E.1) (ci := 3) (v := .ref (q 1)) (C := RX3) (T := TX3) (N := 5) hx hb hts (fun _ h => (List.mem_cons_of_mem _ (List.mem_append_right _ h))) hown hK.1 hP 0 rfl rfl 0 (by decide) (hts _ (List.mem_of_getElem? (i := 2) rfl)) (fun _ h9 => h9) rfl dX3_mixIn_19 ?_
    refine lv_iload_n hx hb dX3_mixIn_22 rfl (lv_at hl 3 rfl) ?_
    refine lv_dup2_11 hx hb dX3_mixIn_23 rfl rfl ?_
    refine n_iald (f := rowG pr k (mixP pr pr2 x)) hx hb hK.1 hP 1 0 rfl rfl (i := k) (by omega) (by decide) dX3_mixIn_24 ?_
    refine w_top (show (rowG pr k (mixP pr pr2 x) k) = (pr k) from rowG_at) ?_
    refine lv_iload_n hx hb dX3_mixIn_25 rfl (lv_at hl 2 rfl) ?_
    refine lv_aload_n hx hb dX3_mixIn_26 rfl (lv_at hl 1 rfl) ?_
    refine va_get (D := E.1) (ci := 3) (v := .ref (q2 1)) (C := RX3) (T := TX3) (N := 5) hx hb hts (fun _ h => (List.mem_cons_of_mem _ (List.mem_append_right _ h))) hown hK.1 hP 5 rfl rfl 0 (by decide) (hts _ (List.mem_of_getElem? (i := 2) rfl)) (fun _ h9 => h9) rfl dX3_mixIn_27 ?_
    refine lv_iload_n hx hb dX3_mixIn_30 rfl (lv_at hl 3 rfl) ?_
    refine n_iald (f := pr2) hx hb hK.1 hP 6 0 rfl rfl (i := k) (by omega) (by decide) dX3_mixIn_31 ?_
    refine lv_imul hx hb dX3_mixIn_32 ?_
    refine lv_iadd hx hb dX3_mixIn_33 ?_
    refine n_iast (f := rowG pr k (mixP pr pr2 x)) hx hb hK.1 hP hD hS 1 0 rfl rfl (i := k) (by omega) (by decide) dX3_mixIn_34 (fun H locs hP hD hS => ?_)
    have hP : va_P E.1 vwCl (OW E q (sc + x) (upd (rowG pr k (mixP pr pr2 x)) k ((pr k) + (x * (pr2 k)))) va be ch ++ OW E q2 sc2 pr2 va2 be2 ch2) H := hP
    have hD : va_D A (OW E q (sc + x) (upd (rowG pr k (mixP pr pr2 x)) k ((pr k) + (x * (pr2 k)))) va be ch ++ OW E q2 sc2 pr2 va2 be2 ch2) := hD
    refine lv_iinc (v := (nI (k + 1))) (lv' := [(3, .int (nI (k + 1))), (0, .ref (q 0)), (1, .ref (q2 0)), (2, .int x)]) hx hb dX3_mixIn_35 hl (k := 3) rfl (nI_1 _) (by decide) rfl (fun ls hl => ?_)
    refine lv_goto (tgt := 12) hx hb dX3_mixIn_38 (by decide) ?_
    rw [rowG_s (s := mixP pr pr2 x) (n := k) (x := pr k + x * pr2 k) rfl] at hP hD
    exact ih12 (H, locs, ls, k + 1) ⟨hP, hD, hS, lv_sub hl [1, 2, 3, 0] rfl, by omega⟩ (by dsimp only; omega)
