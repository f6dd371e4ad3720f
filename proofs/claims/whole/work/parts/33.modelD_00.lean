theorem sw8 (x : Int32) : (x.toInt < 0 ∨ 8 < x.toInt) ∨ x = 0 ∨ x = 1 ∨ x = 2 ∨ x = 3 ∨ x = 4 ∨ x = 5 ∨ x = 6 ∨ x = 7 ∨ x = 8 := by
  by_cases h : x.toInt < 0 ∨ 8 < x.toInt
  · exact Or.inl h
  · have key : ∀ k : Int32, x.toInt = k.toInt → x = k := fun k hk => Int32.toInt_inj.mp hk
    have h0 : x.toInt = 0 ∨ x.toInt = 1 ∨ x.toInt = 2 ∨ x.toInt = 3 ∨ x.toInt = 4 ∨ x.toInt = 5 ∨ x.toInt = 6 ∨ x.toInt = 7 ∨ x.toInt = 8 := by omega
    rcases h0 with q | q | q | q | q | q | q | q | q
    · exact Or.inr (Or.inl (key 0 q))
    · exact Or.inr (Or.inr (Or.inl (key 1 q)))
    · exact Or.inr (Or.inr (Or.inr (Or.inl (key 2 q))))
    · exact Or.inr (Or.inr (Or.inr (Or.inr (Or.inl (key 3 q)))))
    · exact Or.inr (Or.inr (Or.inr (Or.inr (Or.inr (Or.inl (key 4 q))))))
    · exact Or.inr (Or.inr (Or.inr (Or.inr (Or.inr (Or.inr (Or.inl (key 5 q)))))))
    · exact Or.inr (Or.inr (Or.inr (Or.inr (Or.inr (Or.inr (Or.inr (Or.inl (key 6 q))))))))
    · exact Or.inr (Or.inr (Or.inr (Or.inr (Or.inr (Or.inr (Or.inr (Or.inr (Or.inl (key 7 q)))))))))
    · exact Or.inr (Or.inr (Or.inr (Or.inr (Or.inr (Or.inr (Or.inr (Or.inr (Or.inr (key 8 q)))))))))
/-- what the nine numbers are -/
def n_count (g : Nat → Int32) (x : Int32) : Int32 := if x.toInt < 0 ∨ 8 < x.toInt then -1 else g x.toNatClampNeg
def m_cnt (v : Nat → Int32) (f : Nat → Nat → Int32) : Nat → Int32 := fun k => match k with
  | 0 => v 1 | 1 => v 4 | 2 => v 5 | 3 => f 21 0 | 4 => f 21 1 | 5 => v 23 | 6 => f 22 0 | 7 => f 22 1 | _ => v 19
set_option maxHeartbeats 4000000 in
set_option maxRecDepth 100000 in
theorem c_X5_count (l : Launch) (E : GG) (r : Nat → Nat) (v : Nat → Int32) (f : Nat → Nat → Int32) (B C : Nat → Int32) (sz : Nat) (x : Int32)  : Met l yX5_count wsX5_count (Rm 0 0 0) (pM E [.ref (r 0), .int x] (MW E r v f B C) sz) (va_Qi (fun (z : Int32) (u : MS) => z = n_count (m_cnt v f) x ∧ u = (upd v 0 0, f, B, C)) (bM E (va_A (MW E r v f B C) sz) (MWu E r)) (va_A (MW E r v f B C) sz)) 0 0 (va_A (MW E r v f B C) sz) := by
  refine ofM (by decide) rfl (Nat.le_of_ble_eq_true rfl) ?_
  intro p e s m below meth c A hx hb hr hlocks hml hown hin hts hK hP hD hS hA hsz hAe ls hl
  rw [← hAe]
  have hl : lv_has ls 2 [(0, .ref (r 0)), (1, .int x)] := hl
  refine lv_aload_n hx hb dX5_count_0 rfl (lv_at hl 0 rfl) ?_
  refine lv_iconst (v := 0) hx hb dX5_count_1 (by decide) ?_
  refine va_put (D := E.1) (ci := 5) (v := .int 0) (ty := .int) (C := RX5) (T := TX5) (N := 26) hx hb hts (fun _ h => (List.mem_cons_of_mem _ (List.mem_append_right _ h))) tyX5 tyX5_ok nmX5 hown hK.1 hP hD hS 0 rfl rfl 0 (by decide) (hts _ (List.mem_of_getElem? (i := 1) rfl)) (fun _ h9 => h9) rfl (by decide +kernel) rfl rfl (Nat.le_of_ble_eq_true rfl) dX5_count_2 (fun H locs hP hD hS => ?_)
  have hP : va_P E.1 vwCl (MW E r (upd v 0 0) f B C) H := hP
  have hD : va_D A (MW E r (upd v 0 0) f B C) := hD
  refine lv_iload_n hx hb dX5_count_5 rfl (lv_at hl 1 rfl) ?_
  rcases sw8 x with hsw | rfl | rfl | rfl | rfl | rfl | rfl | rfl | rfl | rfl
  · skip
    refine lv_tableOut (tgt := 109) hx hb dX5_count_6 hsw (by decide) ?_
    refine lv_iconst (v := (-1)) hx hb dX5_count_109 (by decide) ?_
    exact q_ret (((upd v 0 0), f, B, C) : MS) hx hb hr hlocks ⟨(if_pos hsw).symm, rfl⟩ hP hD hS dX5_count_110
  · skip
    refine lv_tableIn (off := 50) (tgt := 56) hx hb dX5_count_6 (by decide) (by decide) rfl (by decide) ?_
    refine lv_aload_n hx hb dX5_count_56 rfl (lv_at hl 0 rfl) ?_
    refine va_get (D := E.1) (ci := 5) (v := .int (v 1)) (C := RX5) (T := TX5) (N := 26) hx hb hts (fun _ h => (List.mem_cons_of_mem _ (List.mem_append_right _ h))) hown hK.1 hP 0 rfl rfl 1 (by decide) (hts _ (List.mem_of_getElem? (i := 2) rfl)) (fun _ h9 => h9) rfl dX5_count_57 ?_
    exact q_ret (((upd v 0 0), f, B, C) : MS) hx hb hr hlocks ⟨by rw [n_count, if_neg (by decide)]; rfl, rfl⟩ hP hD hS dX5_count_60
  · skip
    refine lv_tableIn (off := 55) (tgt := 61) hx hb dX5_count_6 (by decide) (by decide) rfl (by decide) ?_
    refine lv_aload_n hx hb dX5_count_61 rfl (lv_at hl 0 rfl) ?_
    refine va_get (D := E.1) (ci := 5) (v := .int (v 4)) (C := RX5) (T := TX5) (N := 26) hx hb hts (fun _ h => (List.mem_cons_of_mem _ (List.mem_append_right _ h))) hown hK.1 hP 0 rfl rfl 4 (by decide) (hts _ (List.mem_of_getElem? (i := 3) rfl)) (fun _ h9 => h9) rfl dX5_count_62 ?_
    exact q_ret (((upd v 0 0), f, B, C) : MS) hx hb hr hlocks ⟨by rw [n_count, if_neg (by decide)]; rfl, rfl⟩ hP hD hS dX5_count_65
  · skip
    refine lv_tableIn (off := 60) (tgt := 66) hx hb dX5_count_6 (by decide) (by decide) rfl (by decide) ?_
    refine lv_aload_n hx hb dX5_count_66 rfl (lv_at hl 0 rfl) ?_
    refine va_get (D := E.1) (ci := 5) (v := .int (v 5)) (C := RX5) (T := TX5) (N := 26) hx hb hts (fun _ h => (List.mem_cons_of_mem _ (List.mem_append_right _ h))) hown hK.1 hP 0 rfl rfl 5 (by decide) (hts _ (List.mem_of_getElem? (i := 4) rfl)) (fun _ h9 => h9) rfl dX5_count_67 ?_
    exact q_ret (((upd v 0 0), f, B, C) : MS) hx hb hr hlocks ⟨by rw [n_count, if_neg (by decide)]; rfl, rfl⟩ hP hD hS dX5_count_70
  · skip
    refine lv_tableIn (off := 65) (tgt := 71) hx hb dX5_count_6 (by decide) (by decide) rfl (by decide) ?_
    refine lv_aload_n hx hb dX5_count_71 rfl (lv_at hl 0 rfl) ?_
    refine va_get (D := E.1) (ci := 5) (v := .ref (r 21)) (C := RX5) (T := TX5) (N := 26) hx hb hts (fun _ h => (List.mem_cons_of_mem _ (List.mem_append_right _ h))) hown hK.1 hP 0 rfl rfl 21 (by decide) (hts _ (List.mem_of_getElem? (i := 5) rfl)) (fun _ h9 => h9) rfl dX5_count_72 ?_
    refine lv_iconst (v := 0) hx hb dX5_count_75 (by decide) ?_
    refine n_iald (f := f 21) hx hb hK.1 hP 12 0 rfl rfl (i := 0) (by omega) (by decide) dX5_count_76 ?_
    exact q_ret (((upd v 0 0), f, B, C) : MS) hx hb hr hlocks ⟨by rw [n_count, if_neg (by decide)]; rfl, rfl⟩ hP hD hS dX5_count_77
  · skip
    refine lv_tableIn (off := 72) (tgt := 78) hx hb dX5_count_6 (by decide) (by decide) rfl (by decide) ?_
    refine lv_aload_n hx hb dX5_count_78 rfl (lv_at hl 0 rfl) ?_
    refine va_get (D := E.1) (ci := 5) (v := .ref (r 21)) (C := RX5) (T := TX5) (N := 26) hx hb hts (fun _ h => (List.mem_cons_of_mem _ (List.mem_append_right _ h))) hown hK.1 hP 0 rfl rfl 21 (by decide) (hts _ (List.mem_of_getElem? (i := 5) rfl)) (fun _ h9 => h9) rfl dX5_count_79 ?_
    refine lv_iconst (v := 1) hx hb dX5_count_82 (by decide) ?_
    refine n_iald (f := f 21) hx hb hK.1 hP 12 0 rfl rfl (i := 1) (by omega) (by decide) dX5_count_83 ?_
    exact q_ret (((upd v 0 0), f, B, C) : MS) hx hb hr hlocks ⟨by rw [n_count, if_neg (by decide)]; rfl, rfl⟩ hP hD hS dX5_count_84
  · skip
    refine lv_tableIn (off := 79) (tgt := 85) hx hb dX5_count_6 (by decide) (by decide) rfl (by decide) ?_
    refine lv_aload_n hx hb dX5_count_85 rfl (lv_at hl 0 rfl) ?_
    refine va_get (D := E.1) (ci := 5) (v := .int (v 23)) (C := RX5) (T := TX5) (N := 26) hx hb hts (fun _ h => (List.mem_cons_of_mem _ (List.mem_append_right _ h))) hown hK.1 hP 0 rfl rfl 23 (by decide) (hts _ (List.mem_of_getElem? (i := 6) rfl)) (fun _ h9 => h9) rfl dX5_count_86 ?_
    exact q_ret (((upd v 0 0), f, B, C) : MS) hx hb hr hlocks ⟨by rw [n_count, if_neg (by decide)]; rfl, rfl⟩ hP hD hS dX5_count_89
  · skip
    refine lv_tableIn (off := 84) (tgt := 90) hx hb dX5_count_6 (by decide) (by decide) rfl (by decide) ?_
    refine lv_aload_n hx hb dX5_count_90 rfl (lv_at hl 0 rfl) ?_
    refine va_get (D := E.1) (ci := 5) (v := .ref (r 22)) (C := RX5) (T := TX5) (N := 26) hx hb hts (fun _ h => (List.mem_cons_of_mem _ (List.mem_append_right _ h))) hown hK.1 hP 0 rfl rfl 22 (by decide) (hts _ (List.mem_of_getElem? (i := 7) rfl)) (fun _ h9 => h9) rfl dX5_count_91 ?_
    refine lv_iconst (v := 0) hx hb dX5_count_94 (by decide) ?_
    refine n_iald (f := f 22) hx hb hK.1 hP 13 0 rfl rfl (i := 0) (by omega) (by decide) dX5_count_95 ?_
    exact q_ret (((upd v 0 0), f, B, C) : MS) hx hb hr hlocks ⟨by rw [n_count, if_neg (by decide)]; rfl, rfl⟩ hP hD hS dX5_count_96
  · skip
    refine lv_tableIn (off := 91) (tgt := 97) hx hb dX5_count_6 (by decide) (by decide) rfl (by decide) ?_
    refine lv_aload_n hx hb dX5_count_97 rfl (lv_at hl 0 rfl) ?_
    refine va_get (D := E.1) (ci := 5) (v := .ref (r 22)) (C := RX5) (T := TX5) (N := 26) hx hb hts (fun _ h => (List.mem_cons_of_mem _ (List.mem_append_right _ h))) hown hK.1 hP 0 rfl rfl 22 (by decide) (hts _ (List.mem_of_getElem? (i := 7) rfl)) (fun _ h9 => h9) rfl dX5_count_98 ?_
    refine lv_iconst (v := 1) hx hb dX5_count_101 (by decide) ?_
    refine n_iald (f := f 22) hx hb hK.1 hP 13 0 rfl rfl (i := 1) (by omega) (by decide) dX5_count_102 ?_
    exact q_ret (((upd v 0 0), f, B, C) : MS) hx hb hr hlocks ⟨by rw [n_count, if_neg (by decide)]; rfl, rfl⟩ hP hD hS dX5_count_103
  · skip
    refine lv_tableIn (off := 98) (tgt := 104) hx hb dX5_count_6 (by decide) (by decide) rfl (by decide) ?_
    refine lv_aload_n hx hb dX5_count_104 rfl (lv_at hl 0 rfl) ?_
    refine va_get (D := E.1) (ci := 5) (v := .int (v 19)) (C := RX5) (T := TX5) (N := 26) hx hb hts (fun _ h => (List.mem_cons_of_mem _ (List.mem_append_right _ h))) hown hK.1 hP 0 rfl rfl 19 (by decide) (hts _ (List.mem_of_getElem? (i := 8) rfl)) (fun _ h9 => h9) rfl dX5_count_105 ?_
    exact q_ret (((upd v 0 0), f, B, C) : MS) hx hb hr hlocks ⟨by rw [n_count, if_neg (by decide)]; rfl, rfl⟩ hP hD hS dX5_count_108
set_option maxHeartbeats 4000000 in
set_option maxRecDepth 100000 in
theorem c_X5_thrown (l : Launch) (E : GG) (r : Nat → Nat) (v : Nat → Int32) (f : Nat → Nat → Int32) (B C : Nat → Int32)   : Met l yX5_thrown wsX5_thrown (Rm 0 0 0) (pR E [.ref (r 0)] (MW E r v f B C)) (QcRead (v 0)) 0 0 (fun _ => False) := by
  refine ofR (by decide) rfl (Nat.le_of_ble_eq_true rfl) ?_
  intro p e s m below meth c hx hb hr hlocks hml hown hts hK hP ls hl
  have hl : lv_has ls 1 [(0, .ref (r 0))] := hl
  refine lv_aload_n hx hb dX5_thrown_0 rfl (lv_at hl 0 rfl) ?_
  refine va_get (D := E.1) (ci := 5) (v := .int (v 0)) (C := RX5) (T := TX5) (N := 26) hx hb hts (fun _ h => (List.mem_cons_of_mem _ (List.mem_append_right _ h))) hown hK.1 hP 0 rfl rfl 0 (by decide) (hts _ (List.mem_of_getElem? (i := 1) rfl)) (fun _ h9 => h9) rfl dX5_thrown_1 ?_
  exact r_ret hx hb hr hlocks (by first | rfl | (simp []; done) | (simp_all; done)) dX5_thrown_4
noncomputable def n_legal (v : Nat → Int32) (f : Nat → Nat → Int32) (nw : Nat) (a b : Int32) : Int32 := cI ((m_in a 0 2 ∧ m_in b 0 2) ∧ ¬ nw = 24) (bI (m_legal v f nw (v 4) (v 5) (f 21 0) (f 21 1) a b)) (-1)
