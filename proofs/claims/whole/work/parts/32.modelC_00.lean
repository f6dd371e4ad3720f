/-- a state of the reference: its numbers, its rows, the two large rows -/
abbrev MS : Type := (Nat → Int32) × (Nat → Nat → Int32) × (Nat → Int32) × (Nat → Int32)
abbrev MWu (E : GG) (r : Nat → Nat) (u : MS) : va_W := MW E r u.1 u.2.1 u.2.2.1 u.2.2.2
theorem inN {x hi : Int32} (h : m_in x 0 hi) (n : Nat) (hn : hi.toInt ≤ n) (h31 : n < 2 ^ 31) : x = nI x.toNatClampNeg ∧ x.toNatClampNeg ≤ n := by
  have h2 := Int32_ge h.2
  obtain ⟨j, hj, e⟩ := nI_of (x := x) h.1
  have h3 : (j : Int) ≤ n := by
    have := nI_toInt hj
    rw [e, this] at h2
    omega
  rw [e, nI_clamp hj]
  exact ⟨rfl, by omega⟩
/-- what a call answers, and the numbers and rows behind it -/
abbrev AN : Type := Int32 × (Nat → Int32) × (Nat → Nat → Int32)
noncomputable abbrev cI {α : Type} (q : Prop) (a b : α) : α := @ite α q (Classical.propDecidable q) a b
theorem cI_t {α : Type} {q : Prop} (h : q) (a b : α) : cI q a b = a := if_pos h
theorem cI_f {α : Type} {q : Prop} (h : ¬ q) (a b : α) : cI q a b = b := if_neg h
noncomputable def s_lakes (v : Nat → Int32) (f : Nat → Nat → Int32) (a : Int32) (b : Int32) (u1 : Int32) (l1 : Int32) : AN := cI (¬ 0 < v 1 ∧ m_in a 1 40 ∧ m_in b 1 40 ∧ m_in u1 0 a ∧ m_in l1 0 b) (1, upd (upd (upd (upd (upd v 0 0) 2 a) 3 b) 4 u1) 5 l1, f) (0, upd v 0 0, f)
set_option maxHeartbeats 4000000 in
set_option maxRecDepth 100000 in
theorem c_X5_lakes (l : Launch) (E : GG) (r : Nat → Nat) (v : Nat → Int32) (f : Nat → Nat → Int32) (B C : Nat → Int32) (sz : Nat) (a : Int32) (b : Int32) (u1 : Int32) (l1 : Int32)  : Met l yX5_lakes wsX5_lakes (Rm 1 0 0) (pM E [.ref (r 0), .int a, .int b, .int u1, .int l1] (MW E r v f B C) sz) (va_Qi (fun (x : Int32) (u : MS) => x = (s_lakes v f a b u1 l1).1 ∧ u = ((s_lakes v f a b u1 l1).2.1, (s_lakes v f a b u1 l1).2.2, B, C)) (bM E (va_A (MW E r v f B C) sz) (MWu E r)) (va_A (MW E r v f B C) sz)) 0 0 (va_A (MW E r v f B C) sz) := by
  refine ofM (by decide) rfl (Nat.le_of_ble_eq_true rfl) ?_
  intro p e s m below meth c A hx hb hr hlocks hml hown hin hts hK hP hD hS hA hsz hAe ls hl
  rw [← hAe]
  have hl : lv_has ls 5 [(0, .ref (r 0)), (1, .int a), (2, .int b), (3, .int u1), (4, .int l1)] := hl
  refine lv_aload_n hx hb dX5_lakes_0 rfl (lv_at hl 0 rfl) ?_
  refine lv_iconst (v := 0) hx hb dX5_lakes_1 (by decide) ?_
  refine va_put (D := E.1) (ci := 5) (v := .int 0) (ty := .int) (C := RX5) (T := TX5) (N := 26) hx hb hts (fun _ h => (List.mem_cons_of_mem _ (List.mem_append_right _ h))) tyX5 tyX5_ok nmX5 hown hK.1 hP hD hS 0 rfl rfl 0 (by decide) (hts _ (List.mem_of_getElem? (i := 1) rfl)) (fun _ h9 => h9) rfl (by decide +kernel) rfl rfl (Nat.le_of_ble_eq_true rfl) dX5_lakes_2 (fun H locs hP hD hS => ?_)
  have hP : va_P E.1 vwCl (MW E r (upd v 0 0) f B C) H := hP
  have hD : va_D A (MW E r (upd v 0 0) f B C) := hD
  refine lv_aload_n hx hb dX5_lakes_5 rfl (lv_at hl 0 rfl) ?_
  refine va_get (D := E.1) (ci := 5) (v := .int (v 1)) (C := RX5) (T := TX5) (N := 26) hx hb hts (fun _ h => (List.mem_cons_of_mem _ (List.mem_append_right _ h))) hown hK.1 hP 0 rfl rfl 1 (by decide) (hts _ (List.mem_of_getElem? (i := 2) rfl)) (fun _ h9 => h9) rfl dX5_lakes_6 ?_
  refine lv_if_gt (tgt := 51) hx hb dX5_lakes_9 (by decide) (fun c_1 => ?_) (fun c_1 => ?_)
  · skip
    refine lv_iconst (v := 0) hx hb dX5_lakes_51 (by decide) ?_
    exact qz_ret (((upd v 0 0), f, B, C) : MS) hx hb hr hlocks rfl (by rw [s_lakes, cI_f (by simp_all)]; exact ⟨rfl, rfl⟩) hP hD hS dX5_lakes_52
  · skip
    refine lv_iload_n hx hb dX5_lakes_12 rfl (lv_at hl 1 rfl) ?_
    refine lv_iconst (v := 1) hx hb dX5_lakes_13 (by decide) ?_
    refine lv_bipush (v := 40) hx hb dX5_lakes_14 (by decide) ?_
    refine cR_S ⟨hx, hb, hml, hown, hts⟩ (c_X5_within l E a 1 40) (va_cwS 3 hts gX5_lakes_X5_within rfl rfl rfl (by decide +kernel) ⟨Nat.le_of_ble_eq_true rfl, Nat.le_of_ble_eq_true rfl⟩) hK nilP rfl hl.1 rfl (Nat.le_of_ble_eq_true rfl) dX5_lakes_16 ⟨Nat.le_of_ble_eq_true rfl, Nat.le_of_ble_eq_true rfl⟩ ?_
    refine b_if_eq (q := (m_in a 1 40)) (tgt := 51) hx hb dX5_lakes_19 (by decide) (fun c_2 => ?_) (fun c_2 => ?_)
    · skip
      refine lv_iconst (v := 0) hx hb dX5_lakes_51 (by decide) ?_
      exact qz_ret (((upd v 0 0), f, B, C) : MS) hx hb hr hlocks rfl (by rw [s_lakes, cI_f (by simp_all)]; exact ⟨rfl, rfl⟩) hP hD hS dX5_lakes_52
    · skip
      refine lv_iload_n hx hb dX5_lakes_22 rfl (lv_at hl 2 rfl) ?_
      refine lv_iconst (v := 1) hx hb dX5_lakes_23 (by decide) ?_
      refine lv_bipush (v := 40) hx hb dX5_lakes_24 (by decide) ?_
      refine cR_S ⟨hx, hb, hml, hown, hts⟩ (c_X5_within l E b 1 40) (va_cwS 3 hts gX5_lakes_X5_within rfl rfl rfl (by decide +kernel) ⟨Nat.le_of_ble_eq_true rfl, Nat.le_of_ble_eq_true rfl⟩) hK nilP rfl hl.1 rfl (Nat.le_of_ble_eq_true rfl) dX5_lakes_26 ⟨Nat.le_of_ble_eq_true rfl, Nat.le_of_ble_eq_true rfl⟩ ?_
      refine b_if_eq (q := (m_in b 1 40)) (tgt := 51) hx hb dX5_lakes_29 (by decide) (fun c_3 => ?_) (fun c_3 => ?_)
      · skip
        refine lv_iconst (v := 0) hx hb dX5_lakes_51 (by decide) ?_
        exact qz_ret (((upd v 0 0), f, B, C) : MS) hx hb hr hlocks rfl (by rw [s_lakes, cI_f (by simp_all)]; exact ⟨rfl, rfl⟩) hP hD hS dX5_lakes_52
      · skip
        refine lv_iload_n hx hb dX5_lakes_32 rfl (lv_at hl 3 rfl) ?_
        refine lv_iconst (v := 0) hx hb dX5_lakes_33 (by decide) ?_
        refine lv_iload_n hx hb dX5_lakes_34 rfl (lv_at hl 1 rfl) ?_
        refine cR_S ⟨hx, hb, hml, hown, hts⟩ (c_X5_within l E u1 0 a) (va_cwS 3 hts gX5_lakes_X5_within rfl rfl rfl (by decide +kernel) ⟨Nat.le_of_ble_eq_true rfl, Nat.le_of_ble_eq_true rfl⟩) hK nilP rfl hl.1 rfl (Nat.le_of_ble_eq_true rfl) dX5_lakes_35 ⟨Nat.le_of_ble_eq_true rfl, Nat.le_of_ble_eq_true rfl⟩ ?_
        refine b_if_eq (q := (m_in u1 0 a)) (tgt := 51) hx hb dX5_lakes_38 (by decide) (fun c_4 => ?_) (fun c_4 => ?_)
        · skip
          refine lv_iconst (v := 0) hx hb dX5_lakes_51 (by decide) ?_
          exact qz_ret (((upd v 0 0), f, B, C) : MS) hx hb hr hlocks rfl (by rw [s_lakes, cI_f (by simp_all)]; exact ⟨rfl, rfl⟩) hP hD hS dX5_lakes_52
        · skip
          refine lv_iload hx hb dX5_lakes_41 (lv_at hl 4 rfl) ?_
          refine lv_iconst (v := 0) hx hb dX5_lakes_43 (by decide) ?_
          refine lv_iload_n hx hb dX5_lakes_44 rfl (lv_at hl 2 rfl) ?_
          refine cR_S ⟨hx, hb, hml, hown, hts⟩ (c_X5_within l E l1 0 b) (va_cwS 3 hts gX5_lakes_X5_within rfl rfl rfl (by decide +kernel) ⟨Nat.le_of_ble_eq_true rfl, Nat.le_of_ble_eq_true rfl⟩) hK nilP rfl hl.1 rfl (Nat.le_of_ble_eq_true rfl) dX5_lakes_45 ⟨Nat.le_of_ble_eq_true rfl, Nat.le_of_ble_eq_true rfl⟩ ?_
          refine b_if_ne (q := (m_in l1 0 b)) (tgt := 53) hx hb dX5_lakes_48 (by decide) (fun c_5 => ?_) (fun c_5 => ?_)
          · skip
            refine lv_aload_n hx hb dX5_lakes_53 rfl (lv_at hl 0 rfl) ?_
            refine lv_iload_n hx hb dX5_lakes_54 rfl (lv_at hl 1 rfl) ?_
            refine va_put (D := E.1) (ci := 5) (v := .int a) (ty := .int) (C := RX5) (T := TX5) (N := 26) hx hb hts (fun _ h => (List.mem_cons_of_mem _ (List.mem_append_right _ h))) tyX5 tyX5_ok nmX5 hown hK.1 hP hD hS 0 rfl rfl 2 (by decide) (hts _ (List.mem_of_getElem? (i := 3) rfl)) (fun _ h9 => h9) rfl (by decide +kernel) rfl rfl (Nat.le_of_ble_eq_true rfl) dX5_lakes_55 (fun H locs hP hD hS => ?_)
            have hP : va_P E.1 vwCl (MW E r (upd (upd v 0 0) 2 a) f B C) H := hP
            have hD : va_D A (MW E r (upd (upd v 0 0) 2 a) f B C) := hD
            refine lv_aload_n hx hb dX5_lakes_58 rfl (lv_at hl 0 rfl) ?_
            refine lv_iload_n hx hb dX5_lakes_59 rfl (lv_at hl 2 rfl) ?_
            refine va_put (D := E.1) (ci := 5) (v := .int b) (ty := .int) (C := RX5) (T := TX5) (N := 26) hx hb hts (fun _ h => (List.mem_cons_of_mem _ (List.mem_append_right _ h))) tyX5 tyX5_ok nmX5 hown hK.1 hP hD hS 0 rfl rfl 3 (by decide) (hts _ (List.mem_of_getElem? (i := 4) rfl)) (fun _ h9 => h9) rfl (by decide +kernel) rfl rfl (Nat.le_of_ble_eq_true rfl) dX5_lakes_60 (fun H locs hP hD hS => ?_)
            have hP : va_P E.1 vwCl (MW E r (upd (upd (upd v 0 0) 2 a) 3 b) f B C) H := hP
            have hD : va_D A (MW E r (upd (upd (upd v 0 0) 2 a) 3 b) f B C) := hD
            refine lv_aload_n hx hb dX5_lakes_63 rfl (lv_at hl 0 rfl) ?_
            refine lv_iload_n hx hb dX5_lakes_64 rfl (lv_at hl 3 rfl) ?_
            refine va_put (D := E.1) (ci := 5) (v := .int u1) (ty := .int) (C := RX5) (T := TX5) (N := 26) hx hb hts (fun _ h => (List.mem_cons_of_mem _ (List.mem_append_right _ h))) tyX5 tyX5_ok nmX5 hown hK.1 hP hD hS 0 rfl rfl 4 (by decide) (hts _ (List.mem_of_getElem? (i := 5) rfl)) (fun _ h9 => h9) rfl (by decide +kernel) rfl rfl (Nat.le_of_ble_eq_true rfl) dX5_lakes_65 (fun H locs hP hD hS => ?_)
            have hP : va_P E.1 vwCl (MW E r (upd (upd (upd (upd v 0 0) 2 a) 3 b) 4 u1) f B C) H := hP
            have hD : va_D A (MW E r (upd (upd (upd (upd v 0 0) 2 a) 3 b) 4 u1) f B C) := hD
            refine lv_aload_n hx hb dX5_lakes_68 rfl (lv_at hl 0 rfl) ?_
            refine lv_iload hx hb dX5_lakes_69 (lv_at hl 4 rfl) ?_
            refine va_put (D := E.1) (ci := 5) (v := .int l1) (ty := .int) (C := RX5) (T := TX5) (N := 26) hx hb hts (fun _ h => (List.mem_cons_of_mem _ (List.mem_append_right _ h))) tyX5 tyX5_ok nmX5 hown hK.1 hP hD hS 0 rfl rfl 5 (by decide) (hts _ (List.mem_of_getElem? (i := 6) rfl)) (fun _ h9 => h9) rfl (by decide +kernel) rfl rfl (Nat.le_of_ble_eq_true rfl) dX5_lakes_71 (fun H locs hP hD hS => ?_)
            have hP : va_P E.1 vwCl (MW E r (upd (upd (upd (upd (upd v 0 0) 2 a) 3 b) 4 u1) 5 l1) f B C) H := hP
            have hD : va_D A (MW E r (upd (upd (upd (upd (upd v 0 0) 2 a) 3 b) 4 u1) 5 l1) f B C) := hD
            refine lv_iconst (v := 1) hx hb dX5_lakes_74 (by decide) ?_
            exact qz_ret (((upd (upd (upd (upd (upd v 0 0) 2 a) 3 b) 4 u1) 5 l1), f, B, C) : MS) hx hb hr hlocks rfl (by rw [s_lakes, cI_t (by simp_all)]; exact ⟨rfl, rfl⟩) hP hD hS dX5_lakes_75
          · skip
            refine lv_iconst (v := 0) hx hb dX5_lakes_51 (by decide) ?_
            exact qz_ret (((upd v 0 0), f, B, C) : MS) hx hb hr hlocks rfl (by rw [s_lakes, cI_f (by simp_all)]; exact ⟨rfl, rfl⟩) hP hD hS dX5_lakes_52
noncomputable def s_speeds (v : Nat → Int32) (f : Nat → Nat → Int32) (u1 : Int32) (l1 : Int32) : AN := cI (m_in u1 1 40 ∧ m_in l1 1 40) (1, upd (upd (upd v 0 0) 6 u1) 7 l1, f) (0, upd v 0 0, f)
set_option maxHeartbeats 4000000 in
set_option maxRecDepth 100000 in
theorem c_X5_speeds (l : Launch) (E : GG) (r : Nat → Nat) (v : Nat → Int32) (f : Nat → Nat → Int32) (B C : Nat → Int32) (sz : Nat) (u1 : Int32) (l1 : Int32)  : Met l yX5_speeds wsX5_speeds (Rm 1 0 0) (pM E [.ref (r 0), .int u1, .int l1] (MW E r v f B C) sz) (va_Qi (fun (x : Int32) (u : MS) => x = (s_speeds v f u1 l1).1 ∧ u = ((s_speeds v f u1 l1).2.1, (s_speeds v f u1 l1).2.2, B, C)) (bM E (va_A (MW E r v f B C) sz) (MWu E r)) (va_A (MW E r v f B C) sz)) 0 0 (va_A (MW E r v f B C) sz) := by
  refine ofM (by decide) rfl (Nat.le_of_ble_eq_true rfl) ?_
  intro p e s m below meth c A hx hb hr hlocks hml hown hin hts hK hP hD hS hA hsz hAe ls hl
  rw [← hAe]
  have hl : lv_has ls 3 [(0, .ref (r 0)), (1, .int u1), (2, .int l1)] := hl
  refine lv_aload_n hx hb dX5_speeds_0 rfl (lv_at hl 0 rfl) ?_
  refine lv_iconst (v := 0) hx hb dX5_speeds_1 (by decide) ?_
  refine va_put (D := E.1) (ci := 5) (v := .int 0) (ty := .int) (C := RX5) (T := TX5) (N := 26) hx hb hts (fun _ h => (List.mem_cons_of_mem _ (List.mem_append_right _ h))) tyX5 tyX5_ok nmX5 hown hK.1 hP hD hS 0 rfl rfl 0 (by decide) (hts _ (List.mem_of_getElem? (i := 1) rfl)) (fun _ h9 => h9) rfl (by decide +kernel) rfl rfl (Nat.le_of_ble_eq_true rfl) dX5_speeds_2 (fun H locs hP hD hS => ?_)
  have hP : va_P E.1 vwCl (MW E r (upd v 0 0) f B C) H := hP
  have hD : va_D A (MW E r (upd v 0 0) f B C) := hD
  refine lv_iload_n hx hb dX5_speeds_5 rfl (lv_at hl 1 rfl) ?_
  refine lv_iconst (v := 1) hx hb dX5_speeds_6 (by decide) ?_
  refine lv_bipush (v := 40) hx hb dX5_speeds_7 (by decide) ?_
  refine cR_S ⟨hx, hb, hml, hown, hts⟩ (c_X5_within l E u1 1 40) (va_cwS 3 hts gX5_speeds_X5_within rfl rfl rfl (by decide +kernel) ⟨Nat.le_of_ble_eq_true rfl, Nat.le_of_ble_eq_true rfl⟩) hK nilP rfl hl.1 rfl (Nat.le_of_ble_eq_true rfl) dX5_speeds_9 ⟨Nat.le_of_ble_eq_true rfl, Nat.le_of_ble_eq_true rfl⟩ ?_
  refine b_if_eq (q := (m_in u1 1 40)) (tgt := 25) hx hb dX5_speeds_12 (by decide) (fun c_1 => ?_) (fun c_1 => ?_)
  · skip
    refine lv_iconst (v := 0) hx hb dX5_speeds_25 (by decide) ?_
    exact qz_ret (((upd v 0 0), f, B, C) : MS) hx hb hr hlocks rfl (by rw [s_speeds, cI_f (by simp_all)]; exact ⟨rfl, rfl⟩) hP hD hS dX5_speeds_26
  · skip
    refine lv_iload_n hx hb dX5_speeds_15 rfl (lv_at hl 2 rfl) ?_
    refine lv_iconst (v := 1) hx hb dX5_speeds_16 (by decide) ?_
    refine lv_bipush (v := 40) hx hb dX5_speeds_17 (by decide) ?_
    refine cR_S ⟨hx, hb, hml, hown, hts⟩ (c_X5_within l E l1 1 40) (va_cwS 3 hts gX5_speeds_X5_within rfl rfl rfl (by decide +kernel) ⟨Nat.le_of_ble_eq_true rfl, Nat.le_of_ble_eq_true rfl⟩) hK nilP rfl hl.1 rfl (Nat.le_of_ble_eq_true rfl) dX5_speeds_19 ⟨Nat.le_of_ble_eq_true rfl, Nat.le_of_ble_eq_true rfl⟩ ?_
    refine b_if_ne (q := (m_in l1 1 40)) (tgt := 27) hx hb dX5_speeds_22 (by decide) (fun c_2 => ?_) (fun c_2 => ?_)
    · skip
      refine lv_aload_n hx hb dX5_speeds_27 rfl (lv_at hl 0 rfl) ?_
      refine lv_iload_n hx hb dX5_speeds_28 rfl (lv_at hl 1 rfl) ?_
      refine va_put (D := E.1) (ci := 5) (v := .int u1) (ty := .int) (C := RX5) (T := TX5) (N := 26) hx hb hts (fun _ h => (List.mem_cons_of_mem _ (List.mem_append_right _ h))) tyX5 tyX5_ok nmX5 hown hK.1 hP hD hS 0 rfl rfl 6 (by decide) (hts _ (List.mem_of_getElem? (i := 2) rfl)) (fun _ h9 => h9) rfl (by decide +kernel) rfl rfl (Nat.le_of_ble_eq_true rfl) dX5_speeds_29 (fun H locs hP hD hS => ?_)
      have hP : va_P E.1 vwCl (MW E r (upd (upd v 0 0) 6 u1) f B C) H := hP
      have hD : va_D A (MW E r (upd (upd v 0 0) 6 u1) f B C) := hD
      refine lv_aload_n hx hb dX5_speeds_32 rfl (lv_at hl 0 rfl) ?_
      refine lv_iload_n hx hb dX5_speeds_33 rfl (lv_at hl 2 rfl) ?_
      refine va_put (D := E.1) (ci := 5) (v := .int l1) (ty := .int) (C := RX5) (T := TX5) (N := 26) hx hb hts (fun _ h => (List.mem_cons_of_mem _ (List.mem_append_right _ h))) tyX5 tyX5_ok nmX5 hown hK.1 hP hD hS 0 rfl rfl 7 (by decide) (hts _ (List.mem_of_getElem? (i := 3) rfl)) (fun _ h9 => h9) rfl (by decide +kernel) rfl rfl (Nat.le_of_ble_eq_true rfl) dX5_speeds_34 (fun H locs hP hD hS => ?_)
      have hP : va_P E.1 vwCl (MW E r (upd (upd (upd v 0 0) 6 u1) 7 l1) f B C) H := hP
      have hD : va_D A (MW E r (upd (upd (upd v 0 0) 6 u1) 7 l1) f B C) := hD
      refine lv_iconst (v := 1) hx hb dX5_speeds_37 (by decide) ?_
      exact qz_ret (((upd (upd (upd v 0 0) 6 u1) 7 l1), f, B, C) : MS) hx hb hr hlocks rfl (by rw [s_speeds, cI_t (by simp_all)]; exact ⟨rfl, rfl⟩) hP hD hS dX5_speeds_38
    · skip
      refine lv_iconst (v := 0) hx hb dX5_speeds_25 (by decide) ?_
      exact qz_ret (((upd v 0 0), f, B, C) : MS) hx hb hr hlocks rfl (by rw [s_speeds, cI_f (by simp_all)]; exact ⟨rfl, rfl⟩) hP hD hS dX5_speeds_26
noncomputable def s_reveal (v : Nat → Int32) (f : Nat → Nat → Int32) (h : Int32) : AN := cI (m_in h 0 24) (1, upd (upd v 0 0) 19 h, f) (0, upd v 0 0, f)
set_option maxHeartbeats 4000000 in
set_option maxRecDepth 100000 in
theorem c_X5_reveal (l : Launch) (E : GG) (r : Nat → Nat) (v : Nat → Int32) (f : Nat → Nat → Int32) (B C : Nat → Int32) (sz : Nat) (h : Int32)  : Met l yX5_reveal wsX5_reveal (Rm 1 0 0) (pM E [.ref (r 0), .int h] (MW E r v f B C) sz) (va_Qi (fun (x : Int32) (u : MS) => x = (s_reveal v f h).1 ∧ u = ((s_reveal v f h).2.1, (s_reveal v f h).2.2, B, C)) (bM E (va_A (MW E r v f B C) sz) (MWu E r)) (va_A (MW E r v f B C) sz)) 0 0 (va_A (MW E r v f B C) sz) := by
  refine ofM (by decide) rfl (Nat.le_of_ble_eq_true rfl) ?_
  intro p e s m below meth c A hx hb hr hlocks hml hown hin hts hK hP hD hS hA hsz hAe ls hl
  rw [← hAe]
  have hl : lv_has ls 2 [(0, .ref (r 0)), (1, .int h)] := hl
  refine lv_aload_n hx hb dX5_reveal_0 rfl (lv_at hl 0 rfl) ?_
  refine lv_iconst (v := 0) hx hb dX5_reveal_1 (by decide) ?_
  refine va_put (D := E.1) (ci := 5) (v := .int 0) (ty := .int) (C := RX5) (T := TX5) (N := 26) hx hb hts (fun _ h => (List.mem_cons_of_mem _ (List.mem_append_right _ h))) tyX5 tyX5_ok nmX5 hown hK.1 hP hD hS 0 rfl rfl 0 (by decide) (hts _ (List.mem_of_getElem? (i := 1) rfl)) (fun _ h9 => h9) rfl (by decide +kernel) rfl rfl (Nat.le_of_ble_eq_true rfl) dX5_reveal_2 (fun H locs hP hD hS => ?_)
  have hP : va_P E.1 vwCl (MW E r (upd v 0 0) f B C) H := hP
  have hD : va_D A (MW E r (upd v 0 0) f B C) := hD
  refine lv_iload_n hx hb dX5_reveal_5 rfl (lv_at hl 1 rfl) ?_
  refine lv_iconst (v := 0) hx hb dX5_reveal_6 (by decide) ?_
  refine lv_bipush (v := 24) hx hb dX5_reveal_7 (by decide) ?_
  refine cR_S ⟨hx, hb, hml, hown, hts⟩ (c_X5_within l E h 0 24) (va_cwS 3 hts gX5_reveal_X5_within rfl rfl rfl (by decide +kernel) ⟨Nat.le_of_ble_eq_true rfl, Nat.le_of_ble_eq_true rfl⟩) hK nilP rfl hl.1 rfl (Nat.le_of_ble_eq_true rfl) dX5_reveal_9 ⟨Nat.le_of_ble_eq_true rfl, Nat.le_of_ble_eq_true rfl⟩ ?_
  refine b_if_ne (q := (m_in h 0 24)) (tgt := 17) hx hb dX5_reveal_12 (by decide) (fun c_1 => ?_) (fun c_1 => ?_)
  · skip
    refine lv_aload_n hx hb dX5_reveal_17 rfl (lv_at hl 0 rfl) ?_
    refine lv_iload_n hx hb dX5_reveal_18 rfl (lv_at hl 1 rfl) ?_
    refine va_put (D := E.1) (ci := 5) (v := .int h) (ty := .int) (C := RX5) (T := TX5) (N := 26) hx hb hts (fun _ h => (List.mem_cons_of_mem _ (List.mem_append_right _ h))) tyX5 tyX5_ok nmX5 hown hK.1 hP hD hS 0 rfl rfl 19 (by decide) (hts _ (List.mem_of_getElem? (i := 2) rfl)) (fun _ h9 => h9) rfl (by decide +kernel) rfl rfl (Nat.le_of_ble_eq_true rfl) dX5_reveal_19 (fun H locs hP hD hS => ?_)
    have hP : va_P E.1 vwCl (MW E r (upd (upd v 0 0) 19 h) f B C) H := hP
    have hD : va_D A (MW E r (upd (upd v 0 0) 19 h) f B C) := hD
    refine lv_iconst (v := 1) hx hb dX5_reveal_22 (by decide) ?_
    exact qz_ret (((upd (upd v 0 0) 19 h), f, B, C) : MS) hx hb hr hlocks rfl (by rw [s_reveal, cI_t (by simp_all)]; exact ⟨rfl, rfl⟩) hP hD hS dX5_reveal_23
  · skip
    refine lv_iconst (v := 0) hx hb dX5_reveal_15 (by decide) ?_
    exact qz_ret (((upd v 0 0), f, B, C) : MS) hx hb hr hlocks rfl (by rw [s_reveal, cI_f (by simp_all)]; exact ⟨rfl, rfl⟩) hP hD hS dX5_reveal_16
noncomputable def s_end (v : Nat → Int32) (f : Nat → Nat → Int32) (n1 : Int32) : AN := cI (m_in n1 0 999) (1, upd (upd v 0 0) 20 n1, f) (0, upd v 0 0, f)
