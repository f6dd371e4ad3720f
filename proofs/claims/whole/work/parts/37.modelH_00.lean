/-- what mode answers, of the doing d -/
def n_md (d k : Int32) : Int32 := if 0 ≤ d then (if k = 0 then d / 3 else d - d / 3 * 3) else -1
noncomputable def n_mode (v : Nat → Int32) (f : Nat → Nat → Int32) (nw rv : Nat) (t : Int32) (s : Nat) (w k : Int32) : Int32 := cI (m_in w 0 2 ∧ m_in k 0 1 ∧ ¬ nw = 24) (n_md (n_doing v f nw rv w.toNatClampNeg t s) k) (-1)
noncomputable def n_wat (a b : Int32) : Int32 := if a = nev ∨ b = nev then nev else a - b
noncomputable def n_water (v : Nat → Int32) (f : Nat → Nat → Int32) (nw rv : Nat) (lo : Nat) (m : Nat) (x : Int32) : Int32 := cI (¬ x < 0 ∧ x < v 2) (n_wat (mA v f (m_sg f nw (nI (x.toNatClampNeg + 1 + lo))) rv (24 - nw) (9 * (x.toNatClampNeg + 1) + m)) (mA v f (m_sg f nw (nI (x.toNatClampNeg + lo))) rv (24 - nw) (9 * x.toNatClampNeg + m))) nev
set_option maxHeartbeats 4000000 in
set_option maxRecDepth 100000 in
theorem c_X5_mode (l : Launch) (E : GG) (r : Nat → Nat) (v : Nat → Int32) (f : Nat → Nat → Int32) (B C : Nat → Int32) (sz : Nat) (w : Int32) (k : Int32) (nw rv up lo m0 m1 : Nat) (hnw : v 1 = nI nw) (hn24 : nw ≤ 24) (hrv : v 19 = nI rv) (hr24 : rv ≤ 24) (h40 : (v 2).toInt ≤ 40) (hup : v 4 = nI up) (hu40 : up ≤ 40) (hlo : v 5 = nI lo) (hm0 : f 21 0 = nI m0) (h03 : m0 < 3) (hm1 : f 21 1 = nI m1) (h13 : m1 < 3) : Met l yX5_mode wsX5_mode (Rm 7 1 25) (pM E [.ref (r 0), .int w, .int k] (MW E r v f B C) sz) (va_Qi (fun (x : Int32) (u : MS) => x = n_mode v f nw rv (nI (up + lo)) (9 * up + 3 * m0 + m1) w k ∧ u.1 = upd v 0 0 ∧ u.2.1 = f) (bM E (va_A (MW E r v f B C) sz) (MWu E r)) (va_A (MW E r v f B C) sz)) 1 25 (va_A (MW E r v f B C) sz) := by
  refine ofM (by decide) rfl (Nat.le_of_ble_eq_true rfl) ?_
  intro p e s m below meth c A hx hb hr hlocks hml hown hin hts hK hP hD hS hA hsz hAe ls hl
  rw [← hAe]
  have hl : lv_has ls 4 [(0, .ref (r 0)), (1, .int w), (2, .int k)] := hl
  refine lv_aload_n hx hb dX5_mode_0 rfl (lv_at hl 0 rfl) ?_
  refine lv_iconst (v := 0) hx hb dX5_mode_1 (by decide) ?_
  refine va_put (D := E.1) (ci := 5) (v := .int 0) (ty := .int) (C := RX5) (T := TX5) (N := 26) hx hb hts (fun _ h => (List.mem_cons_of_mem _ (List.mem_append_right _ h))) tyX5 tyX5_ok nmX5 hown hK.1 hP hD hS 0 rfl rfl 0 (by decide) (hts _ (List.mem_of_getElem? (i := 1) rfl)) (fun _ h9 => h9) rfl (by decide +kernel) rfl rfl (Nat.le_of_ble_eq_true rfl) dX5_mode_2 (fun H locs hP hD hS => ?_)
  have hP : va_P E.1 vwCl (MW E r (upd v 0 0) f B C) H := hP
  have hD : va_D A (MW E r (upd v 0 0) f B C) := hD
  refine lv_iload_n hx hb dX5_mode_5 rfl (lv_at hl 1 rfl) ?_
  refine cR_S ⟨hx, hb, hml, hown, hts⟩ (c_X5_isWorld l E w) (va_cwS 1 hts gX5_mode_X5_isWorld rfl rfl rfl (by decide +kernel) ⟨Nat.le_of_ble_eq_true rfl, Nat.le_of_ble_eq_true rfl⟩) hK nilP rfl hl.1 rfl (Nat.le_of_ble_eq_true rfl) dX5_mode_6 ⟨Nat.le_of_ble_eq_true rfl, Nat.le_of_ble_eq_true rfl⟩ ?_
  refine b_if_eq (q := (m_in w 0 2)) (tgt := 30) hx hb dX5_mode_9 (by decide) (fun c_1 => ?_) (fun c_1 => ?_)
  · skip
    refine lv_iconst (v := (-1)) hx hb dX5_mode_30 (by decide) ?_
    refine W.widen (k := 1) (n := 25) (Nat.le_of_ble_eq_true rfl) (Nat.le_of_ble_eq_true rfl) ?_
    exact q_ret (((upd v 0 0), f, B, C) : MS) hx hb hr hlocks ⟨by rw [n_mode, cI_f (by simp_all)], rfl, rfl⟩ hP hD hS dX5_mode_31
  · skip
    refine lv_iload_n hx hb dX5_mode_12 rfl (lv_at hl 2 rfl) ?_
    refine lv_iconst (v := 0) hx hb dX5_mode_13 (by decide) ?_
    refine lv_iconst (v := 1) hx hb dX5_mode_14 (by decide) ?_
    refine cR_S ⟨hx, hb, hml, hown, hts⟩ (c_X5_within l E k 0 1) (va_cwS 3 hts gX5_mode_X5_within rfl rfl rfl (by decide +kernel) ⟨Nat.le_of_ble_eq_true rfl, Nat.le_of_ble_eq_true rfl⟩) hK nilP rfl hl.1 rfl (Nat.le_of_ble_eq_true rfl) dX5_mode_15 ⟨Nat.le_of_ble_eq_true rfl, Nat.le_of_ble_eq_true rfl⟩ ?_
    refine b_if_eq (q := (m_in k 0 1)) (tgt := 30) hx hb dX5_mode_18 (by decide) (fun c_2 => ?_) (fun c_2 => ?_)
    · skip
      refine lv_iconst (v := (-1)) hx hb dX5_mode_30 (by decide) ?_
      refine W.widen (k := 1) (n := 25) (Nat.le_of_ble_eq_true rfl) (Nat.le_of_ble_eq_true rfl) ?_
      exact q_ret (((upd v 0 0), f, B, C) : MS) hx hb hr hlocks ⟨by rw [n_mode, cI_f (by simp_all)], rfl, rfl⟩ hP hD hS dX5_mode_31
    · skip
      refine lv_aload_n hx hb dX5_mode_21 rfl (lv_at hl 0 rfl) ?_
      refine va_get (D := E.1) (ci := 5) (v := .int (v 1)) (C := RX5) (T := TX5) (N := 26) hx hb hts (fun _ h => (List.mem_cons_of_mem _ (List.mem_append_right _ h))) hown hK.1 hP 0 rfl rfl 1 (by decide) (hts _ (List.mem_of_getElem? (i := 2) rfl)) (fun _ h9 => h9) rfl dX5_mode_22 ?_
      refine w_top (show (v 1) = nI nw from hnw) ?_
      refine lv_bipush (v := 24) hx hb dX5_mode_25 (by decide) ?_
      refine n_icmp_ne (tgt := 32) (a := nw) (b := 24) hx hb dX5_mode_27 (by decide) (by omega) (by omega) (fun c_3 => ?_) (fun c_3 => ?_)
      · skip
        have hw := (inN c_1 2 (by decide) (by decide)).2
        refine lv_aload_n hx hb dX5_mode_32 rfl (lv_at hl 0 rfl) ?_
        refine lv_iload_n hx hb dX5_mode_33 rfl (lv_at hl 1 rfl) ?_
        refine w_top (show w = nI w.toNatClampNeg from (inN c_1 2 (by decide) (by decide)).1) ?_
        refine cM_i (As := [.ref (r 0), .int (nI w.toNatClampNeg)]) (wr := []) (rM_V ⟨hx, hb, hml, hown, hts⟩ (c_X5_doing l E r (upd v 0 0) f B C H.size w.toNatClampNeg (by omega) nw rv up lo m0 m1 hnw (by omega) hrv hr24 h40 hup hu40 hlo hm0 h03 hm1 h13) (cwV 1 hts gX5_mode_X5_doing rfl rfl rfl (by decide +kernel) ⟨Nat.le_of_ble_eq_true rfl, Nat.le_of_ble_eq_true rfl⟩) hK hP hD 5 0 rfl rfl rfl hl.1 rfl (Nat.le_of_ble_eq_true rfl) dX5_mode_34 ⟨Nat.le_of_ble_eq_true rfl, Nat.le_of_ble_eq_true rfl⟩) hP hD hS hA [0, 1, 2, 3, 4, 5, 6, 7, 8, 9, 10, 11, 12, 13, 14, 15] [] rfl rfl (by decide) (by decide) (fun x_4 u_4 H locs hq_4 hP hD hS => ?_)
        obtain ⟨v_, f_, B_4, C_4⟩ := u_4
        obtain ⟨ex_4, e1, e2⟩ := hq_4
        dsimp only at e1 e2
        replace e1 := e1.symm
        replace e2 := e2.symm
        subst e1 e2
        have hP : va_P E.1 vwCl (MW E r (upd v 0 0) f B_4 C_4) H := hP
        have hD : va_D A (MW E r (upd v 0 0) f B_4 C_4) := hD
        refine lv_istore_n (lv' := [(3, .int x_4), (0, .ref (r 0)), (1, .int w), (2, .int k)]) hx hb dX5_mode_37 rfl hl (by decide) rfl (fun ls hl => ?_)
        refine lv_iload_n hx hb dX5_mode_38 rfl (lv_at hl 0 rfl) ?_
        refine lv_if_ge (tgt := 46) hx hb dX5_mode_39 (by decide) (fun c_5 => ?_) (fun c_5 => ?_)
        · skip
          refine lv_iload_n hx hb dX5_mode_46 rfl (lv_at hl 3 rfl) ?_
          refine lv_if_ne (tgt := 56) hx hb dX5_mode_47 (by decide) (fun c_6 => ?_) (fun c_6 => ?_)
          · skip
            refine lv_iload_n hx hb dX5_mode_56 rfl (lv_at hl 0 rfl) ?_
            refine lv_iconst (v := 3) hx hb dX5_mode_57 (by decide) ?_
            refine lv_irem hx hb dX5_mode_58 (by decide) ?_
            refine W.widen (k := 1) (n := 25) (Nat.le_of_ble_eq_true rfl) (Nat.le_of_ble_eq_true rfl) ?_
            exact q_ret (((upd v 0 0), f, B_4, C_4) : MS) hx hb hr hlocks ⟨by rw [n_mode, cI_t ⟨c_1, c_2, c_3⟩, ← n_doing_0 v f nw rv _ _ _ 0, ← ex_4, n_md, if_pos c_5, if_neg c_6], rfl, rfl⟩ hP hD hS dX5_mode_59
          · skip
            refine lv_iload_n hx hb dX5_mode_50 rfl (lv_at hl 0 rfl) ?_
            refine lv_iconst (v := 3) hx hb dX5_mode_51 (by decide) ?_
            refine lv_idiv hx hb dX5_mode_52 (by decide) ?_
            refine lv_goto (tgt := 59) hx hb dX5_mode_53 (by decide) ?_
            refine W.widen (k := 1) (n := 25) (Nat.le_of_ble_eq_true rfl) (Nat.le_of_ble_eq_true rfl) ?_
            exact q_ret (((upd v 0 0), f, B_4, C_4) : MS) hx hb hr hlocks ⟨by rw [n_mode, cI_t ⟨c_1, c_2, c_3⟩, ← n_doing_0 v f nw rv _ _ _ 0, ← ex_4, n_md, if_pos c_5, if_pos c_6], rfl, rfl⟩ hP hD hS dX5_mode_59
        · skip
          refine lv_iconst (v := (-1)) hx hb dX5_mode_42 (by decide) ?_
          refine lv_goto (tgt := 59) hx hb dX5_mode_43 (by decide) ?_
          refine W.widen (k := 1) (n := 25) (Nat.le_of_ble_eq_true rfl) (Nat.le_of_ble_eq_true rfl) ?_
          exact q_ret (((upd v 0 0), f, B_4, C_4) : MS) hx hb hr hlocks ⟨by rw [n_mode, cI_t ⟨c_1, c_2, c_3⟩, ← n_doing_0 v f nw rv _ _ _ 0, ← ex_4, n_md, if_neg c_5], rfl, rfl⟩ hP hD hS dX5_mode_59
      · skip
        refine lv_iconst (v := (-1)) hx hb dX5_mode_30 (by decide) ?_
        refine W.widen (k := 1) (n := 25) (Nat.le_of_ble_eq_true rfl) (Nat.le_of_ble_eq_true rfl) ?_
        exact q_ret (((upd v 0 0), f, B, C) : MS) hx hb hr hlocks ⟨by rw [n_mode, cI_f (by simp_all)], rfl, rfl⟩ hP hD hS dX5_mode_31
