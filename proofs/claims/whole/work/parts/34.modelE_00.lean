/-- a stretch of a row is filled -/
def rowF (g : Nat → Int32) (a b : Nat) (y : Int32) : Nat → Int32 := fun j => if a ≤ j ∧ j < b then y else g j
theorem rowF_0 (g : Nat → Int32) (a : Nat) (y : Int32) : rowF g a a y = g := by
  funext j
  exact if_neg (by omega)
theorem rowF_s {g : Nat → Int32} {a b : Nat} {y : Int32} (h : a ≤ b) : upd (rowF g a b y) b y = rowF g a (b + 1) y := by
  funext j
  show (if j = b then y else if a ≤ j ∧ j < b then y else g j) = if a ≤ j ∧ j < b + 1 then y else g j
  by_cases h1 : j = b
  · rw [if_pos h1, if_pos (by omega)]
  · rw [if_neg h1]
    by_cases h2 : a ≤ j ∧ j < b
    · rw [if_pos h2, if_pos (by omega)]
    · rw [if_neg h2, if_neg (by omega)]
noncomputable def s_out (v : Nat → Int32) (f : Nat → Nat → Int32) (k fr to y : Int32) : AN := cI (m_in k 0 1 ∧ m_in fr 0 23 ∧ m_in to 0 23 ∧ fr ≤ to) (1, upd v 0 0, va_up f 16 (rowF (f 16) (24 * k.toNatClampNeg + fr.toNatClampNeg) (24 * k.toNatClampNeg + to.toNatClampNeg + 1) y)) (0, upd v 0 0, f)
set_option maxHeartbeats 4000000 in
set_option maxRecDepth 100000 in
theorem c_X5_out (l : Launch) (E : GG) (r : Nat → Nat) (v : Nat → Int32) (f : Nat → Nat → Int32) (B C : Nat → Int32) (sz : Nat) (k : Int32) (fr : Int32) (to : Int32) (y : Int32) (hy : vp_nar .boolean y = y) : Met l yX5_out wsX5_out (Rm 2 0 0) (pM E [.ref (r 0), .int k, .int fr, .int to, .int y] (MW E r v f B C) sz) (va_Qi (fun (x : Int32) (u : MS) => x = (s_out v f k fr to y).1 ∧ u = ((s_out v f k fr to y).2.1, (s_out v f k fr to y).2.2, B, C)) (bM E (va_A (MW E r v f B C) sz) (MWu E r)) (va_A (MW E r v f B C) sz)) 0 0 (va_A (MW E r v f B C) sz) := by
  refine ofM (by decide) rfl (Nat.le_of_ble_eq_true rfl) ?_
  intro p e s m below meth c A hx hb hr hlocks hml hown hin hts hK hP hD hS hA hsz hAe ls hl
  rw [← hAe]
  have hl : lv_has ls 6 [(0, .ref (r 0)), (1, .int k), (2, .int fr), (3, .int to), (4, .int y)] := hl
  refine lv_aload_n hx hb dX5_out_0 rfl (lv_at hl 0 rfl) ?_
  refine lv_iconst (v := 0) hx hb dX5_out_1 (by decide) ?_
  refine va_put (D := E.1) (ci := 5) (v := .int 0) (ty := .int) (C := RX5) (T := TX5) (N := 26) hx hb hts (fun _ h => (List.mem_cons_of_mem _ (List.mem_append_right _ h))) tyX5 tyX5_ok nmX5 hown hK.1 hP hD hS 0 rfl rfl 0 (by decide) (hts _ (List.mem_of_getElem? (i := 1) rfl)) (fun _ h9 => h9) rfl (by decide +kernel) rfl rfl (Nat.le_of_ble_eq_true rfl) dX5_out_2 (fun H locs hP hD hS => ?_)
  have hP : va_P E.1 vwCl (MW E r (upd v 0 0) f B C) H := hP
  have hD : va_D A (MW E r (upd v 0 0) f B C) := hD
  refine lv_iload_n hx hb dX5_out_5 rfl (lv_at hl 1 rfl) ?_
  refine lv_iconst (v := 0) hx hb dX5_out_6 (by decide) ?_
  refine lv_iconst (v := 1) hx hb dX5_out_7 (by decide) ?_
  refine cR_S ⟨hx, hb, hml, hown, hts⟩ (c_X5_within l E k 0 1) (va_cwS 3 hts gX5_out_X5_within rfl rfl rfl (by decide +kernel) ⟨Nat.le_of_ble_eq_true rfl, Nat.le_of_ble_eq_true rfl⟩) hK nilP rfl hl.1 rfl (Nat.le_of_ble_eq_true rfl) dX5_out_8 ⟨Nat.le_of_ble_eq_true rfl, Nat.le_of_ble_eq_true rfl⟩ ?_
  refine b_if_eq (q := (m_in k 0 1)) (tgt := 33) hx hb dX5_out_11 (by decide) (fun c_1 => ?_) (fun c_1 => ?_)
  · skip
    refine lv_iconst (v := 0) hx hb dX5_out_33 (by decide) ?_
    exact qz_ret (((upd v 0 0), f, B, C) : MS) hx hb hr hlocks rfl (by rw [s_out, cI_f (by simp_all)]; exact ⟨rfl, rfl⟩) hP hD hS dX5_out_34
  · skip
    refine lv_iload_n hx hb dX5_out_14 rfl (lv_at hl 2 rfl) ?_
    refine cR_S ⟨hx, hb, hml, hown, hts⟩ (c_X5_isHour l E fr) (va_cwS 1 hts gX5_out_X5_isHour rfl rfl rfl (by decide +kernel) ⟨Nat.le_of_ble_eq_true rfl, Nat.le_of_ble_eq_true rfl⟩) hK nilP rfl hl.1 rfl (Nat.le_of_ble_eq_true rfl) dX5_out_15 ⟨Nat.le_of_ble_eq_true rfl, Nat.le_of_ble_eq_true rfl⟩ ?_
    refine b_if_eq (q := (m_in fr 0 23)) (tgt := 33) hx hb dX5_out_18 (by decide) (fun c_2 => ?_) (fun c_2 => ?_)
    · skip
      refine lv_iconst (v := 0) hx hb dX5_out_33 (by decide) ?_
      exact qz_ret (((upd v 0 0), f, B, C) : MS) hx hb hr hlocks rfl (by rw [s_out, cI_f (by simp_all)]; exact ⟨rfl, rfl⟩) hP hD hS dX5_out_34
    · skip
      refine lv_iload_n hx hb dX5_out_21 rfl (lv_at hl 3 rfl) ?_
      refine cR_S ⟨hx, hb, hml, hown, hts⟩ (c_X5_isHour l E to) (va_cwS 1 hts gX5_out_X5_isHour rfl rfl rfl (by decide +kernel) ⟨Nat.le_of_ble_eq_true rfl, Nat.le_of_ble_eq_true rfl⟩) hK nilP rfl hl.1 rfl (Nat.le_of_ble_eq_true rfl) dX5_out_22 ⟨Nat.le_of_ble_eq_true rfl, Nat.le_of_ble_eq_true rfl⟩ ?_
      refine b_if_eq (q := (m_in to 0 23)) (tgt := 33) hx hb dX5_out_25 (by decide) (fun c_3 => ?_) (fun c_3 => ?_)
      · skip
        refine lv_iconst (v := 0) hx hb dX5_out_33 (by decide) ?_
        exact qz_ret (((upd v 0 0), f, B, C) : MS) hx hb hr hlocks rfl (by rw [s_out, cI_f (by simp_all)]; exact ⟨rfl, rfl⟩) hP hD hS dX5_out_34
      · skip
        refine lv_iload_n hx hb dX5_out_28 rfl (lv_at hl 2 rfl) ?_
        refine lv_iload_n hx hb dX5_out_29 rfl (lv_at hl 3 rfl) ?_
        refine lv_icmp_le (tgt := 35) hx hb dX5_out_30 (by decide) (fun c_4 => ?_) (fun c_4 => ?_)
        · skip
          obtain ⟨kn, hkn, ekn⟩ : ∃ j : Nat, j ≤ 1 ∧ k = nI j := ⟨_, (inN c_1 1 (by decide) (by decide)).2, (inN c_1 1 (by decide) (by decide)).1⟩
          obtain ⟨fn, hfn, efn⟩ : ∃ j : Nat, j ≤ 23 ∧ fr = nI j := ⟨_, (inN c_2 23 (by decide) (by decide)).2, (inN c_2 23 (by decide) (by decide)).1⟩
          obtain ⟨tn, htn, etn⟩ : ∃ j : Nat, j ≤ 23 ∧ to = nI j := ⟨_, (inN c_3 23 (by decide) (by decide)).2, (inN c_3 23 (by decide) (by decide)).1⟩
          subst ekn efn etn
          have c4 := (nI_leI (by omega) (by omega)).mp c_4
          refine lv_iload_n hx hb dX5_out_35 rfl (lv_at hl 2 rfl) ?_
          refine lv_istore (lv' := [(5, .int (nI fn)), (0, .ref (r 0)), (1, .int (nI kn)), (2, .int (nI fn)), (3, .int (nI tn)), (4, .int y)]) hx hb dX5_out_36 hl (by decide) rfl (fun ls hl => ?_)
          have hP : va_P E.1 vwCl (MW E r (upd v 0 0) (va_up f 16 (rowF (f 16) (24 * kn + fn) (24 * kn + fn) y)) B C) H := by rw [rowF_0]; exact hP
          have hD : va_D A (MW E r (upd v 0 0) (va_up f 16 (rowF (f 16) (24 * kn + fn) (24 * kn + fn) y)) B C) := by rw [rowF_0]; exact hD
          refine w_while (σ := Heap × List Loc × Array Slot × Nat) (fun ⟨H, locs, ls, h⟩ => tn + 1 - h) (fun ⟨H, locs, ls, h⟩ => va_P E.1 vwCl (MW E r (upd v 0 0) (va_up f 16 (rowF (f 16) (24 * kn + fn) (24 * kn + h) y)) B C) H ∧ va_D A (MW E r (upd v 0 0) (va_up f 16 (rowF (f 16) (24 * kn + fn) (24 * kn + h) y)) B C) ∧ va_S A s.heap H locs ∧ lv_has ls 6 [(0, .ref (r 0)), (1, .int (nI kn)), (2, .int (nI fn)), (3, .int (nI tn)), (4, .int y), (5, .int (nI h))] ∧ fn ≤ h ∧ h ≤ tn + 1) (fun ⟨H, locs, ls, h⟩ => H) (fun ⟨H, locs, ls, h⟩ => locs) (fun ⟨H, locs, ls, h⟩ => F0 m 38 ls []) ?_ (H, locs, ls, fn) ⟨hP, hD, hS, lv_sub hl [1, 2, 3, 4, 5, 0] rfl, Nat.le_refl _, by omega⟩
          rintro ⟨H, locs, ls, h⟩ ⟨hP, hD, hS, hl, h1, h2⟩ ih38
          dsimp only at hP hD hS hl ⊢
          refine lv_iload hx hb dX5_out_38 (lv_at hl 5 rfl) ?_
          refine lv_iload_n hx hb dX5_out_40 rfl (lv_at hl 3 rfl) ?_
          refine n_icmp_gt (tgt := 64) (a := h) (b := tn) hx hb dX5_out_41 (by decide) (by omega) (by omega) (fun c_5 => ?_) (fun c_5 => ?_)
          · skip
            refine lv_iconst (v := 1) hx hb dX5_out_64 (by decide) ?_
            exact qz_ret (((upd v 0 0), (va_up f 16 (rowF (f 16) (24 * kn + fn) (24 * kn + h) y)), B, C) : MS) hx hb hr hlocks rfl (by rw [s_out, cI_t (by simp_all), nI_clamp (by omega), nI_clamp (by omega), nI_clamp (by omega)]; obtain rfl : h = tn + 1 := (by omega); exact ⟨rfl, rfl⟩) hP hD hS dX5_out_65
          · skip
            refine lv_aload_n hx hb dX5_out_44 rfl (lv_at hl 0 rfl) ?_
            refine va_get (D := E.1) (ci := 5) (v := .ref (r 16)) (C := RX5) (T := TX5) (N := 26) hx hb hts (fun _ h => (List.mem_cons_of_mem _ (List.mem_append_right _ h))) hown hK.1 hP 0 rfl rfl 16 (by decide) (hts _ (List.mem_of_getElem? (i := 2) rfl)) (fun _ h9 => h9) rfl dX5_out_45 ?_
            refine lv_bipush (v := 24) hx hb dX5_out_48 (by decide) ?_
            refine lv_iload_n hx hb dX5_out_50 rfl (lv_at hl 1 rfl) ?_
            refine lv_imul hx hb dX5_out_51 ?_
            refine w_top (show (24 * (nI kn)) = (nI (24 * kn)) from pk_mul _ _) ?_
            refine lv_iload hx hb dX5_out_52 (lv_at hl 5 rfl) ?_
            refine lv_iadd hx hb dX5_out_54 ?_
            refine w_top (show ((nI (24 * kn)) + (nI h)) = (nI ((24 * kn) + h)) from nI_add _ _) ?_
            refine lv_iload hx hb dX5_out_55 (lv_at hl 4 rfl) ?_
            refine n_zast (f := rowF (f 16) (24 * kn + fn) (24 * kn + h) y) hx hb hK.1 hP hD hS 9 1 rfl rfl (i := (24 * kn) + h) (by omega) (by decide) hy dX5_out_57 (fun H locs hP hD hS => ?_)
            have hP : va_P E.1 vwCl (MW E r (upd v 0 0) (va_up (va_up f 16 (rowF (f 16) (24 * kn + fn) (24 * kn + h) y)) 16 (upd (rowF (f 16) (24 * kn + fn) (24 * kn + h) y) ((24 * kn) + h) y)) B C) H := hP
            have hD : va_D A (MW E r (upd v 0 0) (va_up (va_up f 16 (rowF (f 16) (24 * kn + fn) (24 * kn + h) y)) 16 (upd (rowF (f 16) (24 * kn + fn) (24 * kn + h) y) ((24 * kn) + h) y)) B C) := hD
            refine lv_iinc (v := (nI (h + 1))) (lv' := [(5, .int (nI (h + 1))), (0, .ref (r 0)), (1, .int (nI kn)), (2, .int (nI fn)), (3, .int (nI tn)), (4, .int y)]) hx hb dX5_out_58 hl (k := 5) rfl (nI_1 _) (by decide) rfl (fun ls hl => ?_)
            refine lv_goto (tgt := 38) hx hb dX5_out_61 (by decide) ?_
            have hP : va_P E.1 vwCl (MW E r (upd v 0 0) (va_up f 16 (upd (rowF (f 16) (24 * kn + fn) (24 * kn + h) y) (24 * kn + h) y)) B C) H := hP
            have hD : va_D A (MW E r (upd v 0 0) (va_up f 16 (upd (rowF (f 16) (24 * kn + fn) (24 * kn + h) y) (24 * kn + h) y)) B C) := hD
            rw [rowF_s (by omega)] at hP hD
            exact ih38 (H, locs, ls, h + 1) ⟨hP, hD, hS, lv_sub hl [1, 2, 3, 4, 5, 0] rfl, by omega, by omega⟩ (by dsimp only; omega)
        · skip
          refine lv_iconst (v := 0) hx hb dX5_out_33 (by decide) ?_
          exact qz_ret (((upd v 0 0), f, B, C) : MS) hx hb hr hlocks rfl (by rw [s_out, cI_f (by simp_all)]; exact ⟨rfl, rfl⟩) hP hD hS dX5_out_34
def m_sum (f : Nat → Nat → Int32) (nw : Nat) (t : Int32) : Nat → Int32
  | 0 => t
  | k + 1 => m_sum f nw t k + f 8 (nw + k) - f 9 (nw + k)
/-- what both lakes hold together ahead of an hour -/
def m_sg (f : Nat → Nat → Int32) (nw : Nat) (t : Int32) (h : Nat) : Int32 := m_sum f nw t (h - nw)
theorem m_sg_0 (f : Nat → Nat → Int32) (nw : Nat) (t : Int32) : m_sg f nw t nw = t := by rw [m_sg, Nat.sub_self]; rfl
theorem m_sg_s (f : Nat → Nat → Int32) {nw h : Nat} (t : Int32) (hh : nw ≤ h) : m_sg f nw t (h + 1) = m_sg f nw t h + f 8 h - f 9 h := by
  rw [m_sg, m_sg, show h + 1 - nw = (h - nw) + 1 by omega]
  show m_sum f nw t (h - nw) + f 8 (nw + (h - nw)) - f 9 (nw + (h - nw)) = _
  rw [show nw + (h - nw) = h by omega]
theorem m_sg_0' {f : Nat → Nat → Int32} {nw : Nat} {t : Int32} {g : Nat → Int32} : ∀ k, nw ≤ k → k ≤ nw → upd g nw t k = m_sg f nw t k := by
  intro k h1 h2
  obtain rfl : k = nw := by omega
  rw [m_sg_0]; exact if_pos rfl
theorem m_sg_s' {f : Nat → Nat → Int32} {nw h : Nat} {t : Int32} {g : Nat → Int32} (hh : nw ≤ h) (hg : ∀ k, nw ≤ k → k ≤ h → g k = m_sg f nw t k) : ∀ k, nw ≤ k → k ≤ h + 1 → upd g (h + 1) (g h + f 8 h - f 9 h) k = m_sg f nw t k := by
  intro k h1 h2
  by_cases e : k = h + 1
  · rw [e, m_sg_s f t hh, ← hg h hh (Nat.le_refl h)]; exact if_pos rfl
  · rw [← hg k h1 (by omega)]; exact if_neg e
theorem m_then_lt {v : Nat → Int32} {f : Nat → Nat → Int32} {h s a b : Nat} {t : Int32} (hl : m_leg v f h s t a b) (h40 : (v 2).toInt ≤ 40) (ha : a < 3) (hb : b < 3) : m_then f h s a b < 369 := by
  have := m_to_le hl h40
  show 9 * m_to f h (nI (s / 9)) (nI a) (nI b) + 3 * a + b < 369
  omega
theorem m_br_congr {v : Nat → Int32} {f : Nat → Nat → Int32} {h s a b : Nat} {t : Int32} {nx nx' : Nat → Int32} {fin : Int32 → Int32} (h40 : (v 2).toInt ≤ 40) (ha : a < 3) (hb : b < 3) (hn : ∀ k, k < 369 → nx k = nx' k) : m_br v f h s t a b nx fin = m_br v f h s t a b nx' fin := by
  by_cases hl : m_leg v f h s t a b
  · have e := hn _ (m_then_lt hl h40 ha hb)
    rw [m_br, m_br, if_pos hl, if_pos hl, e]
  · rw [m_br, m_br, if_neg hl, if_neg hl]
theorem m_b9_congr {g g' : Nat → Nat → Int32} (h : ∀ a b, a < 3 → b < 3 → g a b = g' a b) : m_b9 g = m_b9 g' := by
  unfold m_b9
  rw [h 0 0 (by decide) (by decide), h 0 1 (by decide) (by decide), h 0 2 (by decide) (by decide), h 1 0 (by decide) (by decide), h 1 1 (by decide) (by decide), h 1 2 (by decide) (by decide), h 2 0 (by decide) (by decide), h 2 1 (by decide) (by decide), h 2 2 (by decide) (by decide)]
/-- the value of a state with n hours left, in a world -/
noncomputable def mV (v : Nat → Int32) (f : Nat → Nat → Int32) (sg : Nat → Int32) (w : Nat) : Nat → Nat → Int32
  | 0 => fun s => nI (s / 9) * v 20
  | n + 1 => fun s => m_b9 (fun a b => m_br v f (23 - n) s (sg (23 - n)) a b (mV v f sg w n) (m_finW f w (23 - n) s a b))
def mW3 (f : Nat → Nat → Int32) (g : Nat → Int32) : Int32 := if g 0 = nev then nev else if g 1 = nev then nev else if g 2 = nev then nev else 0 + f 17 0 * g 0 + f 17 1 * g 1 + f 17 2 * g 2
/-- the same for all worlds, weighed -/
noncomputable def mA (v : Nat → Int32) (f : Nat → Nat → Int32) (sg : Nat → Int32) (rv : Nat) : Nat → Nat → Int32
  | 0 => fun s => mW3 f (fun w => mV v f sg w 0 s)
  | n + 1 => fun s => if rv ≤ 23 - n then mW3 f (fun w => mV v f sg w (n + 1) s) else m_b9 (fun a b => m_br v f (23 - n) s (sg (23 - n)) a b (mA v f sg rv n) (m_finA f (23 - n) s a b))
/-- the large rows are right from hour j on -/
def okB (v : Nat → Int32) (f : Nat → Nat → Int32) (sg : Nat → Int32) (j : Nat) (B : Nat → Int32) : Prop := ∀ w h s, w < 3 → j ≤ h → h ≤ 24 → s < 369 → B (9225 * w + 369 * h + s) = mV v f sg w (24 - h) s
def okC (v : Nat → Int32) (f : Nat → Nat → Int32) (sg : Nat → Int32) (rv j : Nat) (C : Nat → Int32) : Prop := ∀ h s, j ≤ h → h ≤ 24 → s < 369 → C (369 * h + s) = mA v f sg rv (24 - h) s
/-- and in hour h for the states below s -/
def okBs (v : Nat → Int32) (f : Nat → Nat → Int32) (sg : Nat → Int32) (h s1 : Nat) (B : Nat → Int32) : Prop := ∀ w s, w < 3 → s < s1 → B (9225 * w + 369 * h + s) = mV v f sg w (24 - h) s
def okCs (v : Nat → Int32) (f : Nat → Nat → Int32) (sg : Nat → Int32) (rv h s1 : Nat) (C : Nat → Int32) : Prop := ∀ s, s < s1 → C (369 * h + s) = mA v f sg rv (24 - h) s
theorem okB_upd {v : Nat → Int32} {f : Nat → Nat → Int32} {sg B : Nat → Int32} {h w s : Nat} {x : Int32} (hB : okB v f sg (h + 1) B) (hw : w < 3) (hs : s < 369) (hh : h ≤ 24) : okB v f sg (h + 1) (upd B (9225 * w + 369 * h + s) x) := by
  intro w' h' s' h1 h2 h3 h4
  rw [← hB w' h' s' h1 h2 h3 h4]
  exact if_neg (by omega)
theorem okC_upd {v : Nat → Int32} {f : Nat → Nat → Int32} {sg C : Nat → Int32} {rv h s : Nat} {x : Int32} (hC : okC v f sg rv (h + 1) C) (hs : s < 369) : okC v f sg rv (h + 1) (upd C (369 * h + s) x) := by
  intro h' s' h2 h3 h4
  rw [← hC h' s' h2 h3 h4]
  exact if_neg (by omega)
theorem okBs_3 {v : Nat → Int32} {f : Nat → Nat → Int32} {sg B : Nat → Int32} {h s : Nat} (hB : okBs v f sg h s B) (hs : s < 369) (hh : h ≤ 24) : okBs v f sg h (s + 1) (upd (upd (upd B (0 + 369 * h + s) (mV v f sg 0 (24 - h) s)) (9225 + 369 * h + s) (mV v f sg 1 (24 - h) s)) (18450 + 369 * h + s) (mV v f sg 2 (24 - h) s)) := by
  intro w s' hw hs'
  by_cases e : s' = s
  · subst e
    rcases (show w = 0 ∨ w = 1 ∨ w = 2 by omega) with rfl | rfl | rfl
    · show (if _ then _ else if _ then _ else if _ then _ else _) = _
      rw [if_neg (by omega), if_neg (by omega), if_pos (by omega)]
    · show (if _ then _ else if _ then _ else if _ then _ else _) = _
      rw [if_neg (by omega), if_pos (by omega)]
    · show (if _ then _ else if _ then _ else if _ then _ else _) = _
      rw [if_pos (by omega)]
  · rw [← hB w s' hw (by omega)]
    show (if _ then _ else if _ then _ else if _ then _ else _) = _
    rw [if_neg (by omega), if_neg (by omega), if_neg (by omega)]
theorem okCs_1 {v : Nat → Int32} {f : Nat → Nat → Int32} {sg C : Nat → Int32} {rv h s : Nat} (hC : okCs v f sg rv h s C) : okCs v f sg rv h (s + 1) (upd C (369 * h + s) (mA v f sg rv (24 - h) s)) := by
  intro s' hs'
  by_cases e : s' = s
  · subst e; exact if_pos rfl
  · rw [← hC s' (by omega)]
    exact if_neg (by omega)
theorem mV_step {v : Nat → Int32} {f : Nat → Nat → Int32} {sg B : Nat → Int32} {w h s : Nat} (h40 : (v 2).toInt ≤ 40) (hB : okB v f sg (h + 1) B) (hw : w < 3) (hh : h < 24) : m_b9 (m_brW v f B w h s (sg h)) = mV v f sg w (24 - h) s := by
  rw [show 24 - h = (23 - h) + 1 by omega]
  show _ = m_b9 (fun a b => m_br v f (23 - (23 - h)) s (sg (23 - (23 - h))) a b (mV v f sg w (23 - h)) (m_finW f w (23 - (23 - h)) s a b))
  rw [show 23 - (23 - h) = h by omega]
  refine m_b9_congr (fun a b ha hb => m_br_congr h40 ha hb (fun k hk => ?_))
  have := hB w (h + 1) k hw (Nat.le_refl _) (by omega) hk
  rw [show 24 - (h + 1) = 23 - h by omega] at this
  exact this
theorem mA_step {v : Nat → Int32} {f : Nat → Nat → Int32} {sg C : Nat → Int32} {rv h s : Nat} (h40 : (v 2).toInt ≤ 40) (hC : okC v f sg rv (h + 1) C) (hh : h < 24) (hr : ¬ rv ≤ h) : m_b9 (m_brA v f C h s (sg h)) = mA v f sg rv (24 - h) s := by
  rw [show 24 - h = (23 - h) + 1 by omega]
  show _ = if rv ≤ 23 - (23 - h) then _ else m_b9 (fun a b => m_br v f (23 - (23 - h)) s (sg (23 - (23 - h))) a b (mA v f sg rv (23 - h)) (m_finA f (23 - (23 - h)) s a b))
  rw [show 23 - (23 - h) = h by omega, if_neg hr]
  refine m_b9_congr (fun a b ha hb => m_br_congr h40 ha hb (fun k hk => ?_))
  have := hC (h + 1) k (Nat.le_refl _) (by omega) hk
  rw [show 24 - (h + 1) = 23 - h by omega] at this
  exact this
theorem mW_step {v : Nat → Int32} {f : Nat → Nat → Int32} {sg B : Nat → Int32} {rv h s : Nat} (hB : okBs v f sg h (s + 1) B) (hr : h = 24 ∨ rv ≤ h) (hh : h ≤ 24) : m_wt f B h s = mA v f sg rv (24 - h) s := by
  have e0 := hB 0 s (by decide) (by omega)
  have e1 := hB 1 s (by decide) (by omega)
  have e2 := hB 2 s (by decide) (by omega)
  have k : m_wt f B h s = mW3 f (fun w => mV v f sg w (24 - h) s) := by
    rw [m_wt, show 0 + 369 * h + s = 9225 * 0 + 369 * h + s by omega, show 9225 + 369 * h + s = 9225 * 1 + 369 * h + s by omega, show 18450 + 369 * h + s = 9225 * 2 + 369 * h + s by omega, e0, e1, e2]
    rfl
  rw [k]
  by_cases e : h = 24
  · subst e; rfl
  · rw [show 24 - h = (23 - h) + 1 by omega]
    show _ = if rv ≤ 23 - (23 - h) then _ else _
    rw [show 23 - (23 - h) = h by omega, if_pos (by omega)]
theorem m1_lt {n : Nat} (h : n < 2 ^ 30) : nI n - 1 < nI n := by
  rw [Int32.lt_iff_toInt_lt, show (1 : Int32) = nI 1 from rfl, pk_sub_toInt h (by decide), nI_toInt (by omega)]
  omega
theorem m1_eq (x : Int32) : x + Int32.ofInt (-1) = x - 1 := by
  rw [Int32.sub_eq_add_neg]; rfl
