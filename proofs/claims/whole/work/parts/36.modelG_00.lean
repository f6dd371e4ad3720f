theorem mV_0 (v : Nat → Int32) (f : Nat → Nat → Int32) (sg : Nat → Int32) (w : Nat) (x : Int32) : ∀ n, mV (upd v 0 x) f sg w n = mV v f sg w n := by
  intro n
  induction n with
  | zero => rfl
  | succ n ih =>
    funext s
    show m_b9 (fun a b => m_br (upd v 0 x) f (23 - n) s (sg (23 - n)) a b (mV (upd v 0 x) f sg w n) (m_finW f w (23 - n) s a b)) = m_b9 (fun a b => m_br v f (23 - n) s (sg (23 - n)) a b (mV v f sg w n) (m_finW f w (23 - n) s a b))
    rw [ih]; rfl
theorem mA_0 (v : Nat → Int32) (f : Nat → Nat → Int32) (sg : Nat → Int32) (rv : Nat) (x : Int32) : ∀ n, mA (upd v 0 x) f sg rv n = mA v f sg rv n := by
  intro n
  induction n with
  | zero => funext s; rfl
  | succ n ih =>
    funext s
    show (if rv ≤ 23 - n then mW3 f (fun w => mV (upd v 0 x) f sg w (n + 1) s) else m_b9 (fun a b => m_br (upd v 0 x) f (23 - n) s (sg (23 - n)) a b (mA (upd v 0 x) f sg rv n) (m_finA f (23 - n) s a b))) = (if rv ≤ 23 - n then mW3 f (fun w => mV v f sg w (n + 1) s) else m_b9 (fun a b => m_br v f (23 - n) s (sg (23 - n)) a b (mA v f sg rv n) (m_finA f (23 - n) s a b)))
    rw [ih, show (fun w => mV (upd v 0 x) f sg w (n + 1) s) = (fun w => mV v f sg w (n + 1) s) from funext fun w => by rw [mV_0]]; rfl
noncomputable def gW (v : Nat → Int32) (f : Nat → Nat → Int32) (nw w : Nat) (t : Int32) (s a b : Nat) : Int32 := m_br v f nw s t a b (mV v f (m_sg f nw t) w (23 - nw)) (m_finW f w nw s a b)
noncomputable def gA (v : Nat → Int32) (f : Nat → Nat → Int32) (nw rv : Nat) (t : Int32) (s a b : Nat) : Int32 := m_br v f nw s t a b (mA v f (m_sg f nw t) rv (23 - nw)) (m_finA f nw s a b)
theorem gW_eq {v : Nat → Int32} {f : Nat → Nat → Int32} {B : Nat → Int32} {nw w s a b : Nat} {t : Int32} (h40 : (v 2).toInt ≤ 40) (hB : okB v f (m_sg f nw t) nw B) (hw : w < 3) (hn : nw < 24) (ha : a < 3) (hb : b < 3) : m_brW v f B w nw s t a b = gW v f nw w t s a b := by
  refine m_br_congr h40 ha hb (fun k hk => ?_)
  have := hB w (nw + 1) k hw (by omega) (by omega) hk
  rw [show 24 - (nw + 1) = 23 - nw by omega] at this
  exact this
theorem gA_eq {v : Nat → Int32} {f : Nat → Nat → Int32} {C : Nat → Int32} {nw rv s a b : Nat} {t : Int32} (h40 : (v 2).toInt ≤ 40) (hC : okC v f (m_sg f nw t) rv nw C) (hn : nw < 24) (ha : a < 3) (hb : b < 3) : m_brA v f C nw s t a b = gA v f nw rv t s a b := by
  refine m_br_congr h40 ha hb (fun k hk => ?_)
  have := hC (nw + 1) k (by omega) (by omega) hk
  rw [show 24 - (nw + 1) = 23 - nw by omega] at this
  exact this
def n_do9 (g : Nat → Nat → Int32) : Int32 := if m_b9 g = nev then -1 else if g 0 0 = m_b9 g then nI 0 else if g 0 1 = m_b9 g then nI 1 else if g 0 2 = m_b9 g then nI 2 else if g 1 0 = m_b9 g then nI 3 else if g 1 1 = m_b9 g then nI 4 else if g 1 2 = m_b9 g then nI 5 else if g 2 0 = m_b9 g then nI 6 else if g 2 1 = m_b9 g then nI 7 else if g 2 2 = m_b9 g then nI 8 else -1
noncomputable def n_doing (v : Nat → Int32) (f : Nat → Nat → Int32) (nw rv w : Nat) (t : Int32) (s : Nat) : Int32 := if rv ≤ nw then n_do9 (gW v f nw w t s) else n_do9 (gA v f nw rv t s)
theorem n_doing_0 (v : Nat → Int32) (f : Nat → Nat → Int32) (nw rv w : Nat) (t : Int32) (s : Nat) (x : Int32) : n_doing (upd v 0 x) f nw rv w t s = n_doing v f nw rv w t s := by
  have e1 : gW (upd v 0 x) f nw w t s = gW v f nw w t s := by
    funext a b
    show m_br (upd v 0 x) f nw s t a b (mV (upd v 0 x) f (m_sg f nw t) w (23 - nw)) (m_finW f w nw s a b) = _
    rw [mV_0]; rfl
  have e2 : gA (upd v 0 x) f nw rv t s = gA v f nw rv t s := by
    funext a b
    show m_br (upd v 0 x) f nw s t a b (mA (upd v 0 x) f (m_sg f nw t) rv (23 - nw)) (m_finA f nw s a b) = _
    rw [mA_0]; rfl
  rw [n_doing, n_doing, e1, e2]
set_option maxHeartbeats 4000000 in
set_option maxRecDepth 100000 in
theorem c_X5_worthNow (l : Launch) (E : GG) (r : Nat → Nat) (v : Nat → Int32) (f : Nat → Nat → Int32) (B C : Nat → Int32) (sz : Nat)  (nw rv up lo m0 m1 : Nat) (hnw : v 1 = nI nw) (hn24 : nw ≤ 24) (hrv : v 19 = nI rv) (hr24 : rv ≤ 24) (h40 : (v 2).toInt ≤ 40) (hup : v 4 = nI up) (hu40 : up ≤ 40) (hlo : v 5 = nI lo) (hm0 : f 21 0 = nI m0) (h03 : m0 < 3) (hm1 : f 21 1 = nI m1) (h13 : m1 < 3) : Met l yX5_worthNow wsX5_worthNow (Rm 6 1 25) (pM E [.ref (r 0)] (MW E r v f B C) sz) (va_Qi (fun (x : Int32) (u : MS) => x = mA v f (m_sg f nw (nI (up + lo))) rv (24 - nw) (9 * up + 3 * m0 + m1) ∧ u.1 = v ∧ u.2.1 = f) (bM E (va_A (MW E r v f B C) sz) (MWu E r)) (va_A (MW E r v f B C) sz)) 1 25 (va_A (MW E r v f B C) sz) := by
  refine ofM (by decide) rfl (Nat.le_of_ble_eq_true rfl) ?_
  intro p e s m below meth c A hx hb hr hlocks hml hown hin hts hK hP hD hS hA hsz hAe ls hl
  rw [← hAe]
  have hl : lv_has ls 1 [(0, .ref (r 0))] := hl
  refine lv_aload_n hx hb dX5_worthNow_0 rfl (lv_at hl 0 rfl) ?_
  refine lv_aload_n hx hb dX5_worthNow_1 rfl (lv_at hl 0 rfl) ?_
  refine va_get (D := E.1) (ci := 5) (v := .int (v 4)) (C := RX5) (T := TX5) (N := 26) hx hb hts (fun _ h => (List.mem_cons_of_mem _ (List.mem_append_right _ h))) hown hK.1 hP 0 rfl rfl 4 (by decide) (hts _ (List.mem_of_getElem? (i := 1) rfl)) (fun _ h9 => h9) rfl dX5_worthNow_2 ?_
  refine w_top (show (v 4) = nI up from hup) ?_
  refine lv_aload_n hx hb dX5_worthNow_5 rfl (lv_at hl 0 rfl) ?_
  refine va_get (D := E.1) (ci := 5) (v := .int (v 5)) (C := RX5) (T := TX5) (N := 26) hx hb hts (fun _ h => (List.mem_cons_of_mem _ (List.mem_append_right _ h))) hown hK.1 hP 0 rfl rfl 5 (by decide) (hts _ (List.mem_of_getElem? (i := 2) rfl)) (fun _ h9 => h9) rfl dX5_worthNow_6 ?_
  refine w_top (show (v 5) = nI lo from hlo) ?_
  refine lv_iadd hx hb dX5_worthNow_9 ?_
  refine w_top (show ((nI up) + (nI lo)) = (nI (up + lo)) from nI_add _ _) ?_
  refine cM_v (As := [.ref (r 0), .int (nI (up + lo))]) (wr := []) (rM_V ⟨hx, hb, hml, hown, hts⟩ (c_X5_laysOut l E r v f B C s.heap.size (nI (up + lo)) nw rv hnw hn24 hrv hr24 h40) (cwV 1 hts gX5_worthNow_X5_laysOut rfl rfl rfl (by decide +kernel) ⟨Nat.le_of_ble_eq_true rfl, Nat.le_of_ble_eq_true rfl⟩) hK hP hD 5 0 rfl rfl rfl hl.1 rfl (Nat.le_of_ble_eq_true rfl) dX5_worthNow_10 ⟨Nat.le_of_ble_eq_true rfl, Nat.le_of_ble_eq_true rfl⟩) hP hD hS hA [0, 1, 2, 3, 4, 5, 6, 7, 8, 9, 10, 11, 12, 13, 14, 15] [] rfl rfl (by decide) (by decide) (fun u_1 H locs hq_1 hP hD hS => ?_)
  obtain ⟨v_, f_, B_1, C_1⟩ := u_1
  obtain ⟨e1, e2, hB_1, hC_1⟩ := hq_1
  dsimp only at e1 e2 hB_1 hC_1
  replace e1 := e1.symm
  replace e2 := e2.symm
  subst e1 e2
  have hP : va_P E.1 vwCl (MW E r v f B_1 C_1) H := hP
  have hD : va_D A (MW E r v f B_1 C_1) := hD
  refine lv_aload_n hx hb dX5_worthNow_13 rfl (lv_at hl 0 rfl) ?_
  refine va_get (D := E.1) (ci := 5) (v := .ref (r 25)) (C := RX5) (T := TX5) (N := 26) hx hb hts (fun _ h => (List.mem_cons_of_mem _ (List.mem_append_right _ h))) hown hK.1 hP 0 rfl rfl 25 (by decide) (hts _ (List.mem_of_getElem? (i := 3) rfl)) (fun _ h9 => h9) rfl dX5_worthNow_14 ?_
  refine lv_sipush (v := 369) hx hb dX5_worthNow_17 (by decide) ?_
  refine lv_aload_n hx hb dX5_worthNow_20 rfl (lv_at hl 0 rfl) ?_
  refine va_get (D := E.1) (ci := 5) (v := .int (v 1)) (C := RX5) (T := TX5) (N := 26) hx hb hts (fun _ h => (List.mem_cons_of_mem _ (List.mem_append_right _ h))) hown hK.1 hP 0 rfl rfl 1 (by decide) (hts _ (List.mem_of_getElem? (i := 4) rfl)) (fun _ h9 => h9) rfl dX5_worthNow_21 ?_
  refine w_top (show (v 1) = nI nw from hnw) ?_
  refine lv_imul hx hb dX5_worthNow_24 ?_
  refine w_top (show (369 * (nI nw)) = (nI (369 * nw)) from pk_mul _ _) ?_
  refine lv_aload_n hx hb dX5_worthNow_25 rfl (lv_at hl 0 rfl) ?_
  refine cR_V ⟨hx, hb, hml, hown, hts⟩ (c_X5_stateNow l E r v f B_1 C_1 up m0 m1 hup hm0 hm1) (cwV 0 hts gX5_worthNow_X5_stateNow rfl rfl rfl (by decide +kernel) ⟨Nat.le_of_ble_eq_true rfl, Nat.le_of_ble_eq_true rfl⟩) hK hP 5 0 rfl rfl rfl hl.1 rfl (Nat.le_of_ble_eq_true rfl) dX5_worthNow_26 ⟨Nat.le_of_ble_eq_true rfl, Nat.le_of_ble_eq_true rfl⟩ ?_
  refine lv_iadd hx hb dX5_worthNow_29 ?_
  refine w_top (show ((nI (369 * nw)) + (nI (9 * up + 3 * m0 + m1))) = (nI ((369 * nw) + (9 * up + 3 * m0 + m1))) from nI_add _ _) ?_
  refine n_iald (f := C_1) hx hb hK.1 hP 15 0 rfl rfl (i := (369 * nw) + (9 * up + 3 * m0 + m1)) (by omega) (by decide) dX5_worthNow_30 ?_
  refine W.widen (k := 1) (n := 25) (Nat.le_of_ble_eq_true rfl) (Nat.le_of_ble_eq_true rfl) ?_
  exact q_ret ((v, f, B_1, C_1) : MS) hx hb hr hlocks ⟨hC_1 nw _ (Nat.le_refl _) hn24 (by omega), rfl, rfl⟩ hP hD hS dX5_worthNow_31
