/-- a row counts by its places alone -/
theorem P_row {D : va_G} {cl : List vw_C} {A : Nat → Prop} {ws : va_W} {H : Heap} (hP : va_P D cl ws H) (hD : va_D A ws) (q0 : Nat) {a n : Nat} {cA : ClassId} {g : Nat → Int32} (g' : Nat → Int32) (ha : ws[q0]? = some (a, .inl (cA, n, .inl g))) (h : ∀ i, i < n → g i = g' i) : va_P D cl (ws.set q0 (a, .inl (cA, n, .inl g'))) H := by
  refine va_P.set hP hD ha ?_ (fun _ _ => rfl)
  have k : H[a]? = some (vp_cell cA (n, .inl g)) := hP q0 _ ha
  show H[a]? = some (vp_cell cA (n, .inl g'))
  rw [k, vp_cell_i, vp_cell_i]
  have e : (Array.ofFn (n := n) fun j => Value.int (g j.val)) = Array.ofFn (n := n) fun j => Value.int (g' j.val) := by
    congr 1
    funext j
    rw [h j.val j.isLt]
  show some ({ cls := cA, slots := Array.ofFn (n := n) fun j => Value.int (g j.val), vm := .none } : Cell) = some ({ cls := cA, slots := Array.ofFn (n := n) fun j => Value.int (g' j.val), vm := .none } : Cell)
  rw [e]
theorem rowF_all {g : Nat → Int32} {n : Nat} {y : Int32} (i : Nat) (h : i < n) : rowF g 0 n y i = y := if_pos ⟨Nat.zero_le _, h⟩
/-- an outlook's addresses, its values at a, what is behind at b -/
def qz (q : Nat → Nat) (a b : Nat) : Nat → Nat := fun k => match k with
  | 2 => a | 3 => b | _ => q k
/-- all doings below n tried in an hour; all hours back from to, k of them -/
noncomputable def pD (f : Nat → Nat → Int32) (h : Nat) (sc : Int32) (pr be : Nat → Int32) : Nat → Nat → I2
  | 0 => fun _ => (nev, -1)
  | n + 1 => fun j => fP f h n sc pr be 9 j (pD f h sc pr be n j)
noncomputable def pDv (f : Nat → Nat → Int32) (h : Nat) (sc : Int32) (pr be : Nat → Int32) (n : Nat) : Nat → Int32 := fun j => (pD f h sc pr be n j).1
noncomputable def pDc (f : Nat → Nat → Int32) (h : Nat) (sc : Int32) (pr be : Nat → Int32) (n : Nat) : Nat → Int32 := fun j => (pD f h sc pr be n j).2
theorem pDv_s {f : Nat → Nat → Int32} {h : Nat} {sc : Int32} {pr be : Nat → Int32} {n : Nat} : fRv f h n sc pr be (pDv f h sc pr be n) (pDc f h sc pr be n) 9 = pDv f h sc pr be (n + 1) := rfl
theorem pDc_s {f : Nat → Nat → Int32} {h : Nat} {sc : Int32} {pr be : Nat → Int32} {n : Nat} : fRc f h n sc pr be (pDv f h sc pr be n) (pDc f h sc pr be n) 9 = pDc f h sc pr be (n + 1) := rfl
noncomputable def cV (f : Nat → Nat → Int32) (sc : Int32) (pr : Nat → Int32) (to : Nat) (va ch : Nat → Int32) : Nat → Nat → I2
  | 0 => fun j => (va j, ch j)
  | k + 1 => fun j => pD f (to - 1 - k) sc pr (fun i => (cV f sc pr to va ch k i).1) 9 j
noncomputable def plV (f : Nat → Nat → Int32) (sc : Int32) (pr : Nat → Int32) (to : Nat) (va ch : Nat → Int32) (k : Nat) : Nat → Int32 := fun i => (cV f sc pr to va ch k i).1
noncomputable def plC (f : Nat → Nat → Int32) (sc : Int32) (pr : Nat → Int32) (to : Nat) (va ch : Nat → Int32) (k : Nat) : Nat → Int32 := fun i => (cV f sc pr to va ch k i).2
theorem plV_s {f : Nat → Nat → Int32} {sc : Int32} {pr : Nat → Int32} {to : Nat} {va ch : Nat → Int32} {h : Nat} (hh : h + 1 ≤ to) : pDv f h sc pr (plV f sc pr to va ch (to - (h + 1))) 9 = plV f sc pr to va ch (to - h) := by
  rw [show to - h = (to - (h + 1)) + 1 by omega]
  funext j
  show _ = (pD f (to - 1 - (to - (h + 1))) sc pr (fun i => (cV f sc pr to va ch (to - (h + 1)) i).1) 9 j).1
  rw [show to - 1 - (to - (h + 1)) = h by omega]; rfl
theorem plC_s {f : Nat → Nat → Int32} {sc : Int32} {pr : Nat → Int32} {to : Nat} {va ch : Nat → Int32} {h : Nat} (hh : h + 1 ≤ to) : pDc f h sc pr (plV f sc pr to va ch (to - (h + 1))) 9 = plC f sc pr to va ch (to - h) := by
  rw [show to - h = (to - (h + 1)) + 1 by omega]
  funext j
  show _ = (pD f (to - 1 - (to - (h + 1))) sc pr (fun i => (cV f sc pr to va ch (to - (h + 1)) i).1) 9 j).2
  rw [show to - 1 - (to - (h + 1)) = h by omega]; rfl
theorem m1_lt2 {j n : Nat} (h : j ≤ n) (hn : n < 2 ^ 30) : nI j - 1 < nI n := by
  rw [Int32.lt_iff_toInt_lt, show (1 : Int32) = nI 1 from rfl, pk_sub_toInt (by omega) (by decide), nI_toInt (by omega)]
  omega
set_option maxHeartbeats 4000000 in
set_option maxRecDepth 100000 in
theorem c_X3_plan (l : Launch) (E : GG) (q r : Nat → Nat) (sc : Int32) (pr va be ch : Nat → Int32) (f : Nat → Nat → Int32) (sz : Nat) (fr : Nat) (to : Nat) (hto : to ≤ 24) (hfr0 : fr ≤ 24) (hop : ∀ h d, fr ≤ h → h < to → d < 9 → opOK f h d) : Met l yX3_plan wsX3_plan (Rm 2 0 0) (pM E [.ref (q 0), .ref (r 4), .int (nI fr), .int (nI to)] (PW E q r sc pr va be ch f) sz) (va_Qv (fun (_ : (Nat × Nat) × (Nat → Int32)) => True) (bM E (va_A (PW E q r sc pr va be ch f) sz) (fun (u : (Nat × Nat) × (Nat → Int32)) => PW E (qz q u.1.1 u.1.2) r sc pr (plV f sc pr to va ch (to - fr)) u.2 (plC f sc pr to va ch (to - fr)) f)) (va_A (PW E q r sc pr va be ch f) sz)) 0 0 (va_A (PW E q r sc pr va be ch f) sz) := by
  refine ofM (by decide) rfl (Nat.le_of_ble_eq_true rfl) ?_
  intro p e s m below meth c A hx hb hr hlocks hml hown hin hts hK hP hD hS hA hsz hAe ls hl
  rw [← hAe]
  have hl : lv_has ls 7 [(0, .ref (q 0)), (1, .ref (r 4)), (2, .int (nI fr)), (3, .int (nI to))] := hl
  refine lv_iload_n hx hb dX3_plan_0 rfl (lv_at hl 3 rfl) ?_
  refine lv_iconst (v := 1) hx hb dX3_plan_1 (by decide) ?_
  refine lv_isub hx hb dX3_plan_2 ?_
  refine lv_istore (lv' := [(4, .int ((nI to) - 1)), (0, .ref (q 0)), (1, .ref (r 4)), (2, .int (nI fr)), (3, .int (nI to))]) hx hb dX3_plan_3 hl (by decide) rfl (fun ls hl => ?_)
  have hP : va_P E.1 vwCl (PW E (qz q (q 2) (q 3)) r sc pr (plV f sc pr to va ch (to - to)) be (plC f sc pr to va ch (to - to)) f) s.heap := by rw [Nat.sub_self]; exact hP
  have hD : va_D A (PW E (qz q (q 2) (q 3)) r sc pr (plV f sc pr to va ch (to - to)) be (plC f sc pr to va ch (to - to)) f) := by rw [Nat.sub_self]; exact hD
  refine w_while (σ := Heap × List Loc × Array Slot × Nat × Nat × Nat × (Nat → Int32)) (fun ⟨H, locs, ls, j, a, b, be2⟩ => j) (fun ⟨H, locs, ls, j, a, b, be2⟩ => va_P E.1 vwCl (PW E (qz q a b) r sc pr (plV f sc pr to va ch (to - j)) be2 (plC f sc pr to va ch (to - j)) f) H ∧ va_D A (PW E (qz q a b) r sc pr (plV f sc pr to va ch (to - j)) be2 (plC f sc pr to va ch (to - j)) f) ∧ va_S A s.heap H locs ∧ lv_has ls 7 [(0, .ref (q 0)), (1, .ref (r 4)), (2, .int (nI fr)), (3, .int (nI to)), (4, .int (nI j - 1))] ∧ j ≤ to ∧ (fr ≤ j ∨ j = to)) (fun ⟨H, locs, ls, j, a, b, be2⟩ => H) (fun ⟨H, locs, ls, j, a, b, be2⟩ => locs) (fun ⟨H, locs, ls, j, a, b, be2⟩ => F0 m 5 ls []) ?_ (s.heap, [], ls, to, (q 2), (q 3), be) ⟨hP, hD, hS, lv_sub hl [1, 2, 3, 4, 0] rfl, Nat.le_refl _, Or.inr rfl⟩
  rintro ⟨H, locs, ls, j, a, b, be2⟩ ⟨hP, hD, hS, hl, hj, hfr⟩ ih5
  dsimp only at hP hD hS hl ⊢
  rcases Nat.lt_or_ge fr j with hlt | hge
  · obtain ⟨h, rfl⟩ : ∃ h, j = h + 1 := ⟨j - 1, by omega⟩
    rw [nI_pred] at hl
    refine lv_iload hx hb dX3_plan_5 (lv_at hl 4 rfl) ?_
    refine lv_iload_n hx hb dX3_plan_7 rfl (lv_at hl 2 rfl) ?_
    refine n_icmp_lt (tgt := 79) (a := h) (b := fr) hx hb dX3_plan_8 (by decide) (by omega) (by omega) (fun c_1 => ?_) (fun c_1 => ?_)
    · skip
      exact absurd c_1 (by omega)
    · skip
      refine lv_aload_n hx hb dX3_plan_11 rfl (lv_at hl 0 rfl) ?_
      refine va_get (D := E.1) (ci := 3) (v := .ref b) (C := RX3) (T := TX3) (N := 5) hx hb hts (fun _ h => (List.mem_cons_of_mem _ (List.mem_append_left _ (List.mem_append_right _ h)))) hown hK.1 hP 0 rfl rfl 3 (by decide) (hts _ (List.mem_of_getElem? (i := 1) rfl)) (fun _ h9 => h9) rfl dX3_plan_12 ?_
      refine lv_astore (lv' := [(5, .ref b), (0, .ref (q 0)), (1, .ref (r 4)), (2, .int (nI fr)), (3, .int (nI to)), (4, .int (nI h))]) hx hb dX3_plan_15 hl (by decide) rfl (fun ls hl => ?_)
      refine lv_aload_n hx hb dX3_plan_17 rfl (lv_at hl 1 rfl) ?_
      refine lv_aload_n hx hb dX3_plan_18 rfl (lv_at hl 1 rfl) ?_
      refine va_get (D := E.1) (ci := 3) (v := .ref a) (C := RX3) (T := TX3) (N := 5) hx hb hts (fun _ h => (List.mem_cons_of_mem _ (List.mem_append_left _ (List.mem_append_right _ h)))) hown hK.1 hP 0 rfl rfl 2 (by decide) (hts _ (List.mem_of_getElem? (i := 2) rfl)) (fun _ h9 => h9) rfl dX3_plan_19 ?_
      refine va_put (D := E.1) (ci := 3) (v := .ref a) (ty := .array .int) (C := RX3) (T := TX3) (N := 5) hx hb hts (fun _ h => (List.mem_cons_of_mem _ (List.mem_append_left _ (List.mem_append_right _ h)))) tyX3 tyX3_ok nmX3 hown hK.1 hP hD hS 0 rfl rfl 3 (by decide) (hts _ (List.mem_of_getElem? (i := 1) rfl)) (fun _ h9 => h9) rfl (by decide +kernel) rfl rfl (Nat.le_of_ble_eq_true rfl) dX3_plan_22 (fun H locs hP hD hS => ?_)
      refine lv_aload_n hx hb dX3_plan_25 rfl (lv_at hl 1 rfl) ?_
      refine lv_aload hx hb dX3_plan_26 (lv_at hl 0 rfl) ?_
      refine va_put (D := E.1) (ci := 3) (v := .ref b) (ty := .array .int) (C := RX3) (T := TX3) (N := 5) hx hb hts (fun _ h => (List.mem_cons_of_mem _ (List.mem_append_left _ (List.mem_append_right _ h)))) tyX3 tyX3_ok nmX3 hown hK.1 hP hD hS 0 rfl rfl 2 (by decide) (hts _ (List.mem_of_getElem? (i := 2) rfl)) (fun _ h9 => h9) rfl (by decide +kernel) rfl rfl (Nat.le_of_ble_eq_true rfl) dX3_plan_28 (fun H locs hP hD hS => ?_)
      have hP := hP.sub (ws' := PW E (qz q b a) r sc pr be2 (plV f sc pr to va ch (to - (h + 1))) (plC f sc pr to va ch (to - (h + 1))) f) [0, 1, 3, 2, 4, 5, 6, 7, 8, 9, 10] rfl
      have hD := hD.sub (ws' := PW E (qz q b a) r sc pr be2 (plV f sc pr to va ch (to - (h + 1))) (plC f sc pr to va ch (to - (h + 1))) f) [0, 1, 3, 2, 4, 5, 6, 7, 8, 9, 10] (by decide) rfl
      refine lv_aload_n hx hb dX3_plan_31 rfl (lv_at hl 1 rfl) ?_
      refine va_get (D := E.1) (ci := 3) (v := .ref b) (C := RX3) (T := TX3) (N := 5) hx hb hts (fun _ h => (List.mem_cons_of_mem _ (List.mem_append_left _ (List.mem_append_right _ h)))) hown hK.1 hP 0 rfl rfl 2 (by decide) (hts _ (List.mem_of_getElem? (i := 2) rfl)) (fun _ h9 => h9) rfl dX3_plan_32 ?_
      refine lv_ldc hx hb hown (hts _ (List.mem_of_getElem? (i := 3) rfl)) dX3_plan_35 ?_
      refine cM_v (As := [.ref b, .int (-1000000000)]) (wr := [((q 0), .inr (3, [.ref (q 1), .int sc, .ref b, .ref a, .ref (q 4)])), ((q 1), .inl (E.2 0, 24, .inl pr)), (a, .inl (E.2 0, 369, .inl (plV f sc pr to va ch (to - (h + 1))))), ((q 4), .inl (E.2 0, 369, .inl (plC f sc pr to va ch (to - (h + 1))))), ((r 4), .inr (0, [.ref (r 1), .ref (r 2), .ref (r 3), .ref (r 18), .ref (r 19), .ref (r 20), .ref (r 21), .ref (r 22), .ref (r 23)])), ((r 18), .inl (E.2 0, 216, .inl (f 18))), ((r 19), .inl (E.2 0, 216, .inl (f 19))), ((r 21), .inl (E.2 0, 216, .inl (f 21))), ((r 22), .inl (E.2 0, 216, .inl (f 22))), ((r 23), .inl (E.2 0, 81, .inl (f 23)))]) (rM_S ⟨hx, hb, hml, hown, hts⟩ (c_J7_fill_53178 l E b 369 be2 H.size (-1000000000) (by decide)) (va_cwS 2 hts gX3_plan_J7_fill_53178 rfl rfl rfl (by decide +kernel) ⟨Nat.le_of_ble_eq_true rfl, Nat.le_of_ble_eq_true rfl⟩) hK (hP.sub (ws' := [(b, .inl (E.2 0, 369, .inl be2))]) [2] rfl) (hD.sub (ws' := [(b, .inl (E.2 0, 369, .inl be2))]) [2] (by decide) rfl) rfl hl.1 rfl (Nat.le_of_ble_eq_true rfl) dX3_plan_37 ⟨Nat.le_of_ble_eq_true rfl, Nat.le_of_ble_eq_true rfl⟩) hP hD hS hA [2] [0, 1, 3, 4, 5, 6, 7, 8, 9, 10] rfl rfl (by decide) (by decide) (fun u_2 H locs hq_2 hP hD hS => ?_)
      subst hq_2
      have hP := hP.sub (ws' := PW E (qz q b a) r sc pr (rowF be2 0 369 (-1000000000)) (plV f sc pr to va ch (to - (h + 1))) (plC f sc pr to va ch (to - (h + 1))) f) [0, 1, 10, 2, 3, 4, 5, 6, 7, 8, 9] rfl
      have hD := hD.sub (ws' := PW E (qz q b a) r sc pr (rowF be2 0 369 (-1000000000)) (plV f sc pr to va ch (to - (h + 1))) (plC f sc pr to va ch (to - (h + 1))) f) [0, 1, 10, 2, 3, 4, 5, 6, 7, 8, 9] (by decide) rfl
      have hP := P_row hP hD 2 (fun _ => (-1000000000)) rfl (fun i h => rowF_all i h)
      have hD := hD.set (e := .inl (E.2 0, 369, .inl (fun _ => (-1000000000)))) (p := 2) rfl
      have hP : va_P E.1 vwCl (PW E (qz q b a) r sc pr (fun _ => (-1000000000)) (plV f sc pr to va ch (to - (h + 1))) (plC f sc pr to va ch (to - (h + 1))) f) H := hP
      have hD : va_D A (PW E (qz q b a) r sc pr (fun _ => (-1000000000)) (plV f sc pr to va ch (to - (h + 1))) (plC f sc pr to va ch (to - (h + 1))) f) := hD
      refine lv_aload_n hx hb dX3_plan_40 rfl (lv_at hl 1 rfl) ?_
      refine va_get (D := E.1) (ci := 3) (v := .ref (q 4)) (C := RX3) (T := TX3) (N := 5) hx hb hts (fun _ h => (List.mem_cons_of_mem _ (List.mem_append_left _ (List.mem_append_right _ h)))) hown hK.1 hP 0 rfl rfl 4 (by decide) (hts _ (List.mem_of_getElem? (i := 4) rfl)) (fun _ h9 => h9) rfl dX3_plan_41 ?_
      refine lv_iconst (v := (-1)) hx hb dX3_plan_44 (by decide) ?_
      refine cM_v (As := [.ref (q 4), .int (-1)]) (wr := [((q 0), .inr (3, [.ref (q 1), .int sc, .ref b, .ref a, .ref (q 4)])), ((q 1), .inl (E.2 0, 24, .inl pr)), (b, .inl (E.2 0, 369, .inl (fun _ => (-1000000000)))), (a, .inl (E.2 0, 369, .inl (plV f sc pr to va ch (to - (h + 1))))), ((r 4), .inr (0, [.ref (r 1), .ref (r 2), .ref (r 3), .ref (r 18), .ref (r 19), .ref (r 20), .ref (r 21), .ref (r 22), .ref (r 23)])), ((r 18), .inl (E.2 0, 216, .inl (f 18))), ((r 19), .inl (E.2 0, 216, .inl (f 19))), ((r 21), .inl (E.2 0, 216, .inl (f 21))), ((r 22), .inl (E.2 0, 216, .inl (f 22))), ((r 23), .inl (E.2 0, 81, .inl (f 23)))]) (rM_S ⟨hx, hb, hml, hown, hts⟩ (c_J7_fill_53178 l E (q 4) 369 (plC f sc pr to va ch (to - (h + 1))) H.size (-1) (by decide)) (va_cwS 2 hts gX3_plan_J7_fill_53178 rfl rfl rfl (by decide +kernel) ⟨Nat.le_of_ble_eq_true rfl, Nat.le_of_ble_eq_true rfl⟩) hK (hP.sub (ws' := [((q 4), .inl (E.2 0, 369, .inl (plC f sc pr to va ch (to - (h + 1)))))]) [4] rfl) (hD.sub (ws' := [((q 4), .inl (E.2 0, 369, .inl (plC f sc pr to va ch (to - (h + 1)))))]) [4] (by decide) rfl) rfl hl.1 rfl (Nat.le_of_ble_eq_true rfl) dX3_plan_45 ⟨Nat.le_of_ble_eq_true rfl, Nat.le_of_ble_eq_true rfl⟩) hP hD hS hA [4] [0, 1, 2, 3, 5, 6, 7, 8, 9, 10] rfl rfl (by decide) (by decide) (fun u_3 H locs hq_3 hP hD hS => ?_)
      subst hq_3
      have hP := hP.sub (ws' := PW E (qz q b a) r sc pr (fun _ => (-1000000000)) (plV f sc pr to va ch (to - (h + 1))) (rowF (plC f sc pr to va ch (to - (h + 1))) 0 369 (-1)) f) [0, 1, 2, 3, 10, 4, 5, 6, 7, 8, 9] rfl
      have hD := hD.sub (ws' := PW E (qz q b a) r sc pr (fun _ => (-1000000000)) (plV f sc pr to va ch (to - (h + 1))) (rowF (plC f sc pr to va ch (to - (h + 1))) 0 369 (-1)) f) [0, 1, 2, 3, 10, 4, 5, 6, 7, 8, 9] (by decide) rfl
      have hP := P_row hP hD 4 (fun _ => (-1)) rfl (fun i h => rowF_all i h)
      have hD := hD.set (e := .inl (E.2 0, 369, .inl (fun _ => (-1)))) (p := 4) rfl
      have hP : va_P E.1 vwCl (PW E (qz q b a) r sc pr (fun _ => (-1000000000)) (plV f sc pr to va ch (to - (h + 1))) (fun _ => (-1)) f) H := hP
      have hD : va_D A (PW E (qz q b a) r sc pr (fun _ => (-1000000000)) (plV f sc pr to va ch (to - (h + 1))) (fun _ => (-1)) f) := hD
      refine lv_iconst (v := 0) hx hb dX3_plan_48 (by decide) ?_
      refine lv_istore (lv' := [(6, .int 0), (5, .ref b), (0, .ref (q 0)), (1, .ref (r 4)), (2, .int (nI fr)), (3, .int (nI to)), (4, .int (nI h))]) hx hb dX3_plan_49 hl (by decide) rfl (fun ls hl => ?_)
      have hP : va_P E.1 vwCl (PW E (qz q b a) r sc pr (pDv f h sc pr (plV f sc pr to va ch (to - (h + 1))) 0) (plV f sc pr to va ch (to - (h + 1))) (pDc f h sc pr (plV f sc pr to va ch (to - (h + 1))) 0) f) H := hP
      have hD : va_D A (PW E (qz q b a) r sc pr (pDv f h sc pr (plV f sc pr to va ch (to - (h + 1))) 0) (plV f sc pr to va ch (to - (h + 1))) (pDc f h sc pr (plV f sc pr to va ch (to - (h + 1))) 0) f) := hD
      refine w_while (σ := Heap × List Loc × Array Slot × Nat) (fun ⟨H, locs, ls, n⟩ => 9 - n) (fun ⟨H, locs, ls, n⟩ => va_P E.1 vwCl (PW E (qz q b a) r sc pr (pDv f h sc pr (plV f sc pr to va ch (to - (h + 1))) n) (plV f sc pr to va ch (to - (h + 1))) (pDc f h sc pr (plV f sc pr to va ch (to - (h + 1))) n) f) H ∧ va_D A (PW E (qz q b a) r sc pr (pDv f h sc pr (plV f sc pr to va ch (to - (h + 1))) n) (plV f sc pr to va ch (to - (h + 1))) (pDc f h sc pr (plV f sc pr to va ch (to - (h + 1))) n) f) ∧ va_S A s.heap H locs ∧ lv_has ls 7 [(0, .ref (q 0)), (1, .ref (r 4)), (2, .int (nI fr)), (3, .int (nI to)), (4, .int (nI h)), (6, .int (nI n))] ∧ n ≤ 9) (fun ⟨H, locs, ls, n⟩ => H) (fun ⟨H, locs, ls, n⟩ => locs) (fun ⟨H, locs, ls, n⟩ => F0 m 51 ls []) ?_ (H, locs, ls, 0) ⟨hP, hD, hS, lv_sub hl [2, 3, 4, 5, 6, 0] rfl, Nat.zero_le _⟩
      rintro ⟨H, locs, ls, n⟩ ⟨hP, hD, hS, hl, hn⟩ ih51
      dsimp only at hP hD hS hl ⊢
      refine lv_iload hx hb dX3_plan_51 (lv_at hl 5 rfl) ?_
      refine lv_bipush (v := 9) hx hb dX3_plan_53 (by decide) ?_
      refine n_icmp_ge (tgt := 73) (a := n) (b := 9) hx hb dX3_plan_55 (by decide) (by omega) (by omega) (fun c_4 => ?_) (fun c_4 => ?_)
      · skip
        refine lv_iinc (v := (nI h - 1)) (lv' := [(4, .int (nI h - 1)), (0, .ref (q 0)), (1, .ref (r 4)), (2, .int (nI fr)), (3, .int (nI to)), (6, .int (nI n))]) hx hb dX3_plan_73 hl (k := 4) rfl (m1_eq _) (by decide) rfl (fun ls hl => ?_)
        refine lv_goto (tgt := 5) hx hb dX3_plan_76 (by decide) ?_
        rw [show n = 9 by omega, plV_s hj, plC_s hj] at hP hD
        exact ih5 (H, locs, ls, h, b, a, (plV f sc pr to va ch (to - (h + 1)))) ⟨hP, hD, hS, lv_sub hl [1, 2, 3, 4, 0] rfl, by omega, Or.inl (by omega)⟩ (by dsimp only; omega)
      · skip
        refine lv_aload_n hx hb dX3_plan_58 rfl (lv_at hl 0 rfl) ?_
        refine lv_aload_n hx hb dX3_plan_59 rfl (lv_at hl 1 rfl) ?_
        refine lv_iload hx hb dX3_plan_60 (lv_at hl 4 rfl) ?_
        refine lv_iload hx hb dX3_plan_62 (lv_at hl 5 rfl) ?_
        refine cM_v (As := [.ref (q 0), .ref (r 4), .int (nI h), .int (nI n)]) (wr := []) (rM_V ⟨hx, hb, hml, hown, hts⟩ (c_X3_tryFromAllModes l E (qz q b a) r sc pr (pDv f h sc pr (plV f sc pr to va ch (to - (h + 1))) n) (plV f sc pr to va ch (to - (h + 1))) (pDc f h sc pr (plV f sc pr to va ch (to - (h + 1))) n) f H.size h n (by omega) (by omega) (hop h n (by omega) (by omega) (by omega))) (cwV 3 hts gX3_plan_X3_tryFromAllModes rfl rfl rfl (by decide +kernel) ⟨Nat.le_of_ble_eq_true rfl, Nat.le_of_ble_eq_true rfl⟩) hK hP hD 3 0 rfl rfl rfl hl.1 rfl (Nat.le_of_ble_eq_true rfl) dX3_plan_64 ⟨Nat.le_of_ble_eq_true rfl, Nat.le_of_ble_eq_true rfl⟩) hP hD hS hA [0, 1, 2, 3, 4, 5, 6, 7, 8, 9, 10] [] rfl rfl (by decide) (by decide) (fun u_5 H locs hq_5 hP hD hS => ?_)
        obtain ⟨V_5, C_5⟩ := u_5
        obtain ⟨e1, e2⟩ := hq_5
        dsimp only at e1 e2
        rw [pDv_s] at e1
        rw [pDc_s] at e2
        subst e1 e2
        have hP : va_P E.1 vwCl (PW E (qz q b a) r sc pr (pDv f h sc pr (plV f sc pr to va ch (to - (h + 1))) (n + 1)) (plV f sc pr to va ch (to - (h + 1))) (pDc f h sc pr (plV f sc pr to va ch (to - (h + 1))) (n + 1)) f) H := hP
        have hD : va_D A (PW E (qz q b a) r sc pr (pDv f h sc pr (plV f sc pr to va ch (to - (h + 1))) (n + 1)) (plV f sc pr to va ch (to - (h + 1))) (pDc f h sc pr (plV f sc pr to va ch (to - (h + 1))) (n + 1)) f) := hD
        refine lv_iinc (v := (nI (n + 1))) (lv' := [(6, .int (nI (n + 1))), (0, .ref (q 0)), (1, .ref (r 4)), (2, .int (nI fr)), (3, .int (nI to)), (4, .int (nI h))]) hx hb dX3_plan_67 hl (k := 5) rfl (nI_1 _) (by decide) rfl (fun ls hl => ?_)
        refine lv_goto (tgt := 51) hx hb dX3_plan_70 (by decide) ?_
        exact ih51 (H, locs, ls, n + 1) ⟨hP, hD, hS, lv_sub hl [1, 2, 3, 4, 5, 0] rfl, by omega⟩ (by dsimp only; omega)
  · skip
    refine lv_iload hx hb dX3_plan_5 (lv_at hl 4 rfl) ?_
    refine lv_iload_n hx hb dX3_plan_7 rfl (lv_at hl 2 rfl) ?_
    refine lv_icmp_lt (tgt := 79) hx hb dX3_plan_8 (by decide) (fun c_6 => ?_) (fun c_6 => ?_)
    · skip
      rw [show to - j = to - fr by omega] at hP hD
      exact qv_ret ((a, b), be2) hx hb hr hlocks trivial hP hD hS dX3_plan_79
    · skip
      exact absurd (m1_lt2 hge (by omega)) c_6
