theorem mInv_0 {v : Nat → Int32} {f : Nat → Nat → Int32} {nw rv up lo m0 m1 : Nat} (h : mInv v f nw rv up lo m0 m1) : mInv (upd v 0 0) f nw rv up lo m0 m1 := h
noncomputable abbrev rI (w hn n : Nat) (v1 : Nat → Int32) (f1 : Nat → Nat → Int32) (V : Nat → Int32) (F : Nat → Nat → Int32) : Prop := n_run w hn v1 f1 = (n + (n_run w (hn - n) V F).1, (n_run w (hn - n) V F).2)
noncomputable abbrev rD (w hn n : Nat) (V : Nat → Int32) (F : Nat → Nat → Int32) : Int32 := if nwO V < 24 ∧ n < hn then n_D V F w else -1
theorem rI_0 {w hn : Nat} {v1 : Nat → Int32} {f1 : Nat → Nat → Int32} : rI w hn 0 v1 f1 v1 f1 := by
  show n_run w hn v1 f1 = (0 + (n_run w hn v1 f1).1, (n_run w hn v1 f1).2)
  rw [Nat.zero_add]
theorem rI_stop {w hn n : Nat} {v1 V : Nat → Int32} {f1 F : Nat → Nat → Int32} {d : Int32} (h : rI w hn n v1 f1 V F) (hn1 : n ≤ hn) (hd : d = rD w hn n V F) (h0 : d < 0) : n_run w hn v1 f1 = (n, V, F) := by
  have e : n_run w (hn - n) V F = (0, V, F) := by
    by_cases q : n < hn
    · refine n_run_stop (fun z => ?_)
      rw [hd, rD, if_pos ⟨z.1, q⟩] at h0
      have h1 := Int32.lt_iff_toInt_lt.mp h0
      have h2 := Int32.le_iff_toInt_le.mp z.2
      omega
    · rw [show hn - n = 0 by omega]; rfl
  rw [h, e]; rfl
theorem rI_go {w hn n : Nat} {v1 V : Nat → Int32} {f1 F : Nat → Nat → Int32} {d : Int32} (h : rI w hn n v1 f1 V F) (hd : d = rD w hn n V F) (h0 : ¬ d < 0) : nwO V < 24 ∧ n < hn ∧ d = n_D V F w ∧ 0 ≤ d ∧ rI w hn (n + 1) v1 f1 (d_v V F (nwO V) w (d / 3) (d - d / 3 * 3)) (d_f F (d / 3) (d - d / 3 * 3)) := by
  by_cases q : nwO V < 24 ∧ n < hn
  · have e : d = n_D V F w := by rw [hd, rD, if_pos q]
    have e0 : 0 ≤ d := by
      have h1 := Int32_ge h0
      exact Int32.le_iff_toInt_le.mpr h1
    refine ⟨q.1, q.2, e, e0, ?_⟩
    show n_run w hn v1 f1 = _
    rw [h, show hn - n = (hn - (n + 1)) + 1 by omega, n_run_go ⟨q.1, by rw [← e]; exact e0⟩, ← e]
    show (n + ((n_run w (hn - (n + 1)) _ _).1 + 1), _) = (n + 1 + (n_run w (hn - (n + 1)) _ _).1, _)
    rw [show ∀ a : Nat, n + (a + 1) = n + 1 + a from fun a => by omega]
  · rw [hd, rD, if_neg q] at h0
    exact absurd (by decide) h0
set_option maxHeartbeats 4000000 in
set_option maxRecDepth 100000 in
theorem c_X5_runs (l : Launch) (E : GG) (r : Nat → Nat) (v : Nat → Int32) (f : Nat → Nat → Int32) (B C : Nat → Int32) (sz : Nat) (hours : Int32) (w : Int32) (nw rv up lo m0 m1 : Nat) (hnw : v 1 = nI nw) (hn24 : nw ≤ 24) (hrv : v 19 = nI rv) (hr24 : rv ≤ 24) (h40 : (v 2).toInt ≤ 40) (hup : v 4 = nI up) (hu40 : up ≤ 40) (hlo : v 5 = nI lo) (hm0 : f 21 0 = nI m0) (h03 : m0 < 3) (hm1 : f 21 1 = nI m1) (h13 : m1 < 3) (h340 : (v 3).toInt ≤ 40) (hl40 : lo ≤ 40) : Met l yX5_runs wsX5_runs (Rm 7 25 625) (pM E [.ref (r 0), .int hours, .int w] (MW E r v f B C) sz) (va_Qi (fun (x : Int32) (u : MS) => ((m_in w 0 2 ∧ m_in hours 0 24) → x = nI (n_run w.toNatClampNeg hours.toNatClampNeg (upd v 0 0) f).1 ∧ u.1 = (n_run w.toNatClampNeg hours.toNatClampNeg (upd v 0 0) f).2.1 ∧ u.2.1 = (n_run w.toNatClampNeg hours.toNatClampNeg (upd v 0 0) f).2.2) ∧ (¬ (m_in w 0 2 ∧ m_in hours 0 24) → x = -1 ∧ u.1 = upd v 0 0 ∧ u.2.1 = f)) (bM E (va_A (MW E r v f B C) sz) (MWu E r)) (va_A (MW E r v f B C) sz)) 25 625 (va_A (MW E r v f B C) sz) := by
  refine ofM (by decide) rfl (Nat.le_of_ble_eq_true rfl) ?_
  intro p e s m below meth c A hx hb hr hlocks hml hown hin hts hK hP hD hS hA hsz hAe ls hl
  rw [← hAe]
  have hl : lv_has ls 6 [(0, .ref (r 0)), (1, .int hours), (2, .int w)] := hl
  refine lv_aload_n hx hb dX5_runs_0 rfl (lv_at hl 0 rfl) ?_
  refine lv_iconst (v := 0) hx hb dX5_runs_1 (by decide) ?_
  refine va_put (D := E.1) (ci := 5) (v := .int 0) (ty := .int) (C := RX5) (T := TX5) (N := 26) hx hb hts (fun _ h => (List.mem_cons_of_mem _ (List.mem_append_right _ h))) tyX5 tyX5_ok nmX5 hown hK.1 hP hD hS 0 rfl rfl 0 (by decide) (hts _ (List.mem_of_getElem? (i := 1) rfl)) (fun _ h9 => h9) rfl (by decide +kernel) rfl rfl (Nat.le_of_ble_eq_true rfl) dX5_runs_2 (fun H locs hP hD hS => ?_)
  have hP : va_P E.1 vwCl (MW E r (upd v 0 0) f B C) H := hP
  have hD : va_D A (MW E r (upd v 0 0) f B C) := hD
  refine lv_iload_n hx hb dX5_runs_5 rfl (lv_at hl 2 rfl) ?_
  refine cR_S ⟨hx, hb, hml, hown, hts⟩ (c_X5_isWorld l E w) (va_cwS 1 hts gX5_runs_X5_isWorld rfl rfl rfl (by decide +kernel) ⟨Nat.le_of_ble_eq_true rfl, Nat.le_of_ble_eq_true rfl⟩) hK nilP rfl hl.1 rfl (Nat.le_of_ble_eq_true rfl) dX5_runs_6 ⟨by show _ ≤ 25; omega, by show _ ≤ 625; omega⟩ ?_
  refine b_if_eq (q := (m_in w 0 2)) (tgt := 22) hx hb dX5_runs_9 (by decide) (fun c_1 => ?_) (fun c_1 => ?_)
  · skip
    refine lv_iconst (v := (-1)) hx hb dX5_runs_22 (by decide) ?_
    refine W.widen (k := 25) (n := 625) (by omega) (by omega) ?_
    exact q_ret (((upd v 0 0), f, B, C) : MS) hx hb hr hlocks ⟨fun hq => absurd hq (by simp_all), fun _ => ⟨rfl, rfl, rfl⟩⟩ hP hD hS dX5_runs_23
  · skip
    refine lv_iload_n hx hb dX5_runs_12 rfl (lv_at hl 1 rfl) ?_
    refine lv_iconst (v := 0) hx hb dX5_runs_13 (by decide) ?_
    refine lv_bipush (v := 24) hx hb dX5_runs_14 (by decide) ?_
    refine cR_S ⟨hx, hb, hml, hown, hts⟩ (c_X5_within l E hours 0 24) (va_cwS 3 hts gX5_runs_X5_within rfl rfl rfl (by decide +kernel) ⟨Nat.le_of_ble_eq_true rfl, Nat.le_of_ble_eq_true rfl⟩) hK nilP rfl hl.1 rfl (Nat.le_of_ble_eq_true rfl) dX5_runs_16 ⟨by show _ ≤ 25; omega, by show _ ≤ 625; omega⟩ ?_
    refine b_if_ne (q := (m_in hours 0 24)) (tgt := 24) hx hb dX5_runs_19 (by decide) (fun c_2 => ?_) (fun c_2 => ?_)
    · skip
      obtain ⟨wn, hwn, ewn⟩ : ∃ j : Nat, j ≤ 2 ∧ w = nI j := ⟨_, (inN c_1 2 (by decide) (by decide)).2, (inN c_1 2 (by decide) (by decide)).1⟩
      obtain ⟨hn, hhn, ehn⟩ : ∃ j : Nat, j ≤ 24 ∧ hours = nI j := ⟨_, (inN c_2 24 (by decide) (by decide)).2, (inN c_2 24 (by decide) (by decide)).1⟩
      subst ewn ehn
      have hI0 : mInv (upd v 0 0) f nw rv up lo m0 m1 := ⟨hnw, hn24, hrv, hr24, h40, h340, hup, hu40, hlo, hl40, hm0, h03, hm1, h13⟩
      refine lv_iconst (v := 0) hx hb dX5_runs_24 (by decide) ?_
      refine lv_istore_n (lv' := [(3, .int 0), (0, .ref (r 0)), (1, .int (nI hn)), (2, .int (nI wn))]) hx hb dX5_runs_25 rfl hl (by decide) rfl (fun ls hl => ?_)
      refine lv_aload_n hx hb dX5_runs_26 rfl (lv_at hl 1 rfl) ?_
      refine va_get (D := E.1) (ci := 5) (v := .int (v 1)) (C := RX5) (T := TX5) (N := 26) hx hb hts (fun _ h => (List.mem_cons_of_mem _ (List.mem_append_right _ h))) hown hK.1 hP 0 rfl rfl 1 (by decide) (hts _ (List.mem_of_getElem? (i := 2) rfl)) (fun _ h9 => h9) rfl dX5_runs_27 ?_
      refine w_top (show (v 1) = nI nw from hnw) ?_
      refine lv_bipush (v := 24) hx hb dX5_runs_30 (by decide) ?_
      refine n_icmp_ge (tgt := 47) (a := nw) (b := 24) hx hb dX5_runs_32 (by decide) (by omega) (by omega) (fun c_3 => ?_) (fun c_3 => ?_)
      · skip
        refine lv_iconst (v := (-1)) hx hb dX5_runs_47 (by decide) ?_
        refine lv_istore (lv' := [(4, .int (-1)), (3, .int 0), (0, .ref (r 0)), (1, .int (nI hn)), (2, .int (nI wn))]) hx hb dX5_runs_48 hl (by decide) rfl (fun ls hl => ?_)
        refine W.widen (k := 0 + 1) (n := 25 * (0 + 1)) (by omega) (by omega) ?_
        refine w_whileC (σ := Heap × List Loc × Array Slot × Nat × Int32 × (Nat → Int32) × (Nat → Nat → Int32) × (Nat → Int32) × (Nat → Int32)) (fun ⟨H, locs, ls, n, d, V, F, B, C⟩ => hn + 1 - n) (fun ⟨H, locs, ls, n, d, V, F, B, C⟩ => va_P E.1 vwCl (MW E r V F B C) H ∧ va_D A (MW E r V F B C) ∧ va_S A s.heap H locs ∧ lv_has ls 6 [(0, .ref (r 0)), (1, .int (nI hn)), (2, .int (nI wn)), (3, .int (nI n)), (4, .int d)] ∧ n ≤ hn ∧ (∃ nw rv up lo m0 m1 : Nat, mInv V F nw rv up lo m0 m1) ∧ d = rD wn hn n V F ∧ rI wn hn n (upd v 0 0) f V F) (fun ⟨H, locs, ls, n, d, V, F, B, C⟩ => H) (fun ⟨H, locs, ls, n, d, V, F, B, C⟩ => locs) (fun ⟨H, locs, ls, n, d, V, F, B, C⟩ => n + 1) (fun ⟨H, locs, ls, n, d, V, F, B, C⟩ => 25 * (n + 1)) (fun ⟨H, locs, ls, n, d, V, F, B, C⟩ => F0 m 50 ls []) ?_ (H, locs, ls, 0, (-1), (upd v 0 0), f, B, C) ⟨hP, hD, hS, lv_sub hl [2, 3, 4, 1, 0] rfl, Nat.zero_le _, ⟨nw, rv, up, lo, m0, m1, hI0⟩, by rw [rD, if_neg (by rw [nwO_eq hI0]; omega)], rI_0⟩
        rintro ⟨H, locs, ls, n, d, V, F, B, C⟩ ⟨hP, hD, hS, hl, hnn, hI, hd, hR⟩ ih50
        dsimp only at hP hD hS hl ⊢
        obtain ⟨nw, rv, up, lo, m0, m1, hI⟩ := hI
        obtain ⟨hnw, hn24, hrv, hr24, h40, h340, hup, hu40, hlo, hl40, hm0, h03, hm1, h13⟩ := id hI
        refine lv_iload hx hb dX5_runs_50 (lv_at hl 4 rfl) ?_
        refine lv_if_lt (tgt := 101) hx hb dX5_runs_52 (by decide) (fun c_4 => ?_) (fun c_4 => ?_)
        · skip
          refine lv_iload_n hx hb dX5_runs_101 rfl (lv_at hl 3 rfl) ?_
          refine W.widen (k := 25) (n := 625) (by omega) (by omega) ?_
          exact q_ret ((V, F, B, C) : MS) hx hb hr hlocks ⟨fun _ => by rw [nI_clamp (by omega), nI_clamp (by omega), rI_stop hR hnn hd c_4]; exact ⟨rfl, rfl, rfl⟩, fun hq => absurd ⟨c_1, c_2⟩ hq⟩ hP hD hS dX5_runs_102
        · skip
          obtain ⟨hg1, hg2, hg3, hg4, hRn⟩ := rI_go hR hd c_4
          have eO := nwO_eq hI
          rw [eO] at hg1 hRn
          rw [n_D_eq hI] at hg3
          obtain ⟨kk, hk9, ekk, hleg⟩ := n_doing_ok hg3.symm hg4
          obtain ⟨up2, lo2, hI2⟩ := mInv_does (w := wn) hI hg1 (by omega) (by omega) (m_leg_now hI hleg)
          have ea : d / 3 = nI (kk / 3) := by rw [ekk]; exact pk_div (a := kk) (d := 3) (by omega) (by decide) (by decide)
          have eb : d - d / 3 * 3 = nI (kk % 3) := by rw [ekk]; exact pk_rem (a := kk) (d := 3) (by omega) (by decide) (by decide)
          rw [← ea, ← eb] at hI2
          have hJ := id hI2
          obtain ⟨gnw, gn24, grv, gr24, g40, g340, gup, gu40, glo, gl40, gm0, g03, gm1, g13⟩ := hJ
          refine lv_aload_n hx hb dX5_runs_55 rfl (lv_at hl 0 rfl) ?_
          refine lv_iload hx hb dX5_runs_56 (lv_at hl 4 rfl) ?_
          refine lv_iconst (v := 3) hx hb dX5_runs_58 (by decide) ?_
          refine lv_idiv hx hb dX5_runs_59 (by decide) ?_
          refine lv_iload hx hb dX5_runs_60 (lv_at hl 4 rfl) ?_
          refine lv_iconst (v := 3) hx hb dX5_runs_62 (by decide) ?_
          refine lv_irem hx hb dX5_runs_63 (by decide) ?_
          refine lv_iload_n hx hb dX5_runs_64 rfl (lv_at hl 2 rfl) ?_
          refine cM_i (As := [.ref (r 0), .int (d / 3), .int (d - d / 3 * 3), .int (nI wn)]) (wr := []) (rM_V ⟨hx, hb, hml, hown, hts⟩ (c_X5_does l E r V F B C H.size (d / 3) (d - d / 3 * 3) wn (by omega) nw hnw (by omega)) (cwV 3 hts gX5_runs_X5_does rfl rfl rfl (by decide +kernel) ⟨Nat.le_of_ble_eq_true rfl, Nat.le_of_ble_eq_true rfl⟩) hK hP hD 5 0 rfl rfl rfl hl.1 rfl (Nat.le_of_ble_eq_true rfl) dX5_runs_65 ⟨by show _ ≤ 25; omega, by show _ ≤ 625; omega⟩) hP hD hS hA [0, 1, 2, 3, 4, 5, 6, 7, 8, 9, 10, 11, 12, 13, 14, 15] [] rfl rfl (by decide) (by decide) (fun x_5 u_5 H locs hq_5 hP hD hS => ?_)
          obtain ⟨rfl, rfl⟩ := hq_5
          have hP : va_P E.1 vwCl (MW E r (d_v V F nw wn (d / 3) (d - d / 3 * 3)) (d_f F (d / 3) (d - d / 3 * 3)) B C) H := hP
          have hD : va_D A (MW E r (d_v V F nw wn (d / 3) (d - d / 3 * 3)) (d_f F (d / 3) (d - d / 3 * 3)) B C) := hD
          refine lv_istore (lv' := [(5, .int (m_money F wn nw (F 21 0) (F 21 1) (d / 3) (d - d / 3 * 3))), (0, .ref (r 0)), (1, .int (nI hn)), (2, .int (nI wn)), (3, .int (nI n)), (4, .int d)]) hx hb dX5_runs_68 hl (by decide) rfl (fun ls hl => ?_)
          refine lv_iinc (v := (nI (n + 1))) (lv' := [(3, .int (nI (n + 1))), (5, .int (m_money F wn nw (F 21 0) (F 21 1) (d / 3) (d - d / 3 * 3))), (0, .ref (r 0)), (1, .int (nI hn)), (2, .int (nI wn)), (4, .int d)]) hx hb dX5_runs_70 hl (k := 4) rfl (nI_1 _) (by decide) rfl (fun ls hl => ?_)
          refine lv_aload_n hx hb dX5_runs_73 rfl (lv_at hl 2 rfl) ?_
          refine va_get (D := E.1) (ci := 5) (v := .int ((d_v V F nw wn (d / 3) (d - d / 3 * 3)) 1)) (C := RX5) (T := TX5) (N := 26) hx hb hts (fun _ h => (List.mem_cons_of_mem _ (List.mem_append_right _ h))) hown hK.1 hP 0 rfl rfl 1 (by decide) (hts _ (List.mem_of_getElem? (i := 2) rfl)) (fun _ h9 => h9) rfl dX5_runs_74 ?_
          refine w_top (show ((d_v V F nw wn (d / 3) (d - d / 3 * 3)) 1) = nI (nw + 1) from gnw) ?_
          refine lv_bipush (v := 24) hx hb dX5_runs_77 (by decide) ?_
          refine n_icmp_ge (tgt := 95) (a := (nw + 1)) (b := 24) hx hb dX5_runs_79 (by decide) (by omega) (by omega) (fun c_6 => ?_) (fun c_6 => ?_)
          · skip
            refine lv_iconst (v := (-1)) hx hb dX5_runs_95 (by decide) ?_
            refine lv_istore (lv' := [(4, .int (-1)), (3, .int (nI (n + 1))), (5, .int (m_money F wn nw (F 21 0) (F 21 1) (d / 3) (d - d / 3 * 3))), (0, .ref (r 0)), (1, .int (nI hn)), (2, .int (nI wn))]) hx hb dX5_runs_96 hl (by decide) rfl (fun ls hl => ?_)
            refine lv_goto (tgt := 50) hx hb dX5_runs_98 (by decide) ?_
            refine W.widen (k := n + 1 + 1) (n := 25 * (n + 1 + 1)) (by omega) (by omega) ?_
            exact ih50 (H, locs, ls, n + 1, (-1), (d_v V F nw wn (d / 3) (d - d / 3 * 3)), (d_f F (d / 3) (d - d / 3 * 3)), B, C) ⟨hP, hD, hS, lv_sub hl [3, 4, 5, 1, 0] rfl, by omega, ⟨_, _, _, _, _, _, hI2⟩, by rw [rD, if_neg (by rw [nwO_eq hI2]; omega)], hRn⟩ (by dsimp only; omega)
          · skip
            refine lv_iload_n hx hb dX5_runs_82 rfl (lv_at hl 0 rfl) ?_
            refine lv_iload_n hx hb dX5_runs_83 rfl (lv_at hl 3 rfl) ?_
            refine n_icmp_ge (tgt := 95) (a := n + 1) (b := hn) hx hb dX5_runs_84 (by decide) (by omega) (by omega) (fun c_7 => ?_) (fun c_7 => ?_)
            · skip
              refine lv_iconst (v := (-1)) hx hb dX5_runs_95 (by decide) ?_
              refine lv_istore (lv' := [(4, .int (-1)), (3, .int (nI (n + 1))), (5, .int (m_money F wn nw (F 21 0) (F 21 1) (d / 3) (d - d / 3 * 3))), (0, .ref (r 0)), (1, .int (nI hn)), (2, .int (nI wn))]) hx hb dX5_runs_96 hl (by decide) rfl (fun ls hl => ?_)
              refine lv_goto (tgt := 50) hx hb dX5_runs_98 (by decide) ?_
              refine W.widen (k := n + 1 + 1) (n := 25 * (n + 1 + 1)) (by omega) (by omega) ?_
              exact ih50 (H, locs, ls, n + 1, (-1), (d_v V F nw wn (d / 3) (d - d / 3 * 3)), (d_f F (d / 3) (d - d / 3 * 3)), B, C) ⟨hP, hD, hS, lv_sub hl [3, 4, 5, 1, 0] rfl, by omega, ⟨_, _, _, _, _, _, hI2⟩, by rw [rD, if_neg (by rw [nwO_eq hI2]; omega)], hRn⟩ (by dsimp only; omega)
            · skip
              refine lv_aload_n hx hb dX5_runs_87 rfl (lv_at hl 2 rfl) ?_
              refine lv_iload_n hx hb dX5_runs_88 rfl (lv_at hl 4 rfl) ?_
              refine cM_i (As := [.ref (r 0), .int (nI wn)]) (wr := []) (rM_V ⟨hx, hb, hml, hown, hts⟩ (c_X5_doing l E r (d_v V F nw wn (d / 3) (d - d / 3 * 3)) (d_f F (d / 3) (d - d / 3 * 3)) B C H.size wn (by omega) (nw + 1) rv up2 lo2 (kk / 3) (kk % 3) gnw (by omega) grv gr24 g40 gup gu40 glo gm0 g03 gm1 g13) (cwV 1 hts gX5_runs_X5_doing rfl rfl rfl (by decide +kernel) ⟨Nat.le_of_ble_eq_true rfl, Nat.le_of_ble_eq_true rfl⟩) hK hP hD 5 0 rfl rfl rfl hl.1 rfl (Nat.le_of_ble_eq_true rfl) dX5_runs_89 ⟨by show _ ≤ 25; omega, by show _ ≤ 625; omega⟩) hP hD hS hA [0, 1, 2, 3, 4, 5, 6, 7, 8, 9, 10, 11, 12, 13, 14, 15] [] rfl rfl (by decide) (by decide) (fun x_8 u_8 H locs hq_8 hP hD hS => ?_)
              obtain ⟨v_, f_, B_8, C_8⟩ := u_8
              obtain ⟨ex_8, e1, e2⟩ := hq_8
              dsimp only at e1 e2
              replace e1 := e1.symm
              replace e2 := e2.symm
              subst e1 e2
              have hP : va_P E.1 vwCl (MW E r (d_v V F nw wn (d / 3) (d - d / 3 * 3)) (d_f F (d / 3) (d - d / 3 * 3)) B_8 C_8) H := hP
              have hD : va_D A (MW E r (d_v V F nw wn (d / 3) (d - d / 3 * 3)) (d_f F (d / 3) (d - d / 3 * 3)) B_8 C_8) := hD
              refine lv_goto (tgt := 96) hx hb dX5_runs_92 (by decide) ?_
              refine lv_istore (lv' := [(4, .int x_8), (3, .int (nI (n + 1))), (5, .int (m_money F wn nw (F 21 0) (F 21 1) (d / 3) (d - d / 3 * 3))), (0, .ref (r 0)), (1, .int (nI hn)), (2, .int (nI wn))]) hx hb dX5_runs_96 hl (by decide) rfl (fun ls hl => ?_)
              refine lv_goto (tgt := 50) hx hb dX5_runs_98 (by decide) ?_
              refine W.widen (k := n + 1 + 1) (n := 25 * (n + 1 + 1)) (by omega) (by omega) ?_
              exact ih50 (H, locs, ls, n + 1, x_8, (d_v V F nw wn (d / 3) (d - d / 3 * 3)), (d_f F (d / 3) (d - d / 3 * 3)), B_8, C_8) ⟨hP, hD, hS, lv_sub hl [3, 4, 5, 1, 0] rfl, by omega, ⟨_, _, _, _, _, _, hI2⟩, by rw [rD, if_pos ⟨by rw [nwO_eq hI2]; omega, by omega⟩, n_D_eq hI2, ex_8], hRn⟩ (by dsimp only; omega)
      · skip
        refine lv_iload_n hx hb dX5_runs_35 rfl (lv_at hl 2 rfl) ?_
        refine n_if_le (tgt := 47) (a := hn) hx hb dX5_runs_36 (by decide) (by omega) (fun c_9 => ?_) (fun c_9 => ?_)
        · skip
          refine lv_iconst (v := (-1)) hx hb dX5_runs_47 (by decide) ?_
          refine lv_istore (lv' := [(4, .int (-1)), (3, .int 0), (0, .ref (r 0)), (1, .int (nI hn)), (2, .int (nI wn))]) hx hb dX5_runs_48 hl (by decide) rfl (fun ls hl => ?_)
          refine W.widen (k := 0 + 1) (n := 25 * (0 + 1)) (by omega) (by omega) ?_
          refine w_whileC (σ := Heap × List Loc × Array Slot × Nat × Int32 × (Nat → Int32) × (Nat → Nat → Int32) × (Nat → Int32) × (Nat → Int32)) (fun ⟨H, locs, ls, n, d, V, F, B, C⟩ => hn + 1 - n) (fun ⟨H, locs, ls, n, d, V, F, B, C⟩ => va_P E.1 vwCl (MW E r V F B C) H ∧ va_D A (MW E r V F B C) ∧ va_S A s.heap H locs ∧ lv_has ls 6 [(0, .ref (r 0)), (1, .int (nI hn)), (2, .int (nI wn)), (3, .int (nI n)), (4, .int d)] ∧ n ≤ hn ∧ (∃ nw rv up lo m0 m1 : Nat, mInv V F nw rv up lo m0 m1) ∧ d = rD wn hn n V F ∧ rI wn hn n (upd v 0 0) f V F) (fun ⟨H, locs, ls, n, d, V, F, B, C⟩ => H) (fun ⟨H, locs, ls, n, d, V, F, B, C⟩ => locs) (fun ⟨H, locs, ls, n, d, V, F, B, C⟩ => n + 1) (fun ⟨H, locs, ls, n, d, V, F, B, C⟩ => 25 * (n + 1)) (fun ⟨H, locs, ls, n, d, V, F, B, C⟩ => F0 m 50 ls []) ?_ (H, locs, ls, 0, (-1), (upd v 0 0), f, B, C) ⟨hP, hD, hS, lv_sub hl [2, 3, 4, 1, 0] rfl, Nat.zero_le _, ⟨nw, rv, up, lo, m0, m1, hI0⟩, by rw [rD, if_neg (by rw [nwO_eq hI0]; omega)], rI_0⟩
          rintro ⟨H, locs, ls, n, d, V, F, B, C⟩ ⟨hP, hD, hS, hl, hnn, hI, hd, hR⟩ ih50
          dsimp only at hP hD hS hl ⊢
          obtain ⟨nw, rv, up, lo, m0, m1, hI⟩ := hI
          obtain ⟨hnw, hn24, hrv, hr24, h40, h340, hup, hu40, hlo, hl40, hm0, h03, hm1, h13⟩ := id hI
          refine lv_iload hx hb dX5_runs_50 (lv_at hl 4 rfl) ?_
          refine lv_if_lt (tgt := 101) hx hb dX5_runs_52 (by decide) (fun c_10 => ?_) (fun c_10 => ?_)
          · skip
            refine lv_iload_n hx hb dX5_runs_101 rfl (lv_at hl 3 rfl) ?_
            refine W.widen (k := 25) (n := 625) (by omega) (by omega) ?_
            exact q_ret ((V, F, B, C) : MS) hx hb hr hlocks ⟨fun _ => by rw [nI_clamp (by omega), nI_clamp (by omega), rI_stop hR hnn hd c_10]; exact ⟨rfl, rfl, rfl⟩, fun hq => absurd ⟨c_1, c_2⟩ hq⟩ hP hD hS dX5_runs_102
          · skip
            obtain ⟨hg1, hg2, hg3, hg4, hRn⟩ := rI_go hR hd c_10
            have eO := nwO_eq hI
            rw [eO] at hg1 hRn
            rw [n_D_eq hI] at hg3
            obtain ⟨kk, hk9, ekk, hleg⟩ := n_doing_ok hg3.symm hg4
            obtain ⟨up2, lo2, hI2⟩ := mInv_does (w := wn) hI hg1 (by omega) (by omega) (m_leg_now hI hleg)
            have ea : d / 3 = nI (kk / 3) := by rw [ekk]; exact pk_div (a := kk) (d := 3) (by omega) (by decide) (by decide)
            have eb : d - d / 3 * 3 = nI (kk % 3) := by rw [ekk]; exact pk_rem (a := kk) (d := 3) (by omega) (by decide) (by decide)
            rw [← ea, ← eb] at hI2
            have hJ := id hI2
            obtain ⟨gnw, gn24, grv, gr24, g40, g340, gup, gu40, glo, gl40, gm0, g03, gm1, g13⟩ := hJ
            refine lv_aload_n hx hb dX5_runs_55 rfl (lv_at hl 0 rfl) ?_
            refine lv_iload hx hb dX5_runs_56 (lv_at hl 4 rfl) ?_
            refine lv_iconst (v := 3) hx hb dX5_runs_58 (by decide) ?_
            refine lv_idiv hx hb dX5_runs_59 (by decide) ?_
            refine lv_iload hx hb dX5_runs_60 (lv_at hl 4 rfl) ?_
            refine lv_iconst (v := 3) hx hb dX5_runs_62 (by decide) ?_
            refine lv_irem hx hb dX5_runs_63 (by decide) ?_
            refine lv_iload_n hx hb dX5_runs_64 rfl (lv_at hl 2 rfl) ?_
            refine cM_i (As := [.ref (r 0), .int (d / 3), .int (d - d / 3 * 3), .int (nI wn)]) (wr := []) (rM_V ⟨hx, hb, hml, hown, hts⟩ (c_X5_does l E r V F B C H.size (d / 3) (d - d / 3 * 3) wn (by omega) nw hnw (by omega)) (cwV 3 hts gX5_runs_X5_does rfl rfl rfl (by decide +kernel) ⟨Nat.le_of_ble_eq_true rfl, Nat.le_of_ble_eq_true rfl⟩) hK hP hD 5 0 rfl rfl rfl hl.1 rfl (Nat.le_of_ble_eq_true rfl) dX5_runs_65 ⟨by show _ ≤ 25; omega, by show _ ≤ 625; omega⟩) hP hD hS hA [0, 1, 2, 3, 4, 5, 6, 7, 8, 9, 10, 11, 12, 13, 14, 15] [] rfl rfl (by decide) (by decide) (fun x_11 u_11 H locs hq_11 hP hD hS => ?_)
            obtain ⟨rfl, rfl⟩ := hq_11
            have hP : va_P E.1 vwCl (MW E r (d_v V F nw wn (d / 3) (d - d / 3 * 3)) (d_f F (d / 3) (d - d / 3 * 3)) B C) H := hP
            have hD : va_D A (MW E r (d_v V F nw wn (d / 3) (d - d / 3 * 3)) (d_f F (d / 3) (d - d / 3 * 3)) B C) := hD
            refine lv_istore (lv' := [(5, .int (m_money F wn nw (F 21 0) (F 21 1) (d / 3) (d - d / 3 * 3))), (0, .ref (r 0)), (1, .int (nI hn)), (2, .int (nI wn)), (3, .int (nI n)), (4, .int d)]) hx hb dX5_runs_68 hl (by decide) rfl (fun ls hl => ?_)
            refine lv_iinc (v := (nI (n + 1))) (lv' := [(3, .int (nI (n + 1))), (5, .int (m_money F wn nw (F 21 0) (F 21 1) (d / 3) (d - d / 3 * 3))), (0, .ref (r 0)), (1, .int (nI hn)), (2, .int (nI wn)), (4, .int d)]) hx hb dX5_runs_70 hl (k := 4) rfl (nI_1 _) (by decide) rfl (fun ls hl => ?_)
            refine lv_aload_n hx hb dX5_runs_73 rfl (lv_at hl 2 rfl) ?_
            refine va_get (D := E.1) (ci := 5) (v := .int ((d_v V F nw wn (d / 3) (d - d / 3 * 3)) 1)) (C := RX5) (T := TX5) (N := 26) hx hb hts (fun _ h => (List.mem_cons_of_mem _ (List.mem_append_right _ h))) hown hK.1 hP 0 rfl rfl 1 (by decide) (hts _ (List.mem_of_getElem? (i := 2) rfl)) (fun _ h9 => h9) rfl dX5_runs_74 ?_
            refine w_top (show ((d_v V F nw wn (d / 3) (d - d / 3 * 3)) 1) = nI (nw + 1) from gnw) ?_
            refine lv_bipush (v := 24) hx hb dX5_runs_77 (by decide) ?_
            refine n_icmp_ge (tgt := 95) (a := (nw + 1)) (b := 24) hx hb dX5_runs_79 (by decide) (by omega) (by omega) (fun c_12 => ?_) (fun c_12 => ?_)
            · skip
              refine lv_iconst (v := (-1)) hx hb dX5_runs_95 (by decide) ?_
              refine lv_istore (lv' := [(4, .int (-1)), (3, .int (nI (n + 1))), (5, .int (m_money F wn nw (F 21 0) (F 21 1) (d / 3) (d - d / 3 * 3))), (0, .ref (r 0)), (1, .int (nI hn)), (2, .int (nI wn))]) hx hb dX5_runs_96 hl (by decide) rfl (fun ls hl => ?_)
              refine lv_goto (tgt := 50) hx hb dX5_runs_98 (by decide) ?_
              refine W.widen (k := n + 1 + 1) (n := 25 * (n + 1 + 1)) (by omega) (by omega) ?_
              exact ih50 (H, locs, ls, n + 1, (-1), (d_v V F nw wn (d / 3) (d - d / 3 * 3)), (d_f F (d / 3) (d - d / 3 * 3)), B, C) ⟨hP, hD, hS, lv_sub hl [3, 4, 5, 1, 0] rfl, by omega, ⟨_, _, _, _, _, _, hI2⟩, by rw [rD, if_neg (by rw [nwO_eq hI2]; omega)], hRn⟩ (by dsimp only; omega)
            · skip
              refine lv_iload_n hx hb dX5_runs_82 rfl (lv_at hl 0 rfl) ?_
              refine lv_iload_n hx hb dX5_runs_83 rfl (lv_at hl 3 rfl) ?_
              refine n_icmp_ge (tgt := 95) (a := n + 1) (b := hn) hx hb dX5_runs_84 (by decide) (by omega) (by omega) (fun c_13 => ?_) (fun c_13 => ?_)
              · skip
                refine lv_iconst (v := (-1)) hx hb dX5_runs_95 (by decide) ?_
                refine lv_istore (lv' := [(4, .int (-1)), (3, .int (nI (n + 1))), (5, .int (m_money F wn nw (F 21 0) (F 21 1) (d / 3) (d - d / 3 * 3))), (0, .ref (r 0)), (1, .int (nI hn)), (2, .int (nI wn))]) hx hb dX5_runs_96 hl (by decide) rfl (fun ls hl => ?_)
                refine lv_goto (tgt := 50) hx hb dX5_runs_98 (by decide) ?_
                refine W.widen (k := n + 1 + 1) (n := 25 * (n + 1 + 1)) (by omega) (by omega) ?_
                exact ih50 (H, locs, ls, n + 1, (-1), (d_v V F nw wn (d / 3) (d - d / 3 * 3)), (d_f F (d / 3) (d - d / 3 * 3)), B, C) ⟨hP, hD, hS, lv_sub hl [3, 4, 5, 1, 0] rfl, by omega, ⟨_, _, _, _, _, _, hI2⟩, by rw [rD, if_neg (by rw [nwO_eq hI2]; omega)], hRn⟩ (by dsimp only; omega)
              · skip
                refine lv_aload_n hx hb dX5_runs_87 rfl (lv_at hl 2 rfl) ?_
                refine lv_iload_n hx hb dX5_runs_88 rfl (lv_at hl 4 rfl) ?_
                refine cM_i (As := [.ref (r 0), .int (nI wn)]) (wr := []) (rM_V ⟨hx, hb, hml, hown, hts⟩ (c_X5_doing l E r (d_v V F nw wn (d / 3) (d - d / 3 * 3)) (d_f F (d / 3) (d - d / 3 * 3)) B C H.size wn (by omega) (nw + 1) rv up2 lo2 (kk / 3) (kk % 3) gnw (by omega) grv gr24 g40 gup gu40 glo gm0 g03 gm1 g13) (cwV 1 hts gX5_runs_X5_doing rfl rfl rfl (by decide +kernel) ⟨Nat.le_of_ble_eq_true rfl, Nat.le_of_ble_eq_true rfl⟩) hK hP hD 5 0 rfl rfl rfl hl.1 rfl (Nat.le_of_ble_eq_true rfl) dX5_runs_89 ⟨by show _ ≤ 25; omega, by show _ ≤ 625; omega⟩) hP hD hS hA [0, 1, 2, 3, 4, 5, 6, 7, 8, 9, 10, 11, 12, 13, 14, 15] [] rfl rfl (by decide) (by decide) (fun x_14 u_14 H locs hq_14 hP hD hS => ?_)
                obtain ⟨v_, f_, B_14, C_14⟩ := u_14
                obtain ⟨ex_14, e1, e2⟩ := hq_14
                dsimp only at e1 e2
                replace e1 := e1.symm
                replace e2 := e2.symm
                subst e1 e2
                have hP : va_P E.1 vwCl (MW E r (d_v V F nw wn (d / 3) (d - d / 3 * 3)) (d_f F (d / 3) (d - d / 3 * 3)) B_14 C_14) H := hP
                have hD : va_D A (MW E r (d_v V F nw wn (d / 3) (d - d / 3 * 3)) (d_f F (d / 3) (d - d / 3 * 3)) B_14 C_14) := hD
                refine lv_goto (tgt := 96) hx hb dX5_runs_92 (by decide) ?_
                refine lv_istore (lv' := [(4, .int x_14), (3, .int (nI (n + 1))), (5, .int (m_money F wn nw (F 21 0) (F 21 1) (d / 3) (d - d / 3 * 3))), (0, .ref (r 0)), (1, .int (nI hn)), (2, .int (nI wn))]) hx hb dX5_runs_96 hl (by decide) rfl (fun ls hl => ?_)
                refine lv_goto (tgt := 50) hx hb dX5_runs_98 (by decide) ?_
                refine W.widen (k := n + 1 + 1) (n := 25 * (n + 1 + 1)) (by omega) (by omega) ?_
                exact ih50 (H, locs, ls, n + 1, x_14, (d_v V F nw wn (d / 3) (d - d / 3 * 3)), (d_f F (d / 3) (d - d / 3 * 3)), B_14, C_14) ⟨hP, hD, hS, lv_sub hl [3, 4, 5, 1, 0] rfl, by omega, ⟨_, _, _, _, _, _, hI2⟩, by rw [rD, if_pos ⟨by rw [nwO_eq hI2]; omega, by omega⟩, n_D_eq hI2, ex_14], hRn⟩ (by dsimp only; omega)
        · skip
          refine lv_aload_n hx hb dX5_runs_39 rfl (lv_at hl 1 rfl) ?_
          refine lv_iload_n hx hb dX5_runs_40 rfl (lv_at hl 3 rfl) ?_
          refine cM_i (As := [.ref (r 0), .int (nI wn)]) (wr := []) (rM_V ⟨hx, hb, hml, hown, hts⟩ (c_X5_doing l E r (upd v 0 0) f B C H.size wn (by omega) nw rv up lo m0 m1 hnw (by omega) hrv hr24 h40 hup hu40 hlo hm0 h03 hm1 h13) (cwV 1 hts gX5_runs_X5_doing rfl rfl rfl (by decide +kernel) ⟨Nat.le_of_ble_eq_true rfl, Nat.le_of_ble_eq_true rfl⟩) hK hP hD 5 0 rfl rfl rfl hl.1 rfl (Nat.le_of_ble_eq_true rfl) dX5_runs_41 ⟨by show _ ≤ 25; omega, by show _ ≤ 625; omega⟩) hP hD hS hA [0, 1, 2, 3, 4, 5, 6, 7, 8, 9, 10, 11, 12, 13, 14, 15] [] rfl rfl (by decide) (by decide) (fun x_15 u_15 H locs hq_15 hP hD hS => ?_)
          obtain ⟨v_, f_, B_15, C_15⟩ := u_15
          obtain ⟨ex_15, e1, e2⟩ := hq_15
          dsimp only at e1 e2
          replace e1 := e1.symm
          replace e2 := e2.symm
          subst e1 e2
          have hP : va_P E.1 vwCl (MW E r (upd v 0 0) f B_15 C_15) H := hP
          have hD : va_D A (MW E r (upd v 0 0) f B_15 C_15) := hD
          refine lv_goto (tgt := 48) hx hb dX5_runs_44 (by decide) ?_
          refine lv_istore (lv' := [(4, .int x_15), (3, .int 0), (0, .ref (r 0)), (1, .int (nI hn)), (2, .int (nI wn))]) hx hb dX5_runs_48 hl (by decide) rfl (fun ls hl => ?_)
          refine W.widen (k := 0 + 1) (n := 25 * (0 + 1)) (by omega) (by omega) ?_
          refine w_whileC (σ := Heap × List Loc × Array Slot × Nat × Int32 × (Nat → Int32) × (Nat → Nat → Int32) × (Nat → Int32) × (Nat → Int32)) (fun ⟨H, locs, ls, n, d, V, F, B, C⟩ => hn + 1 - n) (fun ⟨H, locs, ls, n, d, V, F, B, C⟩ => va_P E.1 vwCl (MW E r V F B C) H ∧ va_D A (MW E r V F B C) ∧ va_S A s.heap H locs ∧ lv_has ls 6 [(0, .ref (r 0)), (1, .int (nI hn)), (2, .int (nI wn)), (3, .int (nI n)), (4, .int d)] ∧ n ≤ hn ∧ (∃ nw rv up lo m0 m1 : Nat, mInv V F nw rv up lo m0 m1) ∧ d = rD wn hn n V F ∧ rI wn hn n (upd v 0 0) f V F) (fun ⟨H, locs, ls, n, d, V, F, B, C⟩ => H) (fun ⟨H, locs, ls, n, d, V, F, B, C⟩ => locs) (fun ⟨H, locs, ls, n, d, V, F, B, C⟩ => n + 1) (fun ⟨H, locs, ls, n, d, V, F, B, C⟩ => 25 * (n + 1)) (fun ⟨H, locs, ls, n, d, V, F, B, C⟩ => F0 m 50 ls []) ?_ (H, locs, ls, 0, x_15, (upd v 0 0), f, B_15, C_15) ⟨hP, hD, hS, lv_sub hl [2, 3, 4, 1, 0] rfl, Nat.zero_le _, ⟨nw, rv, up, lo, m0, m1, hI0⟩, by rw [rD, if_pos ⟨by rw [nwO_eq hI0]; omega, by omega⟩, n_D_eq hI0, ex_15], rI_0⟩
          rintro ⟨H, locs, ls, n, d, V, F, B, C⟩ ⟨hP, hD, hS, hl, hnn, hI, hd, hR⟩ ih50
          dsimp only at hP hD hS hl ⊢
          obtain ⟨nw, rv, up, lo, m0, m1, hI⟩ := hI
          obtain ⟨hnw, hn24, hrv, hr24, h40, h340, hup, hu40, hlo, hl40, hm0, h03, hm1, h13⟩ := id hI
          refine lv_iload hx hb dX5_runs_50 (lv_at hl 4 rfl) ?_
          refine lv_if_lt (tgt := 101) hx hb dX5_runs_52 (by decide) (fun c_16 => ?_) (fun c_16 => ?_)
          · skip
            refine lv_iload_n hx hb dX5_runs_101 rfl (lv_at hl 3 rfl) ?_
            refine W.widen (k := 25) (n := 625) (by omega) (by omega) ?_
            exact q_ret ((V, F, B, C) : MS) hx hb hr hlocks ⟨fun _ => by rw [nI_clamp (by omega), nI_clamp (by omega), rI_stop hR hnn hd c_16]; exact ⟨rfl, rfl, rfl⟩, fun hq => absurd ⟨c_1, c_2⟩ hq⟩ hP hD hS dX5_runs_102
          · skip
            obtain ⟨hg1, hg2, hg3, hg4, hRn⟩ := rI_go hR hd c_16
            have eO := nwO_eq hI
            rw [eO] at hg1 hRn
            rw [n_D_eq hI] at hg3
            obtain ⟨kk, hk9, ekk, hleg⟩ := n_doing_ok hg3.symm hg4
            obtain ⟨up2, lo2, hI2⟩ := mInv_does (w := wn) hI hg1 (by omega) (by omega) (m_leg_now hI hleg)
            have ea : d / 3 = nI (kk / 3) := by rw [ekk]; exact pk_div (a := kk) (d := 3) (by omega) (by decide) (by decide)
            have eb : d - d / 3 * 3 = nI (kk % 3) := by rw [ekk]; exact pk_rem (a := kk) (d := 3) (by omega) (by decide) (by decide)
            rw [← ea, ← eb] at hI2
            have hJ := id hI2
            obtain ⟨gnw, gn24, grv, gr24, g40, g340, gup, gu40, glo, gl40, gm0, g03, gm1, g13⟩ := hJ
            refine lv_aload_n hx hb dX5_runs_55 rfl (lv_at hl 0 rfl) ?_
            refine lv_iload hx hb dX5_runs_56 (lv_at hl 4 rfl) ?_
            refine lv_iconst (v := 3) hx hb dX5_runs_58 (by decide) ?_
            refine lv_idiv hx hb dX5_runs_59 (by decide) ?_
            refine lv_iload hx hb dX5_runs_60 (lv_at hl 4 rfl) ?_
            refine lv_iconst (v := 3) hx hb dX5_runs_62 (by decide) ?_
            refine lv_irem hx hb dX5_runs_63 (by decide) ?_
            refine lv_iload_n hx hb dX5_runs_64 rfl (lv_at hl 2 rfl) ?_
            refine cM_i (As := [.ref (r 0), .int (d / 3), .int (d - d / 3 * 3), .int (nI wn)]) (wr := []) (rM_V ⟨hx, hb, hml, hown, hts⟩ (c_X5_does l E r V F B C H.size (d / 3) (d - d / 3 * 3) wn (by omega) nw hnw (by omega)) (cwV 3 hts gX5_runs_X5_does rfl rfl rfl (by decide +kernel) ⟨Nat.le_of_ble_eq_true rfl, Nat.le_of_ble_eq_true rfl⟩) hK hP hD 5 0 rfl rfl rfl hl.1 rfl (Nat.le_of_ble_eq_true rfl) dX5_runs_65 ⟨by show _ ≤ 25; omega, by show _ ≤ 625; omega⟩) hP hD hS hA [0, 1, 2, 3, 4, 5, 6, 7, 8, 9, 10, 11, 12, 13, 14, 15] [] rfl rfl (by decide) (by decide) (fun x_17 u_17 H locs hq_17 hP hD hS => ?_)
            obtain ⟨rfl, rfl⟩ := hq_17
            have hP : va_P E.1 vwCl (MW E r (d_v V F nw wn (d / 3) (d - d / 3 * 3)) (d_f F (d / 3) (d - d / 3 * 3)) B C) H := hP
            have hD : va_D A (MW E r (d_v V F nw wn (d / 3) (d - d / 3 * 3)) (d_f F (d / 3) (d - d / 3 * 3)) B C) := hD
            refine lv_istore (lv' := [(5, .int (m_money F wn nw (F 21 0) (F 21 1) (d / 3) (d - d / 3 * 3))), (0, .ref (r 0)), (1, .int (nI hn)), (2, .int (nI wn)), (3, .int (nI n)), (4, .int d)]) hx hb dX5_runs_68 hl (by decide) rfl (fun ls hl => ?_)
            refine lv_iinc (v := (nI (n + 1))) (lv' := [(3, .int (nI (n + 1))), (5, .int (m_money F wn nw (F 21 0) (F 21 1) (d / 3) (d - d / 3 * 3))), (0, .ref (r 0)), (1, .int (nI hn)), (2, .int (nI wn)), (4, .int d)]) hx hb dX5_runs_70 hl (k := 4) rfl (nI_1 _) (by decide) rfl (fun ls hl => ?_)
            refine lv_aload_n hx hb dX5_runs_73 rfl (lv_at hl 2 rfl) ?_
            refine va_get (D := E.1) (ci := 5) (v := .int ((d_v V F nw wn (d / 3) (d - d / 3 * 3)) 1)) (C := RX5) (T := TX5) (N := 26) hx hb hts (fun _ h => (List.mem_cons_of_mem _ (List.mem_append_right _ h))) hown hK.1 hP 0 rfl rfl 1 (by decide) (hts _ (List.mem_of_getElem? (i := 2) rfl)) (fun _ h9 => h9) rfl dX5_runs_74 ?_
            refine w_top (show ((d_v V F nw wn (d / 3) (d - d / 3 * 3)) 1) = nI (nw + 1) from gnw) ?_
            refine lv_bipush (v := 24) hx hb dX5_runs_77 (by decide) ?_
            refine n_icmp_ge (tgt := 95) (a := (nw + 1)) (b := 24) hx hb dX5_runs_79 (by decide) (by omega) (by omega) (fun c_18 => ?_) (fun c_18 => ?_)
            · skip
              refine lv_iconst (v := (-1)) hx hb dX5_runs_95 (by decide) ?_
              refine lv_istore (lv' := [(4, .int (-1)), (3, .int (nI (n + 1))), (5, .int (m_money F wn nw (F 21 0) (F 21 1) (d / 3) (d - d / 3 * 3))), (0, .ref (r 0)), (1, .int (nI hn)), (2, .int (nI wn))]) hx hb dX5_runs_96 hl (by decide) rfl (fun ls hl => ?_)
              refine lv_goto (tgt := 50) hx hb dX5_runs_98 (by decide) ?_
              refine W.widen (k := n + 1 + 1) (n := 25 * (n + 1 + 1)) (by omega) (by omega) ?_
              exact ih50 (H, locs, ls, n + 1, (-1), (d_v V F nw wn (d / 3) (d - d / 3 * 3)), (d_f F (d / 3) (d - d / 3 * 3)), B, C) ⟨hP, hD, hS, lv_sub hl [3, 4, 5, 1, 0] rfl, by omega, ⟨_, _, _, _, _, _, hI2⟩, by rw [rD, if_neg (by rw [nwO_eq hI2]; omega)], hRn⟩ (by dsimp only; omega)
            · skip
              refine lv_iload_n hx hb dX5_runs_82 rfl (lv_at hl 0 rfl) ?_
              refine lv_iload_n hx hb dX5_runs_83 rfl (lv_at hl 3 rfl) ?_
              refine n_icmp_ge (tgt := 95) (a := n + 1) (b := hn) hx hb dX5_runs_84 (by decide) (by omega) (by omega) (fun c_19 => ?_) (fun c_19 => ?_)
              · skip
                refine lv_iconst (v := (-1)) hx hb dX5_runs_95 (by decide) ?_
                refine lv_istore (lv' := [(4, .int (-1)), (3, .int (nI (n + 1))), (5, .int (m_money F wn nw (F 21 0) (F 21 1) (d / 3) (d - d / 3 * 3))), (0, .ref (r 0)), (1, .int (nI hn)), (2, .int (nI wn))]) hx hb dX5_runs_96 hl (by decide) rfl (fun ls hl => ?_)
                refine lv_goto (tgt := 50) hx hb dX5_runs_98 (by decide) ?_
                refine W.widen (k := n + 1 + 1) (n := 25 * (n + 1 + 1)) (by omega) (by omega) ?_
                exact ih50 (H, locs, ls, n + 1, (-1), (d_v V F nw wn (d / 3) (d - d / 3 * 3)), (d_f F (d / 3) (d - d / 3 * 3)), B, C) ⟨hP, hD, hS, lv_sub hl [3, 4, 5, 1, 0] rfl, by omega, ⟨_, _, _, _, _, _, hI2⟩, by rw [rD, if_neg (by rw [nwO_eq hI2]; omega)], hRn⟩ (by dsimp only; omega)
              · skip
                refine lv_aload_n hx hb dX5_runs_87 rfl (lv_at hl 2 rfl) ?_
                refine lv_iload_n hx hb dX5_runs_88 rfl (lv_at hl 4 rfl) ?_
                refine cM_i (As := [.ref (r 0), .int (nI wn)]) (wr := []) (rM_V ⟨hx, hb, hml, hown, hts⟩ (c_X5_doing l E r (d_v V F nw wn (d / 3) (d - d / 3 * 3)) (d_f F (d / 3) (d - d / 3 * 3)) B C H.size wn (by omega) (nw + 1) rv up2 lo2 (kk / 3) (kk % 3) gnw (by omega) grv gr24 g40 gup gu40 glo gm0 g03 gm1 g13) (cwV 1 hts gX5_runs_X5_doing rfl rfl rfl (by decide +kernel) ⟨Nat.le_of_ble_eq_true rfl, Nat.le_of_ble_eq_true rfl⟩) hK hP hD 5 0 rfl rfl rfl hl.1 rfl (Nat.le_of_ble_eq_true rfl) dX5_runs_89 ⟨by show _ ≤ 25; omega, by show _ ≤ 625; omega⟩) hP hD hS hA [0, 1, 2, 3, 4, 5, 6, 7, 8, 9, 10, 11, 12, 13, 14, 15] [] rfl rfl (by decide) (by decide) (fun x_20 u_20 H locs hq_20 hP hD hS => ?_)
                obtain ⟨v_, f_, B_20, C_20⟩ := u_20
                obtain ⟨ex_20, e1, e2⟩ := hq_20
                dsimp only at e1 e2
                replace e1 := e1.symm
                replace e2 := e2.symm
                subst e1 e2
                have hP : va_P E.1 vwCl (MW E r (d_v V F nw wn (d / 3) (d - d / 3 * 3)) (d_f F (d / 3) (d - d / 3 * 3)) B_20 C_20) H := hP
                have hD : va_D A (MW E r (d_v V F nw wn (d / 3) (d - d / 3 * 3)) (d_f F (d / 3) (d - d / 3 * 3)) B_20 C_20) := hD
                refine lv_goto (tgt := 96) hx hb dX5_runs_92 (by decide) ?_
                refine lv_istore (lv' := [(4, .int x_20), (3, .int (nI (n + 1))), (5, .int (m_money F wn nw (F 21 0) (F 21 1) (d / 3) (d - d / 3 * 3))), (0, .ref (r 0)), (1, .int (nI hn)), (2, .int (nI wn))]) hx hb dX5_runs_96 hl (by decide) rfl (fun ls hl => ?_)
                refine lv_goto (tgt := 50) hx hb dX5_runs_98 (by decide) ?_
                refine W.widen (k := n + 1 + 1) (n := 25 * (n + 1 + 1)) (by omega) (by omega) ?_
                exact ih50 (H, locs, ls, n + 1, x_20, (d_v V F nw wn (d / 3) (d - d / 3 * 3)), (d_f F (d / 3) (d - d / 3 * 3)), B_20, C_20) ⟨hP, hD, hS, lv_sub hl [3, 4, 5, 1, 0] rfl, by omega, ⟨_, _, _, _, _, _, hI2⟩, by rw [rD, if_pos ⟨by rw [nwO_eq hI2]; omega, by omega⟩, n_D_eq hI2, ex_20], hRn⟩ (by dsimp only; omega)
    · skip
      refine lv_iconst (v := (-1)) hx hb dX5_runs_22 (by decide) ?_
      refine W.widen (k := 25) (n := 625) (by omega) (by omega) ?_
      exact q_ret (((upd v 0 0), f, B, C) : MS) hx hb hr hlocks ⟨fun hq => absurd hq (by simp_all), fun _ => ⟨rfl, rfl, rfl⟩⟩ hP hD hS dX5_runs_23
