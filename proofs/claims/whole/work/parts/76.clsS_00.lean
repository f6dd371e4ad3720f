theorem rI_step {V V2 : Nat → Int32} {F F2 : Nat → Nat → Int32} {w hn n nw rv up lo m0 m1 kk : Nat} (h : rI w hn n V F V2 F2) (hlt : n < hn) (hI : mInv V2 F2 nw rv up lo m0 m1) (hn24 : nw < 24) (hk : kk < 9) (q : n_doing V2 F2 nw rv w (nI (up + lo)) (9 * up + 3 * m0 + m1) = nI kk) : rI w hn (n + 1) V F (d_v V2 F2 nw w (nI (kk / 3)) (nI (kk % 3))) (d_f F2 (nI (kk / 3)) (nI (kk % 3))) := by
  have eD : n_D V2 F2 w = nI kk := (n_D_eq hI w).trans q
  have eO : nwO V2 = nw := nwO_eq hI
  have ea : nI kk / 3 = nI (kk / 3) := pk_div (a := kk) (d := 3) (by omega) (by decide) (by decide)
  have eb : nI kk - nI kk / 3 * 3 = nI (kk % 3) := pk_rem (a := kk) (d := 3) (by omega) (by decide) (by decide)
  show n_run w hn V F = _
  rw [h, show hn - n = (hn - (n + 1)) + 1 by omega, n_run_go ⟨by rw [eO]; exact hn24, by rw [eD]; exact nI_ge0 (by omega)⟩, eD, eO, eb, ea]
  show (n + ((n_run w (hn - (n + 1)) _ _).1 + 1), _) = (n + 1 + (n_run w (hn - (n + 1)) _ _).1, _)
  rw [show ∀ a : Nat, n + (a + 1) = n + 1 + a from fun a => by omega]
theorem rI_end {V V2 : Nat → Int32} {F F2 : Nat → Nat → Int32} {w hn n : Nat} (h : rI w hn n V F V2 F2) (he : n_run w (hn - n) V2 F2 = (0, V2, F2)) : n_run w hn V F = (n, V2, F2) := by
  rw [h, he]; rfl
theorem rI_endA {V V2 : Nat → Int32} {F F2 : Nat → Nat → Int32} {w hn n : Nat} (h : rI w hn n V F V2 F2) (hle : hn ≤ n) : n_run w hn V F = (n, V2, F2) := rI_end h (by rw [show hn - n = 0 by omega]; rfl)
theorem rI_endB {V V2 : Nat → Int32} {F F2 : Nat → Nat → Int32} {w hn n nw rv up lo m0 m1 : Nat} (h : rI w hn n V F V2 F2) (hI : mInv V2 F2 nw rv up lo m0 m1) (hn24 : 24 ≤ nw) : n_run w hn V F = (n, V2, F2) := rI_end h (n_run_stop (fun z => by rw [nwO_eq hI] at z; omega))
theorem rI_endC {V V2 : Nat → Int32} {F F2 : Nat → Nat → Int32} {w hn n nw rv up lo m0 m1 : Nat} (h : rI w hn n V F V2 F2) (hI : mInv V2 F2 nw rv up lo m0 m1) (q : n_doing V2 F2 nw rv w (nI (up + lo)) (9 * up + 3 * m0 + m1) = -1) : n_run w hn V F = (n, V2, F2) := rI_end h (n_run_stop (fun z => by
    have z2 := z.2
    rw [n_D_eq hI, q] at z2
    exact absurd z2 (by decide)))
set_option maxHeartbeats 4000000 in
set_option maxRecDepth 100000 in
theorem c_X4_runs (l : Launch) (E : GG) (r z : Nat → Nat) (v : Nat → Int32) (f : Nat → Nat → Int32) (sz : Nat) (hours : Int32) (w : Int32) (V : Nat → Int32) (F : Nat → Nat → Int32) (nw rv up lo m0 m1 : Nat) (hC : CI v f V F nw rv up lo m0 m1) : Met l yX4_runs wsX4_runs (Rm 6 0 0) (pM E [.ref (r 0), .int hours, .int w] (CZ E r z v f) sz) (va_Qi (fun (x : Int32) (u : CS) => ((m_in w 0 2 ∧ m_in hours 0 24) → x = nI (n_run w.toNatClampNeg hours.toNatClampNeg V F).1 ∧ ∃ nw rv up lo m0 m1 : Nat, CI u.2.1 u.2.2 (n_run w.toNatClampNeg hours.toNatClampNeg V F).2.1 (n_run w.toNatClampNeg hours.toNatClampNeg V F).2.2 nw rv up lo m0 m1) ∧ (¬ (m_in w 0 2 ∧ m_in hours 0 24) → x = -1 ∧ CI u.2.1 u.2.2 V F nw rv up lo m0 m1)) (bM E (va_A (CZ E r z v f) sz) (fun (u : CS) => CZ E r u.1 u.2.1 u.2.2)) (va_A (CZ E r z v f) sz)) 0 0 (va_A (CZ E r z v f) sz) := by
  refine ofM (by decide) rfl (Nat.le_of_ble_eq_true rfl) ?_
  intro p e s m below meth c A hx hb hr hlocks hml hown hin hts hK hP hD hS hA hsz hAe ls hl
  rw [← hAe]
  have hl : lv_has ls 5 [(0, .ref (r 0)), (1, .int hours), (2, .int w)] := hl
  obtain ⟨hnw, hn24, hrv, hr24, hup, hup40, hlo, hlo40, hm0, h03, hm1, h13⟩ := CI_nat hC
  refine lv_iload_n hx hb dX4_runs_0 rfl (lv_at hl 1 rfl) ?_
  refine lv_iconst (v := 0) hx hb dX4_runs_1 (by decide) ?_
  refine lv_bipush (v := 24) hx hb dX4_runs_2 (by decide) ?_
  refine cR_S ⟨hx, hb, hml, hown, hts⟩ (c_X4_within l E hours 0 24) (va_cwS 3 hts gX4_runs_X4_within rfl rfl rfl (by decide +kernel) ⟨Nat.le_of_ble_eq_true rfl, Nat.le_of_ble_eq_true rfl⟩) hK nilP rfl hl.1 rfl (Nat.le_of_ble_eq_true rfl) dX4_runs_4 ⟨Nat.le_of_ble_eq_true rfl, Nat.le_of_ble_eq_true rfl⟩ ?_
  refine b_if_eq (q := (m_in hours 0 24)) (tgt := 17) hx hb dX4_runs_7 (by decide) (fun c_1 => ?_) (fun c_1 => ?_)
  · skip
    refine lv_iconst (v := (-1)) hx hb dX4_runs_17 (by decide) ?_
    exact q_ret ((z, v, f) : CS) hx hb hr hlocks ⟨fun q => absurd q.2 c_1, fun _ => ⟨rfl, hC⟩⟩ hP hD hS dX4_runs_18
  · skip
    refine lv_iload_n hx hb dX4_runs_10 rfl (lv_at hl 2 rfl) ?_
    refine cR_S ⟨hx, hb, hml, hown, hts⟩ (c_X4_isWorld l E w) (va_cwS 1 hts gX4_runs_X4_isWorld rfl rfl rfl (by decide +kernel) ⟨Nat.le_of_ble_eq_true rfl, Nat.le_of_ble_eq_true rfl⟩) hK nilP rfl hl.1 rfl (Nat.le_of_ble_eq_true rfl) dX4_runs_11 ⟨Nat.le_of_ble_eq_true rfl, Nat.le_of_ble_eq_true rfl⟩ ?_
    refine b_if_ne (q := (m_in w 0 2)) (tgt := 19) hx hb dX4_runs_14 (by decide) (fun c_2 => ?_) (fun c_2 => ?_)
    · skip
      obtain ⟨hn, hhn, ehn⟩ : ∃ j : Nat, j ≤ 24 ∧ hours = nI j := ⟨_, (inN c_1 24 (by decide) (by decide)).2, (inN c_1 24 (by decide) (by decide)).1⟩
      subst ehn
      rcases in012 c_2 with rfl | rfl | rfl
      · skip
        refine lv_iconst (v := 0) hx hb dX4_runs_19 (by decide) ?_
        refine lv_istore_n (lv' := [(3, .int 0), (0, .ref (r 0)), (1, .int (nI hn)), (2, .int 0)]) hx hb dX4_runs_20 rfl hl (by decide) rfl (fun ls hl => ?_)
        refine w_while (σ := Heap × List Loc × Array Slot × Nat × (Nat → Nat) × (Nat → Int32) × (Nat → Nat → Int32) × (Nat → Int32) × (Nat → Nat → Int32)) (fun ⟨H, locs, ls, n, Z, P, G, V2, F2⟩ => hn - n) (fun ⟨H, locs, ls, n, Z, P, G, V2, F2⟩ => va_P E.1 vwCl (CZ E r Z P G) H ∧ va_D A (CZ E r Z P G) ∧ va_S A s.heap H locs ∧ lv_has ls 5 [(0, .ref (r 0)), (1, .int (nI hn)), (2, .int 0), (3, .int (nI n))] ∧ n ≤ hn ∧ (∃ nw rv up lo m0 m1 : Nat, CI P G V2 F2 nw rv up lo m0 m1) ∧ rI 0 hn n V F V2 F2) (fun ⟨H, locs, ls, n, Z, P, G, V2, F2⟩ => H) (fun ⟨H, locs, ls, n, Z, P, G, V2, F2⟩ => locs) (fun ⟨H, locs, ls, n, Z, P, G, V2, F2⟩ => F0 m 21 ls []) ?_ (s.heap, [], ls, 0, z, v, f, V, F) ⟨hP, hD, hS, lv_sub hl [1, 2, 3, 0] rfl, Nat.zero_le _, ⟨nw, rv, up, lo, m0, m1, hC⟩, rI_0⟩
        rintro ⟨H, locs, ls, n, Z, P, G, V2, F2⟩ ⟨hP, hD, hS, hl, hnn, hI, hRI⟩ ih21
        dsimp only at hP hD hS hl ⊢
        obtain ⟨nw, rv, up, lo, m0, m1, hC⟩ := hI
        obtain ⟨hnw, hn24, hrv, hr24, hup, hup40, hlo, hlo40, hm0, h03, hm1, h13⟩ := CI_nat hC
        refine lv_iload_n hx hb dX4_runs_21 rfl (lv_at hl 3 rfl) ?_
        refine lv_iload_n hx hb dX4_runs_22 rfl (lv_at hl 1 rfl) ?_
        refine n_icmp_ge (tgt := 65) (a := n) (b := hn) hx hb dX4_runs_23 (by decide) (by omega) (by omega) (fun c_3 => ?_) (fun c_3 => ?_)
        · skip
          refine lv_iload_n hx hb dX4_runs_65 rfl (lv_at hl 3 rfl) ?_
          exact q_ret ((Z, P, G) : CS) hx hb hr hlocks ⟨fun _ => by rw [show (0 : Int32).toNatClampNeg = 0 from rfl, nI_clamp (by omega), rI_endA hRI c_3]; exact ⟨rfl, nw, rv, up, lo, m0, m1, hC⟩, fun q => absurd ⟨c_2, c_1⟩ q⟩ hP hD hS dX4_runs_66
        · skip
          refine lv_aload_n hx hb dX4_runs_26 rfl (lv_at hl 0 rfl) ?_
          refine va_get (D := E.1) (ci := 4) (v := .int (P 32)) (C := RX4) (T := TX4) (N := 13) hx hb hts (fun _ h => (List.mem_cons_of_mem _ (List.mem_append_left _ (List.mem_append_left _ (List.mem_append_left _ (List.mem_append_left _ (List.mem_append_right _ h))))))) hown hK.1 hP 15 rfl rfl 11 (by decide) (hts _ (List.mem_of_getElem? (i := 1) rfl)) (fun _ h9 => h9) rfl dX4_runs_27 ?_
          refine w_top (show (P 32) = nI nw from hnw) ?_
          refine lv_bipush (v := 24) hx hb dX4_runs_30 (by decide) ?_
          refine n_icmp_ge (tgt := 65) (a := nw) (b := 24) hx hb dX4_runs_32 (by decide) (by omega) (by omega) (fun c_4 => ?_) (fun c_4 => ?_)
          · skip
            refine lv_iload_n hx hb dX4_runs_65 rfl (lv_at hl 3 rfl) ?_
            exact q_ret ((Z, P, G) : CS) hx hb hr hlocks ⟨fun _ => by rw [show (0 : Int32).toNatClampNeg = 0 from rfl, nI_clamp (by omega), rI_endB hRI hC.2.2.1 c_4]; exact ⟨rfl, nw, rv, up, lo, m0, m1, hC⟩, fun q => absurd ⟨c_2, c_1⟩ q⟩ hP hD hS dX4_runs_66
          · skip
            refine lv_aload_n hx hb dX4_runs_35 rfl (lv_at hl 0 rfl) ?_
            refine lv_iload_n hx hb dX4_runs_36 rfl (lv_at hl 2 rfl) ?_
            refine cM_i (As := [.ref (r 0), .int 0]) (wr := []) (rM_V ⟨hx, hb, hml, hown, hts⟩ (c_X4_bestDoing0 l E r Z P G H.size V2 F2 nw rv up lo m0 m1 hC (by omega)) (cwV 1 hts gX4_runs_X4_bestDoing rfl rfl rfl (by decide +kernel) ⟨Nat.le_of_ble_eq_true rfl, Nat.le_of_ble_eq_true rfl⟩) hK hP hD 4 15 rfl rfl rfl hl.1 rfl (Nat.le_of_ble_eq_true rfl) dX4_runs_37 ⟨Nat.le_of_ble_eq_true rfl, Nat.le_of_ble_eq_true rfl⟩) hP hD hS hA [0, 1, 2, 3, 4, 5, 6, 7, 8, 9, 10, 11, 12, 13, 14, 15, 16, 17, 18, 19, 20, 21, 22, 23, 24, 25, 26, 27, 28, 29, 30, 31, 32, 33, 34, 35, 36, 37, 38, 39] [] rfl rfl (by decide) (by decide) (fun x_5 u_5 H locs hq_5 hP hD hS => ?_)
            obtain ⟨Z_5, V_5, F_5⟩ := u_5
            obtain ⟨ex_5, hC⟩ := hq_5
            dsimp only at hC
            obtain ⟨hnw, hn24, hrv, hr24, hup, hup40, hlo, hlo40, hm0, h03, hm1, h13⟩ := CI_nat hC
            have hP : va_P E.1 vwCl (CZ E r Z_5 V_5 F_5) H := hP
            have hD : va_D A (CZ E r Z_5 V_5 F_5) := hD
            refine lv_istore (lv' := [(4, .int x_5), (0, .ref (r 0)), (1, .int (nI hn)), (2, .int 0), (3, .int (nI n))]) hx hb dX4_runs_40 hl (by decide) rfl (fun ls hl => ?_)
            refine lv_iload hx hb dX4_runs_42 (lv_at hl 0 rfl) ?_
            refine lv_iconst (v := (-1)) hx hb dX4_runs_44 (by decide) ?_
            refine lv_icmp_ne (tgt := 51) hx hb dX4_runs_45 (by decide) (fun c_6 => ?_) (fun c_6 => ?_)
            · skip
              rcases n_doing_cases V2 F2 nw rv 0 (nI (up + lo)) (9 * up + 3 * m0 + m1) with q9 | ⟨kk, hk9, q9⟩
              · exact absurd (ex_5.trans q9) c_6
              · obtain rfl : x_5 = nI kk := ex_5.trans q9
                obtain ⟨k8, hk8, ek8, hleg⟩ := n_doing_ok q9 (nI_ge0 (by omega))
                obtain rfl : k8 = kk := ((nI_eq (by omega) (by omega)).mp ek8).symm
                have hlg := m_leg_now hC.2.2.1 hleg
                obtain ⟨emo, up2, lo2, hC2⟩ := CI_does hC (by omega) (w := 0) (by decide) hk9 hlg (V_5 4 + V_5 5)
                refine lv_aload_n hx hb dX4_runs_51 rfl (lv_at hl 1 rfl) ?_
                refine lv_iload hx hb dX4_runs_52 (lv_at hl 0 rfl) ?_
                refine lv_iload_n hx hb dX4_runs_54 rfl (lv_at hl 3 rfl) ?_
                refine cM_i (As := [.ref (r 0), .int (nI k8), .int 0]) (wr := []) (rM_V ⟨hx, hb, hml, hown, hts⟩ (c_X4_carryOut0 l E r Z_5 V_5 F_5 H.size k8 nw m0 m1 hnw (by omega) hm0 h03 hm1 h13 (by omega)) (cwV 2 hts gX4_runs_X4_carryOut rfl rfl rfl (by decide +kernel) ⟨Nat.le_of_ble_eq_true rfl, Nat.le_of_ble_eq_true rfl⟩) hK hP hD 4 15 rfl rfl rfl hl.1 rfl (Nat.le_of_ble_eq_true rfl) dX4_runs_55 ⟨Nat.le_of_ble_eq_true rfl, Nat.le_of_ble_eq_true rfl⟩) hP hD hS hA [0, 1, 2, 3, 4, 5, 6, 7, 8, 9, 10, 11, 12, 13, 14, 15, 16, 17, 18, 19, 20, 21, 22, 23, 24, 25, 26, 27, 28, 29, 30, 31, 32, 33, 34, 35, 36, 37, 38, 39] [] rfl rfl (by decide) (by decide) (fun x_7 u_7 H locs hq_7 hP hD hS => ?_)
                obtain ⟨rfl, rfl⟩ := hq_7
                have hP : va_P E.1 vwCl (CZ E r Z_5 (cDoV V_5 F_5 0 nw (m0 * 3 + m1) k8) (chg (lookF V_5 F_5 nw (V_5 4 + V_5 5) 9))) H := hP
                have hD : va_D A (CZ E r Z_5 (cDoV V_5 F_5 0 nw (m0 * 3 + m1) k8) (chg (lookF V_5 F_5 nw (V_5 4 + V_5 5) 9))) := hD
                refine lv_pop hx hb dX4_runs_58 rfl ?_
                refine lv_iinc (v := (nI (n + 1))) (lv' := [(3, .int (nI (n + 1))), (4, .int (nI k8)), (0, .ref (r 0)), (1, .int (nI hn)), (2, .int 0)]) hx hb dX4_runs_59 hl (k := 4) rfl (nI_1 _) (by decide) rfl (fun ls hl => ?_)
                refine lv_goto (tgt := 21) hx hb dX4_runs_62 (by decide) ?_
                exact ih21 (H, locs, ls, n + 1, Z_5, (cDoV V_5 F_5 0 nw (m0 * 3 + m1) k8), (chg (lookF V_5 F_5 nw (V_5 4 + V_5 5) 9)), (d_v V2 F2 nw 0 (nI (k8 / 3)) (nI (k8 % 3))), (d_f F2 (nI (k8 / 3)) (nI (k8 % 3)))) ⟨hP, hD, hS, lv_sub hl [2, 3, 4, 0] rfl, by omega, ⟨_, _, _, _, _, _, hC2⟩, rI_step hRI (by omega) hC.2.2.1 (by omega) hk9 q9⟩ (by dsimp only; omega)
            · skip
              refine lv_goto (tgt := 65) hx hb dX4_runs_48 (by decide) ?_
              refine lv_iload_n hx hb dX4_runs_65 rfl (lv_at hl 4 rfl) ?_
              exact q_ret ((Z_5, V_5, F_5) : CS) hx hb hr hlocks ⟨fun _ => by rw [show (0 : Int32).toNatClampNeg = 0 from rfl, nI_clamp (by omega), rI_endC hRI hC.2.2.1 (ex_5.symm.trans c_6)]; exact ⟨rfl, nw, rv, up, lo, m0, m1, hC⟩, fun q => absurd ⟨c_2, c_1⟩ q⟩ hP hD hS dX4_runs_66
      · skip
        refine lv_iconst (v := 0) hx hb dX4_runs_19 (by decide) ?_
        refine lv_istore_n (lv' := [(3, .int 0), (0, .ref (r 0)), (1, .int (nI hn)), (2, .int 1)]) hx hb dX4_runs_20 rfl hl (by decide) rfl (fun ls hl => ?_)
        refine w_while (σ := Heap × List Loc × Array Slot × Nat × (Nat → Nat) × (Nat → Int32) × (Nat → Nat → Int32) × (Nat → Int32) × (Nat → Nat → Int32)) (fun ⟨H, locs, ls, n, Z, P, G, V2, F2⟩ => hn - n) (fun ⟨H, locs, ls, n, Z, P, G, V2, F2⟩ => va_P E.1 vwCl (CZ E r Z P G) H ∧ va_D A (CZ E r Z P G) ∧ va_S A s.heap H locs ∧ lv_has ls 5 [(0, .ref (r 0)), (1, .int (nI hn)), (2, .int 1), (3, .int (nI n))] ∧ n ≤ hn ∧ (∃ nw rv up lo m0 m1 : Nat, CI P G V2 F2 nw rv up lo m0 m1) ∧ rI 1 hn n V F V2 F2) (fun ⟨H, locs, ls, n, Z, P, G, V2, F2⟩ => H) (fun ⟨H, locs, ls, n, Z, P, G, V2, F2⟩ => locs) (fun ⟨H, locs, ls, n, Z, P, G, V2, F2⟩ => F0 m 21 ls []) ?_ (s.heap, [], ls, 0, z, v, f, V, F) ⟨hP, hD, hS, lv_sub hl [1, 2, 3, 0] rfl, Nat.zero_le _, ⟨nw, rv, up, lo, m0, m1, hC⟩, rI_0⟩
        rintro ⟨H, locs, ls, n, Z, P, G, V2, F2⟩ ⟨hP, hD, hS, hl, hnn, hI, hRI⟩ ih21
        dsimp only at hP hD hS hl ⊢
        obtain ⟨nw, rv, up, lo, m0, m1, hC⟩ := hI
        obtain ⟨hnw, hn24, hrv, hr24, hup, hup40, hlo, hlo40, hm0, h03, hm1, h13⟩ := CI_nat hC
        refine lv_iload_n hx hb dX4_runs_21 rfl (lv_at hl 3 rfl) ?_
        refine lv_iload_n hx hb dX4_runs_22 rfl (lv_at hl 1 rfl) ?_
        refine n_icmp_ge (tgt := 65) (a := n) (b := hn) hx hb dX4_runs_23 (by decide) (by omega) (by omega) (fun c_8 => ?_) (fun c_8 => ?_)
        · skip
          refine lv_iload_n hx hb dX4_runs_65 rfl (lv_at hl 3 rfl) ?_
          exact q_ret ((Z, P, G) : CS) hx hb hr hlocks ⟨fun _ => by rw [show (1 : Int32).toNatClampNeg = 1 from rfl, nI_clamp (by omega), rI_endA hRI c_8]; exact ⟨rfl, nw, rv, up, lo, m0, m1, hC⟩, fun q => absurd ⟨c_2, c_1⟩ q⟩ hP hD hS dX4_runs_66
        · skip
          refine lv_aload_n hx hb dX4_runs_26 rfl (lv_at hl 0 rfl) ?_
          refine va_get (D := E.1) (ci := 4) (v := .int (P 32)) (C := RX4) (T := TX4) (N := 13) hx hb hts (fun _ h => (List.mem_cons_of_mem _ (List.mem_append_left _ (List.mem_append_left _ (List.mem_append_left _ (List.mem_append_left _ (List.mem_append_right _ h))))))) hown hK.1 hP 15 rfl rfl 11 (by decide) (hts _ (List.mem_of_getElem? (i := 1) rfl)) (fun _ h9 => h9) rfl dX4_runs_27 ?_
          refine w_top (show (P 32) = nI nw from hnw) ?_
          refine lv_bipush (v := 24) hx hb dX4_runs_30 (by decide) ?_
          refine n_icmp_ge (tgt := 65) (a := nw) (b := 24) hx hb dX4_runs_32 (by decide) (by omega) (by omega) (fun c_9 => ?_) (fun c_9 => ?_)
          · skip
            refine lv_iload_n hx hb dX4_runs_65 rfl (lv_at hl 3 rfl) ?_
            exact q_ret ((Z, P, G) : CS) hx hb hr hlocks ⟨fun _ => by rw [show (1 : Int32).toNatClampNeg = 1 from rfl, nI_clamp (by omega), rI_endB hRI hC.2.2.1 c_9]; exact ⟨rfl, nw, rv, up, lo, m0, m1, hC⟩, fun q => absurd ⟨c_2, c_1⟩ q⟩ hP hD hS dX4_runs_66
          · skip
            refine lv_aload_n hx hb dX4_runs_35 rfl (lv_at hl 0 rfl) ?_
            refine lv_iload_n hx hb dX4_runs_36 rfl (lv_at hl 2 rfl) ?_
            refine cM_i (As := [.ref (r 0), .int 1]) (wr := []) (rM_V ⟨hx, hb, hml, hown, hts⟩ (c_X4_bestDoing1 l E r Z P G H.size V2 F2 nw rv up lo m0 m1 hC (by omega)) (cwV 1 hts gX4_runs_X4_bestDoing rfl rfl rfl (by decide +kernel) ⟨Nat.le_of_ble_eq_true rfl, Nat.le_of_ble_eq_true rfl⟩) hK hP hD 4 15 rfl rfl rfl hl.1 rfl (Nat.le_of_ble_eq_true rfl) dX4_runs_37 ⟨Nat.le_of_ble_eq_true rfl, Nat.le_of_ble_eq_true rfl⟩) hP hD hS hA [0, 1, 2, 3, 4, 5, 6, 7, 8, 9, 10, 11, 12, 13, 14, 15, 16, 17, 18, 19, 20, 21, 22, 23, 24, 25, 26, 27, 28, 29, 30, 31, 32, 33, 34, 35, 36, 37, 38, 39] [] rfl rfl (by decide) (by decide) (fun x_10 u_10 H locs hq_10 hP hD hS => ?_)
            obtain ⟨Z_10, V_10, F_10⟩ := u_10
            obtain ⟨ex_10, hC⟩ := hq_10
            dsimp only at hC
            obtain ⟨hnw, hn24, hrv, hr24, hup, hup40, hlo, hlo40, hm0, h03, hm1, h13⟩ := CI_nat hC
            have hP : va_P E.1 vwCl (CZ E r Z_10 V_10 F_10) H := hP
            have hD : va_D A (CZ E r Z_10 V_10 F_10) := hD
            refine lv_istore (lv' := [(4, .int x_10), (0, .ref (r 0)), (1, .int (nI hn)), (2, .int 1), (3, .int (nI n))]) hx hb dX4_runs_40 hl (by decide) rfl (fun ls hl => ?_)
            refine lv_iload hx hb dX4_runs_42 (lv_at hl 0 rfl) ?_
            refine lv_iconst (v := (-1)) hx hb dX4_runs_44 (by decide) ?_
            refine lv_icmp_ne (tgt := 51) hx hb dX4_runs_45 (by decide) (fun c_11 => ?_) (fun c_11 => ?_)
            · skip
              rcases n_doing_cases V2 F2 nw rv 1 (nI (up + lo)) (9 * up + 3 * m0 + m1) with q9 | ⟨kk, hk9, q9⟩
              · exact absurd (ex_10.trans q9) c_11
              · obtain rfl : x_10 = nI kk := ex_10.trans q9
                obtain ⟨k8, hk8, ek8, hleg⟩ := n_doing_ok q9 (nI_ge0 (by omega))
                obtain rfl : k8 = kk := ((nI_eq (by omega) (by omega)).mp ek8).symm
                have hlg := m_leg_now hC.2.2.1 hleg
                obtain ⟨emo, up2, lo2, hC2⟩ := CI_does hC (by omega) (w := 1) (by decide) hk9 hlg (V_10 4 + V_10 5)
                refine lv_aload_n hx hb dX4_runs_51 rfl (lv_at hl 1 rfl) ?_
                refine lv_iload hx hb dX4_runs_52 (lv_at hl 0 rfl) ?_
                refine lv_iload_n hx hb dX4_runs_54 rfl (lv_at hl 3 rfl) ?_
                refine cM_i (As := [.ref (r 0), .int (nI k8), .int 1]) (wr := []) (rM_V ⟨hx, hb, hml, hown, hts⟩ (c_X4_carryOut1 l E r Z_10 V_10 F_10 H.size k8 nw m0 m1 hnw (by omega) hm0 h03 hm1 h13 (by omega)) (cwV 2 hts gX4_runs_X4_carryOut rfl rfl rfl (by decide +kernel) ⟨Nat.le_of_ble_eq_true rfl, Nat.le_of_ble_eq_true rfl⟩) hK hP hD 4 15 rfl rfl rfl hl.1 rfl (Nat.le_of_ble_eq_true rfl) dX4_runs_55 ⟨Nat.le_of_ble_eq_true rfl, Nat.le_of_ble_eq_true rfl⟩) hP hD hS hA [0, 1, 2, 3, 4, 5, 6, 7, 8, 9, 10, 11, 12, 13, 14, 15, 16, 17, 18, 19, 20, 21, 22, 23, 24, 25, 26, 27, 28, 29, 30, 31, 32, 33, 34, 35, 36, 37, 38, 39] [] rfl rfl (by decide) (by decide) (fun x_12 u_12 H locs hq_12 hP hD hS => ?_)
                obtain ⟨rfl, rfl⟩ := hq_12
                have hP : va_P E.1 vwCl (CZ E r Z_10 (cDoV V_10 F_10 1 nw (m0 * 3 + m1) k8) (chg (lookF V_10 F_10 nw (V_10 4 + V_10 5) 9))) H := hP
                have hD : va_D A (CZ E r Z_10 (cDoV V_10 F_10 1 nw (m0 * 3 + m1) k8) (chg (lookF V_10 F_10 nw (V_10 4 + V_10 5) 9))) := hD
                refine lv_pop hx hb dX4_runs_58 rfl ?_
                refine lv_iinc (v := (nI (n + 1))) (lv' := [(3, .int (nI (n + 1))), (4, .int (nI k8)), (0, .ref (r 0)), (1, .int (nI hn)), (2, .int 1)]) hx hb dX4_runs_59 hl (k := 4) rfl (nI_1 _) (by decide) rfl (fun ls hl => ?_)
                refine lv_goto (tgt := 21) hx hb dX4_runs_62 (by decide) ?_
                exact ih21 (H, locs, ls, n + 1, Z_10, (cDoV V_10 F_10 1 nw (m0 * 3 + m1) k8), (chg (lookF V_10 F_10 nw (V_10 4 + V_10 5) 9)), (d_v V2 F2 nw 1 (nI (k8 / 3)) (nI (k8 % 3))), (d_f F2 (nI (k8 / 3)) (nI (k8 % 3)))) ⟨hP, hD, hS, lv_sub hl [2, 3, 4, 0] rfl, by omega, ⟨_, _, _, _, _, _, hC2⟩, rI_step hRI (by omega) hC.2.2.1 (by omega) hk9 q9⟩ (by dsimp only; omega)
            · skip
              refine lv_goto (tgt := 65) hx hb dX4_runs_48 (by decide) ?_
              refine lv_iload_n hx hb dX4_runs_65 rfl (lv_at hl 4 rfl) ?_
              exact q_ret ((Z_10, V_10, F_10) : CS) hx hb hr hlocks ⟨fun _ => by rw [show (1 : Int32).toNatClampNeg = 1 from rfl, nI_clamp (by omega), rI_endC hRI hC.2.2.1 (ex_10.symm.trans c_11)]; exact ⟨rfl, nw, rv, up, lo, m0, m1, hC⟩, fun q => absurd ⟨c_2, c_1⟩ q⟩ hP hD hS dX4_runs_66
      · skip
        refine lv_iconst (v := 0) hx hb dX4_runs_19 (by decide) ?_
        refine lv_istore_n (lv' := [(3, .int 0), (0, .ref (r 0)), (1, .int (nI hn)), (2, .int 2)]) hx hb dX4_runs_20 rfl hl (by decide) rfl (fun ls hl => ?_)
        refine w_while (σ := Heap × List Loc × Array Slot × Nat × (Nat → Nat) × (Nat → Int32) × (Nat → Nat → Int32) × (Nat → Int32) × (Nat → Nat → Int32)) (fun ⟨H, locs, ls, n, Z, P, G, V2, F2⟩ => hn - n) (fun ⟨H, locs, ls, n, Z, P, G, V2, F2⟩ => va_P E.1 vwCl (CZ E r Z P G) H ∧ va_D A (CZ E r Z P G) ∧ va_S A s.heap H locs ∧ lv_has ls 5 [(0, .ref (r 0)), (1, .int (nI hn)), (2, .int 2), (3, .int (nI n))] ∧ n ≤ hn ∧ (∃ nw rv up lo m0 m1 : Nat, CI P G V2 F2 nw rv up lo m0 m1) ∧ rI 2 hn n V F V2 F2) (fun ⟨H, locs, ls, n, Z, P, G, V2, F2⟩ => H) (fun ⟨H, locs, ls, n, Z, P, G, V2, F2⟩ => locs) (fun ⟨H, locs, ls, n, Z, P, G, V2, F2⟩ => F0 m 21 ls []) ?_ (s.heap, [], ls, 0, z, v, f, V, F) ⟨hP, hD, hS, lv_sub hl [1, 2, 3, 0] rfl, Nat.zero_le _, ⟨nw, rv, up, lo, m0, m1, hC⟩, rI_0⟩
        rintro ⟨H, locs, ls, n, Z, P, G, V2, F2⟩ ⟨hP, hD, hS, hl, hnn, hI, hRI⟩ ih21
        dsimp only at hP hD hS hl ⊢
        obtain ⟨nw, rv, up, lo, m0, m1, hC⟩ := hI
        obtain ⟨hnw, hn24, hrv, hr24, hup, hup40, hlo, hlo40, hm0, h03, hm1, h13⟩ := CI_nat hC
        refine lv_iload_n hx hb dX4_runs_21 rfl (lv_at hl 3 rfl) ?_
        refine lv_iload_n hx hb dX4_runs_22 rfl (lv_at hl 1 rfl) ?_
        refine n_icmp_ge (tgt := 65) (a := n) (b := hn) hx hb dX4_runs_23 (by decide) (by omega) (by omega) (fun c_13 => ?_) (fun c_13 => ?_)
        · skip
          refine lv_iload_n hx hb dX4_runs_65 rfl (lv_at hl 3 rfl) ?_
          exact q_ret ((Z, P, G) : CS) hx hb hr hlocks ⟨fun _ => by rw [show (2 : Int32).toNatClampNeg = 2 from rfl, nI_clamp (by omega), rI_endA hRI c_13]; exact ⟨rfl, nw, rv, up, lo, m0, m1, hC⟩, fun q => absurd ⟨c_2, c_1⟩ q⟩ hP hD hS dX4_runs_66
        · skip
          refine lv_aload_n hx hb dX4_runs_26 rfl (lv_at hl 0 rfl) ?_
          refine va_get (D := E.1) (ci := 4) (v := .int (P 32)) (C := RX4) (T := TX4) (N := 13) hx hb hts (fun _ h => (List.mem_cons_of_mem _ (List.mem_append_left _ (List.mem_append_left _ (List.mem_append_left _ (List.mem_append_left _ (List.mem_append_right _ h))))))) hown hK.1 hP 15 rfl rfl 11 (by decide) (hts _ (List.mem_of_getElem? (i := 1) rfl)) (fun _ h9 => h9) rfl dX4_runs_27 ?_
          refine w_top (show (P 32) = nI nw from hnw) ?_
          refine lv_bipush (v := 24) hx hb dX4_runs_30 (by decide) ?_
          refine n_icmp_ge (tgt := 65) (a := nw) (b := 24) hx hb dX4_runs_32 (by decide) (by omega) (by omega) (fun c_14 => ?_) (fun c_14 => ?_)
          · skip
            refine lv_iload_n hx hb dX4_runs_65 rfl (lv_at hl 3 rfl) ?_
            exact q_ret ((Z, P, G) : CS) hx hb hr hlocks ⟨fun _ => by rw [show (2 : Int32).toNatClampNeg = 2 from rfl, nI_clamp (by omega), rI_endB hRI hC.2.2.1 c_14]; exact ⟨rfl, nw, rv, up, lo, m0, m1, hC⟩, fun q => absurd ⟨c_2, c_1⟩ q⟩ hP hD hS dX4_runs_66
          · skip
            refine lv_aload_n hx hb dX4_runs_35 rfl (lv_at hl 0 rfl) ?_
            refine lv_iload_n hx hb dX4_runs_36 rfl (lv_at hl 2 rfl) ?_
            refine cM_i (As := [.ref (r 0), .int 2]) (wr := []) (rM_V ⟨hx, hb, hml, hown, hts⟩ (c_X4_bestDoing2 l E r Z P G H.size V2 F2 nw rv up lo m0 m1 hC (by omega)) (cwV 1 hts gX4_runs_X4_bestDoing rfl rfl rfl (by decide +kernel) ⟨Nat.le_of_ble_eq_true rfl, Nat.le_of_ble_eq_true rfl⟩) hK hP hD 4 15 rfl rfl rfl hl.1 rfl (Nat.le_of_ble_eq_true rfl) dX4_runs_37 ⟨Nat.le_of_ble_eq_true rfl, Nat.le_of_ble_eq_true rfl⟩) hP hD hS hA [0, 1, 2, 3, 4, 5, 6, 7, 8, 9, 10, 11, 12, 13, 14, 15, 16, 17, 18, 19, 20, 21, 22, 23, 24, 25, 26, 27, 28, 29, 30, 31, 32, 33, 34, 35, 36, 37, 38, 39] [] rfl rfl (by decide) (by decide) (fun x_15 u_15 H locs hq_15 hP hD hS => ?_)
            obtain ⟨Z_15, V_15, F_15⟩ := u_15
            obtain ⟨ex_15, hC⟩ := hq_15
            dsimp only at hC
            obtain ⟨hnw, hn24, hrv, hr24, hup, hup40, hlo, hlo40, hm0, h03, hm1, h13⟩ := CI_nat hC
            have hP : va_P E.1 vwCl (CZ E r Z_15 V_15 F_15) H := hP
            have hD : va_D A (CZ E r Z_15 V_15 F_15) := hD
            refine lv_istore (lv' := [(4, .int x_15), (0, .ref (r 0)), (1, .int (nI hn)), (2, .int 2), (3, .int (nI n))]) hx hb dX4_runs_40 hl (by decide) rfl (fun ls hl => ?_)
            refine lv_iload hx hb dX4_runs_42 (lv_at hl 0 rfl) ?_
            refine lv_iconst (v := (-1)) hx hb dX4_runs_44 (by decide) ?_
            refine lv_icmp_ne (tgt := 51) hx hb dX4_runs_45 (by decide) (fun c_16 => ?_) (fun c_16 => ?_)
            · skip
              rcases n_doing_cases V2 F2 nw rv 2 (nI (up + lo)) (9 * up + 3 * m0 + m1) with q9 | ⟨kk, hk9, q9⟩
              · exact absurd (ex_15.trans q9) c_16
              · obtain rfl : x_15 = nI kk := ex_15.trans q9
                obtain ⟨k8, hk8, ek8, hleg⟩ := n_doing_ok q9 (nI_ge0 (by omega))
                obtain rfl : k8 = kk := ((nI_eq (by omega) (by omega)).mp ek8).symm
                have hlg := m_leg_now hC.2.2.1 hleg
                obtain ⟨emo, up2, lo2, hC2⟩ := CI_does hC (by omega) (w := 2) (by decide) hk9 hlg (V_15 4 + V_15 5)
                refine lv_aload_n hx hb dX4_runs_51 rfl (lv_at hl 1 rfl) ?_
                refine lv_iload hx hb dX4_runs_52 (lv_at hl 0 rfl) ?_
                refine lv_iload_n hx hb dX4_runs_54 rfl (lv_at hl 3 rfl) ?_
                refine cM_i (As := [.ref (r 0), .int (nI k8), .int 2]) (wr := []) (rM_V ⟨hx, hb, hml, hown, hts⟩ (c_X4_carryOut2 l E r Z_15 V_15 F_15 H.size k8 nw m0 m1 hnw (by omega) hm0 h03 hm1 h13 (by omega)) (cwV 2 hts gX4_runs_X4_carryOut rfl rfl rfl (by decide +kernel) ⟨Nat.le_of_ble_eq_true rfl, Nat.le_of_ble_eq_true rfl⟩) hK hP hD 4 15 rfl rfl rfl hl.1 rfl (Nat.le_of_ble_eq_true rfl) dX4_runs_55 ⟨Nat.le_of_ble_eq_true rfl, Nat.le_of_ble_eq_true rfl⟩) hP hD hS hA [0, 1, 2, 3, 4, 5, 6, 7, 8, 9, 10, 11, 12, 13, 14, 15, 16, 17, 18, 19, 20, 21, 22, 23, 24, 25, 26, 27, 28, 29, 30, 31, 32, 33, 34, 35, 36, 37, 38, 39] [] rfl rfl (by decide) (by decide) (fun x_17 u_17 H locs hq_17 hP hD hS => ?_)
                obtain ⟨rfl, rfl⟩ := hq_17
                have hP : va_P E.1 vwCl (CZ E r Z_15 (cDoV V_15 F_15 2 nw (m0 * 3 + m1) k8) (chg (lookF V_15 F_15 nw (V_15 4 + V_15 5) 9))) H := hP
                have hD : va_D A (CZ E r Z_15 (cDoV V_15 F_15 2 nw (m0 * 3 + m1) k8) (chg (lookF V_15 F_15 nw (V_15 4 + V_15 5) 9))) := hD
                refine lv_pop hx hb dX4_runs_58 rfl ?_
                refine lv_iinc (v := (nI (n + 1))) (lv' := [(3, .int (nI (n + 1))), (4, .int (nI k8)), (0, .ref (r 0)), (1, .int (nI hn)), (2, .int 2)]) hx hb dX4_runs_59 hl (k := 4) rfl (nI_1 _) (by decide) rfl (fun ls hl => ?_)
                refine lv_goto (tgt := 21) hx hb dX4_runs_62 (by decide) ?_
                exact ih21 (H, locs, ls, n + 1, Z_15, (cDoV V_15 F_15 2 nw (m0 * 3 + m1) k8), (chg (lookF V_15 F_15 nw (V_15 4 + V_15 5) 9)), (d_v V2 F2 nw 2 (nI (k8 / 3)) (nI (k8 % 3))), (d_f F2 (nI (k8 / 3)) (nI (k8 % 3)))) ⟨hP, hD, hS, lv_sub hl [2, 3, 4, 0] rfl, by omega, ⟨_, _, _, _, _, _, hC2⟩, rI_step hRI (by omega) hC.2.2.1 (by omega) hk9 q9⟩ (by dsimp only; omega)
            · skip
              refine lv_goto (tgt := 65) hx hb dX4_runs_48 (by decide) ?_
              refine lv_iload_n hx hb dX4_runs_65 rfl (lv_at hl 4 rfl) ?_
              exact q_ret ((Z_15, V_15, F_15) : CS) hx hb hr hlocks ⟨fun _ => by rw [show (2 : Int32).toNatClampNeg = 2 from rfl, nI_clamp (by omega), rI_endC hRI hC.2.2.1 (ex_15.symm.trans c_16)]; exact ⟨rfl, nw, rv, up, lo, m0, m1, hC⟩, fun q => absurd ⟨c_2, c_1⟩ q⟩ hP hD hS dX4_runs_66
    · skip
      refine lv_iconst (v := (-1)) hx hb dX4_runs_17 (by decide) ?_
      exact q_ret ((z, v, f) : CS) hx hb hr hlocks ⟨fun q => absurd q.1 c_2, fun _ => ⟨rfl, hC⟩⟩ hP hD hS dX4_runs_18
