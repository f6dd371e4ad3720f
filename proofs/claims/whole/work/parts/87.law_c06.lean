set_option maxHeartbeats 4000000 in
set_option maxRecDepth 100000 in
theorem Lc_6 {p : Program} {l : Launch} {e : Env} {s : State} {m : MethodId} {below : List Frame} {meth : Method} {c : Code} {b L : Nat} {xs : Nat → Int32} {E : GG} {A : Nat → Prop} {Q : State → Prop} (X : LawC p l s m c b L xs E A) {i j : Nat} (hi : i + 7 ≤ L) (hj : j ≤ 511) (ih : LawN p l e s m below meth c b E A Q (i + 7) (j + 1)) {H : Heap} {locs : List Loc} {ls : Array Slot} {r z : Nat → Nat} {v : Nat → Int32} {f : Nat → Nat → Int32} {k : Nat → Nat} {V : Nat → Int32} {F : Nat → Nat → Int32} {B C : Nat → Int32} {q3 : Nat} {g : Nat → Int64} {nw rv up lo m0 m1 : Nat} (hP : va_P E.1 vwCl (LWd E r z v f k V F B C q3 g) H) (hD : va_D A (LWd E r z v f k V F B C q3 g)) (hS : va_S A s.heap H locs) (hl : lv_has ls 7 [(0, .ref b), (1, .ref (r 0)), (2, .ref (k 0)), (3, .ref q3), (4, .int (nI i))]) (hC : CI v f V F nw rv up lo m0 m1) : W p l e room_1 s m #[Value.ref b] below meth c H locs (60 + 26 * j) (44000 + 631 * j) Q (F0 m 472 ls []) := by
  obtain ⟨hx, hb, hml, hown, hts, hXs, hbl, hK, hX, hZ, hlt, hL, hA, hA2⟩ := id X
  have hbA : ¬ A b := fun h => absurd hbl (Nat.not_lt.mpr (hA2 b h))
  obtain ⟨hnw, hn24, hrv, hr24, h40, h340, hup, hu40, hlo, hl40, hm0, h03, hm1, h13⟩ := id hC.2.2.1
  refine lv_aload_n hx hb dL_law_472 rfl (lv_at hl 1 rfl) ?_
  refine lv_aload_n hx hb dL_law_473 rfl (lv_at hl 0 rfl) ?_
  refine lv_iload hx hb dL_law_474 (lv_at hl 4 rfl) ?_
  refine lv_iconst (v := 1) hx hb dL_law_476 (by decide) ?_
  refine lv_iadd hx hb dL_law_477 ?_
  refine w_top (show ((nI i) + 1) = (nI (i + 1)) from nI_add _ _) ?_
  refine va_sld (i := (nI (i + 1))) hx hb hXs hbl hbA hS (vp_in_nI (by omega) (by omega)) dL_law_478 ?_
  refine w_top (show xs (nI (i + 1)).toNatClampNeg = xs (i + 1) from by rw [nI_clamp (by omega)]) ?_
  refine lv_aload_n hx hb dL_law_479 rfl (lv_at hl 0 rfl) ?_
  refine lv_iload hx hb dL_law_480 (lv_at hl 4 rfl) ?_
  refine lv_iconst (v := 2) hx hb dL_law_482 (by decide) ?_
  refine lv_iadd hx hb dL_law_483 ?_
  refine w_top (show ((nI i) + 2) = (nI (i + 2)) from nI_add _ _) ?_
  refine va_sld (i := (nI (i + 2))) hx hb hXs hbl hbA hS (vp_in_nI (by omega) (by omega)) dL_law_484 ?_
  refine w_top (show xs (nI (i + 2)).toNatClampNeg = xs (i + 2) from by rw [nI_clamp (by omega)]) ?_
  refine lv_aload_n hx hb dL_law_485 rfl (lv_at hl 0 rfl) ?_
  refine lv_iload hx hb dL_law_486 (lv_at hl 4 rfl) ?_
  refine lv_iconst (v := 3) hx hb dL_law_488 (by decide) ?_
  refine lv_iadd hx hb dL_law_489 ?_
  refine w_top (show ((nI i) + 3) = (nI (i + 3)) from nI_add _ _) ?_
  refine va_sld (i := (nI (i + 3))) hx hb hXs hbl hbA hS (vp_in_nI (by omega) (by omega)) dL_law_490 ?_
  refine w_top (show xs (nI (i + 3)).toNatClampNeg = xs (i + 3) from by rw [nI_clamp (by omega)]) ?_
  refine cM_i (As := [.ref (r 0), .int (xs (i + 1)), .int (xs (i + 2)), .int (xs (i + 3))]) (wr := MW E k V F B C ++ [(q3, .inl (E.2 3, 1, .inr (.inl g)))]) (rM_V ⟨hx, hb, hml, hown, hts⟩ (c_X4_weights l E r z v f H.size (xs (i + 1)) (xs (i + 2)) (xs (i + 3)) ) (cwV 3 hts gL_law_X4_weights rfl rfl rfl (by decide +kernel) ⟨Nat.le_of_ble_eq_true rfl, Nat.le_of_ble_eq_true rfl⟩) hK (hP.sub (ws' := CZ E r z v f) [0, 1, 2, 3, 4, 5, 6, 7, 8, 9, 10, 11, 12, 13, 14, 15, 16, 17, 18, 19, 20, 21, 22, 23, 24, 25, 26, 27, 28, 29, 30, 31, 32, 33, 34, 35, 36, 37, 38, 39] rfl) (hD.sub (ws' := CZ E r z v f) [0, 1, 2, 3, 4, 5, 6, 7, 8, 9, 10, 11, 12, 13, 14, 15, 16, 17, 18, 19, 20, 21, 22, 23, 24, 25, 26, 27, 28, 29, 30, 31, 32, 33, 34, 35, 36, 37, 38, 39] (by decide) rfl) 4 15 rfl rfl rfl hl.1 rfl (Nat.le_of_ble_eq_true rfl) dL_law_491 ⟨by show _ ≤ 601024; omega, by show _ ≤ 7293034; omega⟩) hP hD hS hA [0, 1, 2, 3, 4, 5, 6, 7, 8, 9, 10, 11, 12, 13, 14, 15, 16, 17, 18, 19, 20, 21, 22, 23, 24, 25, 26, 27, 28, 29, 30, 31, 32, 33, 34, 35, 36, 37, 38, 39] [40, 41, 42, 43, 44, 45, 46, 47, 48, 49, 50, 51, 52, 53, 54, 55, 56] rfl rfl (by decide) (by decide) (fun x_1 u_1 H locs hq_1 hP hD hS => ?_)
  obtain ⟨rfl, rfl⟩ := hq_1
  have hP := hP.sub (ws' := LWd E r z ((t_weights v f (xs (i + 1)) (xs (i + 2)) (xs (i + 3))).2.1) ((t_weights v f (xs (i + 1)) (xs (i + 2)) (xs (i + 3))).2.2) k V F B C q3 g) [17, 18, 19, 20, 21, 22, 23, 24, 25, 26, 27, 28, 29, 30, 31, 32, 33, 34, 35, 36, 37, 38, 39, 40, 41, 42, 43, 44, 45, 46, 47, 48, 49, 50, 51, 52, 53, 54, 55, 56, 0, 1, 2, 3, 4, 5, 6, 7, 8, 9, 10, 11, 12, 13, 14, 15, 16] rfl
  have hD := hD.sub (ws' := LWd E r z ((t_weights v f (xs (i + 1)) (xs (i + 2)) (xs (i + 3))).2.1) ((t_weights v f (xs (i + 1)) (xs (i + 2)) (xs (i + 3))).2.2) k V F B C q3 g) [17, 18, 19, 20, 21, 22, 23, 24, 25, 26, 27, 28, 29, 30, 31, 32, 33, 34, 35, 36, 37, 38, 39, 40, 41, 42, 43, 44, 45, 46, 47, 48, 49, 50, 51, 52, 53, 54, 55, 56, 0, 1, 2, 3, 4, 5, 6, 7, 8, 9, 10, 11, 12, 13, 14, 15, 16] (by decide) rfl
  refine lv_aload_n hx hb dL_law_494 rfl (lv_at hl 2 rfl) ?_
  refine lv_aload_n hx hb dL_law_495 rfl (lv_at hl 0 rfl) ?_
  refine lv_iload hx hb dL_law_496 (lv_at hl 4 rfl) ?_
  refine lv_iconst (v := 1) hx hb dL_law_498 (by decide) ?_
  refine lv_iadd hx hb dL_law_499 ?_
  refine w_top (show ((nI i) + 1) = (nI (i + 1)) from nI_add _ _) ?_
  refine va_sld (i := (nI (i + 1))) hx hb hXs hbl hbA hS (vp_in_nI (by omega) (by omega)) dL_law_500 ?_
  refine w_top (show xs (nI (i + 1)).toNatClampNeg = xs (i + 1) from by rw [nI_clamp (by omega)]) ?_
  refine lv_aload_n hx hb dL_law_501 rfl (lv_at hl 0 rfl) ?_
  refine lv_iload hx hb dL_law_502 (lv_at hl 4 rfl) ?_
  refine lv_iconst (v := 2) hx hb dL_law_504 (by decide) ?_
  refine lv_iadd hx hb dL_law_505 ?_
  refine w_top (show ((nI i) + 2) = (nI (i + 2)) from nI_add _ _) ?_
  refine va_sld (i := (nI (i + 2))) hx hb hXs hbl hbA hS (vp_in_nI (by omega) (by omega)) dL_law_506 ?_
  refine w_top (show xs (nI (i + 2)).toNatClampNeg = xs (i + 2) from by rw [nI_clamp (by omega)]) ?_
  refine lv_aload_n hx hb dL_law_507 rfl (lv_at hl 0 rfl) ?_
  refine lv_iload hx hb dL_law_508 (lv_at hl 4 rfl) ?_
  refine lv_iconst (v := 3) hx hb dL_law_510 (by decide) ?_
  refine lv_iadd hx hb dL_law_511 ?_
  refine w_top (show ((nI i) + 3) = (nI (i + 3)) from nI_add _ _) ?_
  refine va_sld (i := (nI (i + 3))) hx hb hXs hbl hbA hS (vp_in_nI (by omega) (by omega)) dL_law_512 ?_
  refine w_top (show xs (nI (i + 3)).toNatClampNeg = xs (i + 3) from by rw [nI_clamp (by omega)]) ?_
  refine cM_i (As := [.ref (k 0), .int (xs (i + 1)), .int (xs (i + 2)), .int (xs (i + 3))]) (wr := CZ E r z ((t_weights v f (xs (i + 1)) (xs (i + 2)) (xs (i + 3))).2.1) ((t_weights v f (xs (i + 1)) (xs (i + 2)) (xs (i + 3))).2.2) ++ [(q3, .inl (E.2 3, 1, .inr (.inl g)))]) (rM_V ⟨hx, hb, hml, hown, hts⟩ (c_X5_weights l E k V F B C H.size (xs (i + 1)) (xs (i + 2)) (xs (i + 3)) ) (cwV 3 hts gL_law_X5_weights rfl rfl rfl (by decide +kernel) ⟨Nat.le_of_ble_eq_true rfl, Nat.le_of_ble_eq_true rfl⟩) hK (hP.sub (ws' := MW E k V F B C) [40, 41, 42, 43, 44, 45, 46, 47, 48, 49, 50, 51, 52, 53, 54, 55] rfl) (hD.sub (ws' := MW E k V F B C) [40, 41, 42, 43, 44, 45, 46, 47, 48, 49, 50, 51, 52, 53, 54, 55] (by decide) rfl) 5 0 rfl rfl rfl hl.1 rfl (Nat.le_of_ble_eq_true rfl) dL_law_513 ⟨by show _ ≤ 601024; omega, by show _ ≤ 7293034; omega⟩) hP hD hS hA [40, 41, 42, 43, 44, 45, 46, 47, 48, 49, 50, 51, 52, 53, 54, 55] [0, 1, 2, 3, 4, 5, 6, 7, 8, 9, 10, 11, 12, 13, 14, 15, 16, 17, 18, 19, 20, 21, 22, 23, 24, 25, 26, 27, 28, 29, 30, 31, 32, 33, 34, 35, 36, 37, 38, 39, 56] rfl rfl (by decide) (by decide) (fun x_2 u_2 H locs hq_2 hP hD hS => ?_)
  obtain ⟨rfl, rfl⟩ := hq_2
  have hP := hP.sub (ws' := LWd E r z ((t_weights v f (xs (i + 1)) (xs (i + 2)) (xs (i + 3))).2.1) ((t_weights v f (xs (i + 1)) (xs (i + 2)) (xs (i + 3))).2.2) k ((s_weights V F (xs (i + 1)) (xs (i + 2)) (xs (i + 3))).2.1) ((s_weights V F (xs (i + 1)) (xs (i + 2)) (xs (i + 3))).2.2) B C q3 g) [0, 1, 2, 3, 4, 5, 6, 7, 8, 9, 10, 11, 12, 13, 14, 15, 16, 17, 18, 19, 20, 21, 22, 23, 24, 25, 26, 27, 28, 29, 30, 31, 32, 33, 34, 35, 36, 37, 38, 39, 41, 42, 43, 44, 45, 46, 47, 48, 49, 50, 51, 52, 53, 54, 55, 56, 40] rfl
  have hD := hD.sub (ws' := LWd E r z ((t_weights v f (xs (i + 1)) (xs (i + 2)) (xs (i + 3))).2.1) ((t_weights v f (xs (i + 1)) (xs (i + 2)) (xs (i + 3))).2.2) k ((s_weights V F (xs (i + 1)) (xs (i + 2)) (xs (i + 3))).2.1) ((s_weights V F (xs (i + 1)) (xs (i + 2)) (xs (i + 3))).2.2) B C q3 g) [0, 1, 2, 3, 4, 5, 6, 7, 8, 9, 10, 11, 12, 13, 14, 15, 16, 17, 18, 19, 20, 21, 22, 23, 24, 25, 26, 27, 28, 29, 30, 31, 32, 33, 34, 35, 36, 37, 38, 39, 41, 42, 43, 44, 45, 46, 47, 48, 49, 50, 51, 52, 53, 54, 55, 56, 40] (by decide) rfl
  refine lv_icmp_eq (tgt := 874) hx hb dL_law_516 (by decide) (fun c_3 => ?_) (fun c_3 => ?_)
  · skip
    obtain ⟨nw, rv, up, lo, m0, m1, hCn⟩ := (S_weights hC (xs (i + 1)) (xs (i + 2)) (xs (i + 3))).2
    exact L_next X ih (by omega) (by omega) hP hD hS (lv_sub hl [0, 1, 2, 3, 4] rfl) hCn
  · skip
    exact absurd (S_weights hC (xs (i + 1)) (xs (i + 2)) (xs (i + 3))).1 c_3
