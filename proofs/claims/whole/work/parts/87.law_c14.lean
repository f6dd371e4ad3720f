theorem l_lcmp0 {p : Program} {l : Launch} {e : Env} {R : Room} {s : State} {m : MethodId} {args : Array Value} {below : List Frame} {meth : Method} {c : Code} {H : Heap} {locs : List Loc} {cells slots pc : Nat} {Q : State → Prop} {cc : ByteArray} {ls : Array Slot} {rest : List Value} (hexec : p.tables.exec = Jvm.exec) (hb : c.code = cc) {x y : Int64} (hxy : x = y) (hdg : decode cc pc = .ok (.lcmp, 1))
    (k : W p l e R s m args below meth c H locs cells slots Q (F0 m (pc + 1) ls (.int 0 :: rest))) : W p l e R s m args below meth c H locs cells slots Q (F0 m pc ls (.long y :: .long x :: rest)) := by
  subst hxy
  intro T hT X
  obtain ⟨t, a, b⟩ := k T hT X
  refine ⟨t, ?_, b⟩
  jvm_step X.here [X.here.top, hexec, hb, hdg, Int64.lt_irrefl]
  exact a
set_option maxHeartbeats 4000000 in
set_option maxRecDepth 100000 in
theorem Lc_14 {p : Program} {l : Launch} {e : Env} {s : State} {m : MethodId} {below : List Frame} {meth : Method} {c : Code} {b L : Nat} {xs : Nat → Int32} {E : GG} {A : Nat → Prop} {Q : State → Prop} (X : LawC p l s m c b L xs E A) {i j : Nat} (hi : i + 7 ≤ L) (hj : j ≤ 511) (ih : LawN p l e s m below meth c b E A Q (i + 7) (j + 1)) {H : Heap} {locs : List Loc} {ls : Array Slot} {r z : Nat → Nat} {v : Nat → Int32} {f : Nat → Nat → Int32} {k : Nat → Nat} {V : Nat → Int32} {F : Nat → Nat → Int32} {B C : Nat → Int32} {q3 : Nat} {g : Nat → Int64} {nw rv up lo m0 m1 : Nat} (hP : va_P E.1 vwCl (LWd E r z v f k V F B C q3 g) H) (hD : va_D A (LWd E r z v f k V F B C q3 g)) (hS : va_S A s.heap H locs) (hl : lv_has ls 7 [(0, .ref b), (1, .ref (r 0)), (2, .ref (k 0)), (3, .ref q3), (4, .int (nI i))]) (hC : CI v f V F nw rv up lo m0 m1) : W p l e room_1 s m #[Value.ref b] below meth c H locs (60 + 26 * j) (44000 + 631 * j) Q (F0 m 732 ls []) := by
  obtain ⟨hx, hb, hml, hown, hts, hXs, hbl, hK, hX, hZ, hlt, hL, hA, hA2⟩ := id X
  have hbA : ¬ A b := fun h => absurd hbl (Nat.not_lt.mpr (hA2 b h))
  obtain ⟨hnw, hn24, hrv, hr24, h40, h340, hup, hu40, hlo, hl40, hm0, h03, hm1, h13⟩ := id hC.2.2.1
  have hC : CI v f (upd V 0 0) F nw rv up lo m0 m1 := CI_0 hC 0
  refine lv_aload_n hx hb dL_law_732 rfl (lv_at hl 1 rfl) ?_
  refine lv_aload_n hx hb dL_law_733 rfl (lv_at hl 0 rfl) ?_
  refine lv_iload hx hb dL_law_734 (lv_at hl 4 rfl) ?_
  refine lv_iconst (v := 1) hx hb dL_law_736 (by decide) ?_
  refine lv_iadd hx hb dL_law_737 ?_
  refine w_top (show ((nI i) + 1) = (nI (i + 1)) from nI_add _ _) ?_
  refine va_sld (i := (nI (i + 1))) hx hb hXs hbl hbA hS (vp_in_nI (by omega) (by omega)) dL_law_738 ?_
  refine w_top (show xs (nI (i + 1)).toNatClampNeg = xs (i + 1) from by rw [nI_clamp (by omega)]) ?_
  refine lv_aload_n hx hb dL_law_739 rfl (lv_at hl 0 rfl) ?_
  refine lv_iload hx hb dL_law_740 (lv_at hl 4 rfl) ?_
  refine lv_iconst (v := 2) hx hb dL_law_742 (by decide) ?_
  refine lv_iadd hx hb dL_law_743 ?_
  refine w_top (show ((nI i) + 2) = (nI (i + 2)) from nI_add _ _) ?_
  refine va_sld (i := (nI (i + 2))) hx hb hXs hbl hbA hS (vp_in_nI (by omega) (by omega)) dL_law_744 ?_
  refine w_top (show xs (nI (i + 2)).toNatClampNeg = xs (i + 2) from by rw [nI_clamp (by omega)]) ?_
  refine lv_aload_n hx hb dL_law_745 rfl (lv_at hl 0 rfl) ?_
  refine lv_iload hx hb dL_law_746 (lv_at hl 4 rfl) ?_
  refine lv_iconst (v := 3) hx hb dL_law_748 (by decide) ?_
  refine lv_iadd hx hb dL_law_749 ?_
  refine w_top (show ((nI i) + 3) = (nI (i + 3)) from nI_add _ _) ?_
  refine va_sld (i := (nI (i + 3))) hx hb hXs hbl hbA hS (vp_in_nI (by omega) (by omega)) dL_law_750 ?_
  refine w_top (show xs (nI (i + 3)).toNatClampNeg = xs (i + 3) from by rw [nI_clamp (by omega)]) ?_
  refine lv_aload_n hx hb dL_law_751 rfl (lv_at hl 3 rfl) ?_
  refine cM_i (As := [.ref (r 0), .int (xs (i + 1)), .int (xs (i + 2)), .int (xs (i + 3)), .ref q3]) (wr := MW E k V F B C) (rM_SW ⟨hx, hb, hml, hown, hts⟩ (c_L_done l hlt E r z v f q3 g H.size (xs (i + 1)) (xs (i + 2)) (xs (i + 3)) (upd V 0 0) F nw rv up lo m0 m1 hC) (vx_cwSW 5 hts gL_law_L_done rfl rfl rfl (by decide +kernel) ⟨Nat.le_of_ble_eq_true rfl, Nat.le_of_ble_eq_true rfl⟩) hK hX ((hZ.kept hS.2.1).narrow (va_free (wc := LDW E r q3 ((z, v, f), g)) hD hS hA [0, 1, 2, 3, 4, 5, 6, 7, 8, 9, 10, 11, 12, 13, 14, 15, 16, 17, 18, 19, 20, 21, 22, 23, 24, 25, 26, 27, 28, 29, 30, 31, 32, 33, 34, 35, 36, 37, 38, 39, 56] rfl)) (hP.sub (ws' := LDW E r q3 ((z, v, f), g)) [0, 1, 2, 3, 4, 5, 6, 7, 8, 9, 10, 11, 12, 13, 14, 15, 16, 17, 18, 19, 20, 21, 22, 23, 24, 25, 26, 27, 28, 29, 30, 31, 32, 33, 34, 35, 36, 37, 38, 39, 56] rfl) (hD.sub (ws' := LDW E r q3 ((z, v, f), g)) [0, 1, 2, 3, 4, 5, 6, 7, 8, 9, 10, 11, 12, 13, 14, 15, 16, 17, 18, 19, 20, 21, 22, 23, 24, 25, 26, 27, 28, 29, 30, 31, 32, 33, 34, 35, 36, 37, 38, 39, 56] (by decide) rfl) rfl hl.1 rfl (Nat.le_of_ble_eq_true rfl) dL_law_752 ⟨by show _ ≤ 601024; omega, by show _ ≤ 7293034; omega⟩) hP hD hS hA [0, 1, 2, 3, 4, 5, 6, 7, 8, 9, 10, 11, 12, 13, 14, 15, 16, 17, 18, 19, 20, 21, 22, 23, 24, 25, 26, 27, 28, 29, 30, 31, 32, 33, 34, 35, 36, 37, 38, 39, 56] [40, 41, 42, 43, 44, 45, 46, 47, 48, 49, 50, 51, 52, 53, 54, 55] rfl rfl (by decide) (by decide) (fun x_1 u_1 H locs hq_1 hP hD hS => ?_)
  obtain ⟨⟨Z_1, v_1, f_1⟩, g_1⟩ := u_1
  obtain ⟨hy1, hy2⟩ := hq_1
  dsimp only at hy1 hy2
  have hP := hP.sub (ws' := LWd E r Z_1 v_1 f_1 k V F B C q3 g_1) [16, 17, 18, 19, 20, 21, 22, 23, 24, 25, 26, 27, 28, 29, 30, 31, 32, 33, 34, 35, 36, 37, 38, 39, 40, 41, 42, 43, 44, 45, 46, 47, 48, 49, 50, 51, 52, 53, 54, 55, 0, 1, 2, 3, 4, 5, 6, 7, 8, 9, 10, 11, 12, 13, 14, 15, 56] rfl
  have hD := hD.sub (ws' := LWd E r Z_1 v_1 f_1 k V F B C q3 g_1) [16, 17, 18, 19, 20, 21, 22, 23, 24, 25, 26, 27, 28, 29, 30, 31, 32, 33, 34, 35, 36, 37, 38, 39, 40, 41, 42, 43, 44, 45, 46, 47, 48, 49, 50, 51, 52, 53, 54, 55, 0, 1, 2, 3, 4, 5, 6, 7, 8, 9, 10, 11, 12, 13, 14, 15, 56] (by decide) rfl
  refine lv_istore (lv' := [(5, .int x_1), (0, .ref b), (1, .ref (r 0)), (2, .ref (k 0)), (3, .ref q3), (4, .int (nI i))]) hx hb dL_law_755 hl (by decide) rfl (fun ls hl => ?_)
  refine lv_aload_n hx hb dL_law_757 rfl (lv_at hl 3 rfl) ?_
  refine lv_aload_n hx hb dL_law_758 rfl (lv_at hl 1 rfl) ?_
  refine lv_iload hx hb dL_law_759 (lv_at hl 5 rfl) ?_
  refine lv_iconst (v := 1) hx hb dL_law_761 (by decide) ?_
  refine lv_iadd hx hb dL_law_762 ?_
  refine w_top (show ((nI i) + 1) = (nI (i + 1)) from nI_add _ _) ?_
  refine va_sld (i := (nI (i + 1))) hx hb hXs hbl hbA hS (vp_in_nI (by omega) (by omega)) dL_law_763 ?_
  refine w_top (show xs (nI (i + 1)).toNatClampNeg = xs (i + 1) from by rw [nI_clamp (by omega)]) ?_
  refine lv_aload_n hx hb dL_law_764 rfl (lv_at hl 1 rfl) ?_
  refine lv_iload hx hb dL_law_765 (lv_at hl 5 rfl) ?_
  refine lv_iconst (v := 2) hx hb dL_law_767 (by decide) ?_
  refine lv_iadd hx hb dL_law_768 ?_
  refine w_top (show ((nI i) + 2) = (nI (i + 2)) from nI_add _ _) ?_
  refine va_sld (i := (nI (i + 2))) hx hb hXs hbl hbA hS (vp_in_nI (by omega) (by omega)) dL_law_769 ?_
  refine w_top (show xs (nI (i + 2)).toNatClampNeg = xs (i + 2) from by rw [nI_clamp (by omega)]) ?_
  refine lv_aload_n hx hb dL_law_770 rfl (lv_at hl 1 rfl) ?_
  refine lv_iload hx hb dL_law_771 (lv_at hl 5 rfl) ?_
  refine lv_iconst (v := 3) hx hb dL_law_773 (by decide) ?_
  refine lv_iadd hx hb dL_law_774 ?_
  refine w_top (show ((nI i) + 3) = (nI (i + 3)) from nI_add _ _) ?_
  refine va_sld (i := (nI (i + 3))) hx hb hXs hbl hbA hS (vp_in_nI (by omega) (by omega)) dL_law_775 ?_
  refine w_top (show xs (nI (i + 3)).toNatClampNeg = xs (i + 3) from by rw [nI_clamp (by omega)]) ?_
  refine cM_i (As := [.ref (k 0), .int (xs (i + 1)), .int (xs (i + 2)), .int (xs (i + 3))]) (wr := CZ E r Z_1 v_1 f_1 ++ [(q3, .inl (E.2 3, 1, .inr (.inl g_1)))]) (rM_V ⟨hx, hb, hml, hown, hts⟩ (c_X5_done l E k V F B C H.size (xs (i + 1)) (xs (i + 2)) (xs (i + 3)) nw hnw hn24) (cwV 3 hts gL_law_X5_done rfl rfl rfl (by decide +kernel) ⟨Nat.le_of_ble_eq_true rfl, Nat.le_of_ble_eq_true rfl⟩) hK (hP.sub (ws' := MW E k V F B C) [40, 41, 42, 43, 44, 45, 46, 47, 48, 49, 50, 51, 52, 53, 54, 55] rfl) (hD.sub (ws' := MW E k V F B C) [40, 41, 42, 43, 44, 45, 46, 47, 48, 49, 50, 51, 52, 53, 54, 55] (by decide) rfl) 5 0 rfl rfl rfl hl.1 rfl (Nat.le_of_ble_eq_true rfl) dL_law_776 ⟨by show _ ≤ 601024; omega, by show _ ≤ 7293034; omega⟩) hP hD hS hA [40, 41, 42, 43, 44, 45, 46, 47, 48, 49, 50, 51, 52, 53, 54, 55] [0, 1, 2, 3, 4, 5, 6, 7, 8, 9, 10, 11, 12, 13, 14, 15, 16, 17, 18, 19, 20, 21, 22, 23, 24, 25, 26, 27, 28, 29, 30, 31, 32, 33, 34, 35, 36, 37, 38, 39, 56] rfl rfl (by decide) (by decide) (fun x_2 u_2 H locs hq_2 hP hD hS => ?_)
  refine lv_istore (lv' := [(6, .int x_2), (5, .int x_1), (0, .ref b), (1, .ref (r 0)), (2, .ref (k 0)), (3, .ref q3), (4, .int (nI i))]) hx hb dL_law_779 hl (by decide) rfl (fun ls hl => ?_)
  by_cases hok : ok_done V F nw (xs (i + 1)) (xs (i + 2)) (xs (i + 3))
  · obtain ⟨rfl, eg1, nw1, rv1, up1, lo1, m01, m11, hC1⟩ := hy1 hok
    obtain ⟨ex2, rfl⟩ := hq_2.1 hok
    have hP := hP.sub (ws' := LWd E r Z_1 v_1 f_1 k (d_v (upd V 0 0) F nw ((xs (i + 3))).toNatClampNeg (xs (i + 1)) (xs (i + 2))) (d_f F (xs (i + 1)) (xs (i + 2))) B C q3 g_1) [0, 1, 2, 3, 4, 5, 6, 7, 8, 9, 10, 11, 12, 13, 14, 15, 16, 17, 18, 19, 20, 21, 22, 23, 24, 25, 26, 27, 28, 29, 30, 31, 32, 33, 34, 35, 36, 37, 38, 39, 41, 42, 43, 44, 45, 46, 47, 48, 49, 50, 51, 52, 53, 54, 55, 56, 40] rfl
    have hD := hD.sub (ws' := LWd E r Z_1 v_1 f_1 k (d_v (upd V 0 0) F nw ((xs (i + 3))).toNatClampNeg (xs (i + 1)) (xs (i + 2))) (d_f F (xs (i + 1)) (xs (i + 2))) B C q3 g_1) [0, 1, 2, 3, 4, 5, 6, 7, 8, 9, 10, 11, 12, 13, 14, 15, 16, 17, 18, 19, 20, 21, 22, 23, 24, 25, 26, 27, 28, 29, 30, 31, 32, 33, 34, 35, 36, 37, 38, 39, 41, 42, 43, 44, 45, 46, 47, 48, 49, 50, 51, 52, 53, 54, 55, 56, 40] (by decide) rfl
    refine lv_aload_n hx hb dL_law_781 rfl (lv_at hl 4 rfl) ?_
    refine cR_V ⟨hx, hb, hml, hown, hts⟩ (c_X5_thrown l E k (d_v (upd V 0 0) F nw ((xs (i + 3))).toNatClampNeg (xs (i + 1)) (xs (i + 2))) (d_f F (xs (i + 1)) (xs (i + 2))) B C) (cwV 0 hts gL_law_X5_thrown rfl rfl rfl (by decide +kernel) ⟨Nat.le_of_ble_eq_true rfl, Nat.le_of_ble_eq_true rfl⟩) hK (hP.sub (ws' := MW E k (d_v (upd V 0 0) F nw ((xs (i + 3))).toNatClampNeg (xs (i + 1)) (xs (i + 2))) (d_f F (xs (i + 1)) (xs (i + 2))) B C) [40, 41, 42, 43, 44, 45, 46, 47, 48, 49, 50, 51, 52, 53, 54, 55] rfl) 5 0 rfl rfl rfl hl.1 rfl (Nat.le_of_ble_eq_true rfl) dL_law_782 ⟨by show _ ≤ 601024; omega, by show _ ≤ 7293034; omega⟩ ?_
    refine lv_iload hx hb dL_law_785 (lv_at hl 1 rfl) ?_
    refine lv_icmp_eq (tgt := 792) hx hb dL_law_787 (by decide) (fun c_4 => ?_) (fun c_4 => ?_)
    · skip
      refine lv_iload hx hb dL_law_792 (lv_at hl 1 rfl) ?_
      refine n_if_ne (tgt := 809) (a := 0) hx hb dL_law_794 (by decide) (by omega) (fun c_5 => ?_) (fun c_5 => ?_)
      · skip
        exact absurd c_5 (by decide)
      · skip
        refine lv_aload_n hx hb dL_law_797 rfl (lv_at hl 5 rfl) ?_
        refine lv_iconst (v := 0) hx hb dL_law_798 (by decide) ?_
        refine va_lald (i := 0) (f := g_1) hx hb hK.1 hP 56 3 rfl rfl (show ¬ ((0 : Int32) < 0 ∨ 1 ≤ (0 : Int32).toNatClampNeg) by decide) dL_law_799 ?_
        refine W.eq (g2 := F0 m 800 ls [.long (g_1 0)]) rfl ?_
        refine lv_iload hx hb dL_law_800 (lv_at hl 0 rfl) ?_
        refine lv_i2l hx hb dL_law_802 rfl ?_
        refine l_lcmp0 hx hb (eg1.trans (congrArg Int32.toInt64 ex2.symm)) dL_law_803 ?_
        refine lv_if_eq (tgt := 809) hx hb dL_law_804 (by decide) (fun c_6 => ?_) (fun c_6 => ?_)
        · skip
          refine lv_goto (tgt := 874) hx hb dL_law_809 (by decide) ?_
          exact L_next X ih (by omega) (by omega) hP hD hS (lv_sub hl [2, 3, 4, 5, 6] rfl) hC1
        · skip
          exact absurd rfl c_6
    · skip
      exact absurd rfl c_4
  · obtain ⟨rfl, hC1⟩ := hy2 hok
    obtain ⟨ex2, rfl⟩ := hq_2.2 hok
    have hP := hP.sub (ws' := LWd E r Z_1 v_1 f_1 k (upd V 0 1) F B C q3 g_1) [0, 1, 2, 3, 4, 5, 6, 7, 8, 9, 10, 11, 12, 13, 14, 15, 16, 17, 18, 19, 20, 21, 22, 23, 24, 25, 26, 27, 28, 29, 30, 31, 32, 33, 34, 35, 36, 37, 38, 39, 41, 42, 43, 44, 45, 46, 47, 48, 49, 50, 51, 52, 53, 54, 55, 56, 40] rfl
    have hD := hD.sub (ws' := LWd E r Z_1 v_1 f_1 k (upd V 0 1) F B C q3 g_1) [0, 1, 2, 3, 4, 5, 6, 7, 8, 9, 10, 11, 12, 13, 14, 15, 16, 17, 18, 19, 20, 21, 22, 23, 24, 25, 26, 27, 28, 29, 30, 31, 32, 33, 34, 35, 36, 37, 38, 39, 41, 42, 43, 44, 45, 46, 47, 48, 49, 50, 51, 52, 53, 54, 55, 56, 40] (by decide) rfl
    refine lv_aload_n hx hb dL_law_781 rfl (lv_at hl 4 rfl) ?_
    refine cR_V ⟨hx, hb, hml, hown, hts⟩ (c_X5_thrown l E k (upd V 0 1) F B C) (cwV 0 hts gL_law_X5_thrown rfl rfl rfl (by decide +kernel) ⟨Nat.le_of_ble_eq_true rfl, Nat.le_of_ble_eq_true rfl⟩) hK (hP.sub (ws' := MW E k (upd V 0 1) F B C) [40, 41, 42, 43, 44, 45, 46, 47, 48, 49, 50, 51, 52, 53, 54, 55] rfl) 5 0 rfl rfl rfl hl.1 rfl (Nat.le_of_ble_eq_true rfl) dL_law_782 ⟨by show _ ≤ 601024; omega, by show _ ≤ 7293034; omega⟩ ?_
    refine lv_iload hx hb dL_law_785 (lv_at hl 1 rfl) ?_
    refine lv_icmp_eq (tgt := 792) hx hb dL_law_787 (by decide) (fun c_8 => ?_) (fun c_8 => ?_)
    · skip
      refine lv_iload hx hb dL_law_792 (lv_at hl 1 rfl) ?_
      refine n_if_ne (tgt := 809) (a := 1) hx hb dL_law_794 (by decide) (by omega) (fun c_9 => ?_) (fun c_9 => ?_)
      · skip
        refine lv_goto (tgt := 874) hx hb dL_law_809 (by decide) ?_
        exact L_next X ih (by omega) (by omega) hP hD hS (lv_sub hl [2, 3, 4, 5, 6] rfl) (CI_01 hC1)
      · skip
        exact absurd c_9 (by decide)
    · skip
      exact absurd rfl c_8
