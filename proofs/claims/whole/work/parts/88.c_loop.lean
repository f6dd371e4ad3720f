theorem sw16 (x : Int32) : (x.toInt < 0 ∨ 16 < x.toInt) ∨ x = 0 ∨ x = 1 ∨ x = 2 ∨ x = 3 ∨ x = 4 ∨ x = 5 ∨ x = 6 ∨ x = 7 ∨ x = 8 ∨ x = 9 ∨ x = 10 ∨ x = 11 ∨ x = 12 ∨ x = 13 ∨ x = 14 ∨ x = 15 ∨ x = 16 := by
  by_cases h : x.toInt < 0 ∨ 16 < x.toInt
  · exact Or.inl h
  · have key : ∀ k : Int32, x.toInt = k.toInt → x = k := fun k hk => Int32.toInt_inj.mp hk
    have h0 : x.toInt = 0 ∨ x.toInt = 1 ∨ x.toInt = 2 ∨ x.toInt = 3 ∨ x.toInt = 4 ∨ x.toInt = 5 ∨ x.toInt = 6 ∨ x.toInt = 7 ∨ x.toInt = 8 ∨ x.toInt = 9 ∨ x.toInt = 10 ∨ x.toInt = 11 ∨ x.toInt = 12 ∨ x.toInt = 13 ∨ x.toInt = 14 ∨ x.toInt = 15 ∨ x.toInt = 16 := by omega
    rcases h0 with q | q | q | q | q | q | q | q | q | q | q | q | q | q | q | q | q
    · exact Or.inr (Or.inl (key 0 q))
    · exact Or.inr (Or.inr (Or.inl (key 1 q)))
    · exact Or.inr (Or.inr (Or.inr (Or.inl (key 2 q))))
    · exact Or.inr (Or.inr (Or.inr (Or.inr (Or.inl (key 3 q)))))
    · exact Or.inr (Or.inr (Or.inr (Or.inr (Or.inr (Or.inl (key 4 q))))))
    · exact Or.inr (Or.inr (Or.inr (Or.inr (Or.inr (Or.inr (Or.inl (key 5 q)))))))
    · exact Or.inr (Or.inr (Or.inr (Or.inr (Or.inr (Or.inr (Or.inr (Or.inl (key 6 q))))))))
    · exact Or.inr (Or.inr (Or.inr (Or.inr (Or.inr (Or.inr (Or.inr (Or.inr (Or.inl (key 7 q)))))))))
    · exact Or.inr (Or.inr (Or.inr (Or.inr (Or.inr (Or.inr (Or.inr (Or.inr (Or.inr (Or.inl (key 8 q))))))))))
    · exact Or.inr (Or.inr (Or.inr (Or.inr (Or.inr (Or.inr (Or.inr (Or.inr (Or.inr (Or.inr (Or.inl (key 9 q)))))))))))
    · exact Or.inr (Or.inr (Or.inr (Or.inr (Or.inr (Or.inr (Or.inr (Or.inr (Or.inr (Or.inr (Or.inr (Or.inl (key 10 q))))))))))))
    · exact Or.inr (Or.inr (Or.inr (Or.inr (Or.inr (Or.inr (Or.inr (Or.inr (Or.inr (Or.inr (Or.inr (Or.inr (Or.inl (key 11 q)))))))))))))
    · exact Or.inr (Or.inr (Or.inr (Or.inr (Or.inr (Or.inr (Or.inr (Or.inr (Or.inr (Or.inr (Or.inr (Or.inr (Or.inr (Or.inl (key 12 q))))))))))))))
    · exact Or.inr (Or.inr (Or.inr (Or.inr (Or.inr (Or.inr (Or.inr (Or.inr (Or.inr (Or.inr (Or.inr (Or.inr (Or.inr (Or.inr (Or.inl (key 13 q)))))))))))))))
    · exact Or.inr (Or.inr (Or.inr (Or.inr (Or.inr (Or.inr (Or.inr (Or.inr (Or.inr (Or.inr (Or.inr (Or.inr (Or.inr (Or.inr (Or.inr (Or.inl (key 14 q))))))))))))))))
    · exact Or.inr (Or.inr (Or.inr (Or.inr (Or.inr (Or.inr (Or.inr (Or.inr (Or.inr (Or.inr (Or.inr (Or.inr (Or.inr (Or.inr (Or.inr (Or.inr (Or.inl (key 15 q)))))))))))))))))
    · exact Or.inr (Or.inr (Or.inr (Or.inr (Or.inr (Or.inr (Or.inr (Or.inr (Or.inr (Or.inr (Or.inr (Or.inr (Or.inr (Or.inr (Or.inr (Or.inr (Or.inr (key 16 q)))))))))))))))))
theorem L_more {L i : Nat} (hL : L ≤ 3584) (hi : i ≤ 3584) : (Int32.ofNat L - 7 < nI i) ↔ L < i + 7 := by
  have e1 : (Int32.ofNat L).toInt = (L : Int) := nI_toInt (n := L) (by omega)
  have e2 : (nI i).toInt = (i : Int) := nI_toInt (by omega)
  have e3 : (7 : Int32).toInt = 7 := rfl
  have e4 : (Int32.ofNat L - 7).toInt = (L : Int) - 7 := by
    rw [t_sub (by rw [e1, e3]; omega) (by rw [e1, e3]; omega), e1, e3]
  rw [t_lt, e4, e2]
  omega
set_option maxHeartbeats 4000000 in
set_option maxRecDepth 100000 in
theorem law_loop {p : Program} {l : Launch} {e : Env} {s : State} {m : MethodId} {below : List Frame} {meth : Method} {c : Code} {b L : Nat} {xs : Nat → Int32} {E : GG} {A : Nat → Prop} (X : LawC p l s m c b L xs E A) (hr : meth.sig.returnType = ret) (hlocks : meth.locks = false) : ∀ (n j : Nat), j + n = 512 → LawN p l e s m below meth c b E A (lw_Z below #[Value.ref b] s) (7 * j) j := by
  obtain ⟨hx, hb, hml, hown, hts, hXs, hbl, hK, hX, hZ, hlt, hL, hA, hA2⟩ := id X
  have hbA : ¬ A b := fun h => absurd hbl (Nat.not_lt.mpr (hA2 b h))
  intro n
  induction n with
  | zero =>
    intro j hj H locs ls hs
    obtain ⟨r, z, v, f, k, V, F, B, C, q3, g, nw, rv, up, lo, m0, m1, hP, hD, hS, hl, hC⟩ := hs
    refine lv_iload hx hb dL_law_23 (lv_at hl 4 rfl) ?_
    refine lv_aload_n hx hb dL_law_25 rfl (lv_at hl 0 rfl) ?_
    refine va_slen hx hb hXs hbl hbA hS dL_law_26 ?_
    refine lv_bipush (v := 7) hx hb dL_law_27 (by decide) ?_
    refine lv_isub hx hb dL_law_29 ?_
    refine lv_icmp_gt (tgt := 880) hx hb dL_law_30 (by decide) (fun h => ?_) (fun h => ?_)
    · refine lv_iconst (v := 1) hx hb dL_law_880 (by decide) ?_
      refine va_forget (fun q hq => hA2 _ (hS.2.2 q hq)) ?_
      refine W.widen (k := 601024) (n := 7293034) (by omega) (by omega) ?_
      exact lw_ret hx hb hr hlocks dL_law_881
    · exact absurd ((L_more (i := 7 * j) hL (by omega)).mpr (by omega)) h
  | succ n ihn =>
    intro j hj H locs ls hs
    obtain ⟨r, z, v, f, k, V, F, B, C, q3, g, nw, rv, up, lo, m0, m1, hP, hD, hS, hl, hC⟩ := hs
    refine lv_iload hx hb dL_law_23 (lv_at hl 4 rfl) ?_
    refine lv_aload_n hx hb dL_law_25 rfl (lv_at hl 0 rfl) ?_
    refine va_slen hx hb hXs hbl hbA hS dL_law_26 ?_
    refine lv_bipush (v := 7) hx hb dL_law_27 (by decide) ?_
    refine lv_isub hx hb dL_law_29 ?_
    refine lv_icmp_gt (tgt := 880) hx hb dL_law_30 (by decide) (fun h => ?_) (fun h => ?_)
    · refine lv_iconst (v := 1) hx hb dL_law_880 (by decide) ?_
      refine va_forget (fun q hq => hA2 _ (hS.2.2 q hq)) ?_
      refine W.widen (k := 601024) (n := 7293034) (by omega) (by omega) ?_
      exact lw_ret hx hb hr hlocks dL_law_881
    · have hi : 7 * j + 7 ≤ L := by
        refine Nat.not_lt.mp (fun q => h ((L_more (i := 7 * j) hL ?_).mpr q))
        omega
      have ih : LawN p l e s m below meth c b E A (lw_Z below #[Value.ref b] s) (7 * j + 7) (j + 1) := by
        have h9 := ihn (j + 1) (by omega)
        rw [show 7 * (j + 1) = 7 * j + 7 by omega] at h9
        exact h9
      refine lv_aload_n hx hb dL_law_33 rfl (lv_at hl 0 rfl) ?_
      refine lv_iload hx hb dL_law_34 (lv_at hl 4 rfl) ?_
      refine va_sld (i := nI (7 * j)) hx hb hXs hbl hbA hS (vp_in_nI (by omega) (by omega)) dL_law_36 ?_
      refine lv_bipush (v := 31) hx hb dL_law_37 (by decide) ?_
      refine lv_iand hx hb dL_law_39 ?_
      generalize xs (nI (7 * j)).toNatClampNeg &&& 31 = x
      rcases sw16 x with hsw | rfl | rfl | rfl | rfl | rfl | rfl | rfl | rfl | rfl | rfl | rfl | rfl | rfl | rfl | rfl | rfl | rfl
      · refine lv_tableOut (tgt := 874) hx hb dL_law_40 hsw (by decide) ?_
        exact L_next X ih (by omega) (by omega) hP hD hS hl hC
      · refine lv_tableIn (off := 84) (tgt := 124) hx hb dL_law_40 (by decide) (by decide) rfl (by decide) ?_
        exact Lc_0 X hi (by omega) ih hP hD hS hl hC
      · refine lv_tableIn (off := 145) (tgt := 185) hx hb dL_law_40 (by decide) (by decide) rfl (by decide) ?_
        exact Lc_1 X hi (by omega) ih hP hD hS hl hC
      · refine lv_tableIn (off := 182) (tgt := 222) hx hb dL_law_40 (by decide) (by decide) rfl (by decide) ?_
        exact Lc_2 X hi (by omega) ih hP hD hS hl hC
      · refine lv_tableIn (off := 231) (tgt := 271) hx hb dL_law_40 (by decide) (by decide) rfl (by decide) ?_
        exact Lc_3 X hi (by omega) ih hP hD hS hl hC
      · refine lv_tableIn (off := 318) (tgt := 358) hx hb dL_law_40 (by decide) (by decide) rfl (by decide) ?_
        exact Lc_4 X hi (by omega) ih hP hD hS hl hC
      · refine lv_tableIn (off := 395) (tgt := 435) hx hb dL_law_40 (by decide) (by decide) rfl (by decide) ?_
        exact Lc_5 X hi (by omega) ih hP hD hS hl hC
      · refine lv_tableIn (off := 432) (tgt := 472) hx hb dL_law_40 (by decide) (by decide) rfl (by decide) ?_
        exact Lc_6 X hi (by omega) ih hP hD hS hl hC
      · refine lv_tableIn (off := 481) (tgt := 521) hx hb dL_law_40 (by decide) (by decide) rfl (by decide) ?_
        exact Lc_7 X hi (by omega) ih hP hD hS hl hC
      · refine lv_tableIn (off := 530) (tgt := 570) hx hb dL_law_40 (by decide) (by decide) rfl (by decide) ?_
        exact Lc_8 X hi (by omega) ih hP hD hS hl hC
      · refine lv_tableIn (off := 555) (tgt := 595) hx hb dL_law_40 (by decide) (by decide) rfl (by decide) ?_
        exact Lc_9 X hi (by omega) ih hP hD hS hl hC
      · refine lv_tableIn (off := 580) (tgt := 620) hx hb dL_law_40 (by decide) (by decide) rfl (by decide) ?_
        exact Lc_10 X hi (by omega) ih hP hD hS hl hC
      · refine lv_tableIn (off := 617) (tgt := 657) hx hb dL_law_40 (by decide) (by decide) rfl (by decide) ?_
        exact Lc_11 X hi (by omega) ih hP hD hS hl hC
      · refine lv_tableIn (off := 630) (tgt := 670) hx hb dL_law_40 (by decide) (by decide) rfl (by decide) ?_
        exact Lc_12 X hi (by omega) ih hP hD hS hl hC
      · refine lv_tableIn (off := 667) (tgt := 707) hx hb dL_law_40 (by decide) (by decide) rfl (by decide) ?_
        exact Lc_13 X hi (by omega) ih hP hD hS hl hC
      · refine lv_tableIn (off := 692) (tgt := 732) hx hb dL_law_40 (by decide) (by decide) rfl (by decide) ?_
        exact Lc_14 X hi (by omega) ih hP hD hS hl hC
      · refine lv_tableIn (off := 772) (tgt := 812) hx hb dL_law_40 (by decide) (by decide) rfl (by decide) ?_
        exact Lc_15 X hi (by omega) ih hP hD hS hl hC
      · refine lv_tableIn (off := 809) (tgt := 849) hx hb dL_law_40 (by decide) (by decide) rfl (by decide) ?_
        exact Lc_16 X hi (by omega) ih hP hD hS hl hC
