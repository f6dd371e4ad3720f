/-- one outlook and what it reads of the doings -/
abbrev PW (E : GG) (q r : Nat → Nat) (sc : Int32) (pr va be ch : Nat → Int32) (f : Nat → Nat → Int32) : va_W := [(q 0, .inr (3, [.ref (q 1), .int sc, .ref (q 2), .ref (q 3), .ref (q 4)])), (q 1, .inl (E.2 0, 24, .inl pr)), (q 2, .inl (E.2 0, 369, .inl va)), (q 3, .inl (E.2 0, 369, .inl be)), (q 4, .inl (E.2 0, 369, .inl ch)), (r 4, .inr (0, [.ref (r 1), .ref (r 2), .ref (r 3), .ref (r 18), .ref (r 19), .ref (r 20), .ref (r 21), .ref (r 22), .ref (r 23)])), (r 18, .inl (E.2 0, 216, .inl (f 18))), (r 19, .inl (E.2 0, 216, .inl (f 19))), (r 21, .inl (E.2 0, 216, .inl (f 21))), (r 22, .inl (E.2 0, 216, .inl (f 22))), (r 23, .inl (E.2 0, 81, .inl (f 23)))]
/-- a doing is open at a level; what must be known of the rows -/
def opn (f : Nat → Nat → Int32) (h d L : Nat) : Prop := ¬ nI L < f 21 (h * 9 + d) ∧ ¬ f 22 (h * 9 + d) < nI L
def opOK (f : Nat → Nat → Int32) (h d : Nat) : Prop := ¬ f 21 (h * 9 + d) < 0 ∧ (f 22 (h * 9 + d)).toInt ≤ 40 ∧ ∀ L : Nat, L ≤ 40 → opn f h d L → ∃ k : Nat, k ≤ 40 ∧ nI L + f 19 (h * 9 + d) = nI k
def tTo (f : Nat → Nat → Int32) (h d L : Nat) : Nat := (nI L + f 19 (h * 9 + d)).toNatClampNeg
theorem tTo_ok {f : Nat → Nat → Int32} {h d L : Nat} (ho : opOK f h d) (hL : L ≤ 40) (hp : opn f h d L) : nI L + f 19 (h * 9 + d) = nI (tTo f h d L) ∧ tTo f h d L ≤ 40 := by
  obtain ⟨k, hk, e⟩ := ho.2.2 L hL hp
  rw [tTo, e, nI_clamp (by omega)]
  exact ⟨rfl, hk⟩
abbrev I2 : Type := Int32 × Int32
/-- what a state has behind a try of doing d from modes m -/
noncomputable def tP (f : Nat → Nat → Int32) (h d m : Nat) (mon : Int32) (be : Nat → Int32) (j : Nat) (x : I2) : I2 := cI (j < 369 ∧ j % 9 = m ∧ opn f h d (j / 9) ∧ ¬ be (tTo f h d (j / 9) * 9 + d) = nev ∧ x.1 < mon + be (tTo f h d (j / 9) * 9 + d)) (mon + be (tTo f h d (j / 9) * 9 + d), nI d) x
noncomputable def tN (f : Nat → Nat → Int32) (h d m : Nat) (mon : Int32) (be va ch : Nat → Int32) (n j : Nat) : I2 := cI (j / 9 < n) (tP f h d m mon be j (va j, ch j)) (va j, ch j)
noncomputable def tNv (f : Nat → Nat → Int32) (h d m : Nat) (mon : Int32) (be va ch : Nat → Int32) (n : Nat) : Nat → Int32 := fun j => (tN f h d m mon be va ch n j).1
noncomputable def tNc (f : Nat → Nat → Int32) (h d m : Nat) (mon : Int32) (be va ch : Nat → Int32) (n : Nat) : Nat → Int32 := fun j => (tN f h d m mon be va ch n j).2
theorem tN_lo {f : Nat → Nat → Int32} {h d m : Nat} {mon : Int32} {be va ch : Nat → Int32} {lo : Nat} (e : f 21 (h * 9 + d) = nI lo) (hlo : lo < 2 ^ 31) (j : Nat) : tN f h d m mon be va ch lo j = (va j, ch j) := by
  by_cases h1 : j / 9 < lo
  · rw [tN, cI_t h1, tP, cI_f]
    intro z
    exact z.2.2.1.1 (by rw [e]; exact (nI_ltI (by omega) hlo).mpr h1)
  · rw [tN, cI_f h1]
theorem tN_hi {f : Nat → Nat → Int32} {h d m : Nat} {mon : Int32} {be va ch : Nat → Int32} {n : Nat} (e : f 22 (h * 9 + d) < nI n) (hn : n < 2 ^ 31) (j : Nat) : tN f h d m mon be va ch n j = tP f h d m mon be j (va j, ch j) := by
  by_cases h1 : j / 9 < n
  · rw [tN, cI_t h1]
  · rw [tN, cI_f h1, tP, cI_f]
    intro z
    have z1 := z.1
    refine z.2.2.1.2 (Int32.lt_iff_toInt_lt.mpr ?_)
    have k := Int32.lt_iff_toInt_lt.mp e
    rw [nI_toInt hn] at k
    rw [nI_toInt (by omega)]
    omega
theorem tNv_0 {f : Nat → Nat → Int32} {h d m : Nat} {mon : Int32} {be va ch : Nat → Int32} {lo : Nat} (e : f 21 (h * 9 + d) = nI lo) (hlo : lo < 2 ^ 31) : tNv f h d m mon be va ch lo = va := funext fun j => by rw [tNv, tN_lo e hlo]
theorem tNc_0 {f : Nat → Nat → Int32} {h d m : Nat} {mon : Int32} {be va ch : Nat → Int32} {lo : Nat} (e : f 21 (h * 9 + d) = nI lo) (hlo : lo < 2 ^ 31) : tNc f h d m mon be va ch lo = ch := funext fun j => by rw [tNc, tN_lo e hlo]
theorem tN_skip {f : Nat → Nat → Int32} {h d m : Nat} {mon : Int32} {be va ch : Nat → Int32} {n : Nat} (hm : m < 9) (hs : ¬ (¬ be (tTo f h d n * 9 + d) = nev ∧ va (n * 9 + m) < mon + be (tTo f h d n * 9 + d))) (j : Nat) : tN f h d m mon be va ch n j = tN f h d m mon be va ch (n + 1) j := by
  by_cases h1 : j / 9 < n
  · rw [tN, tN, cI_t h1, cI_t (by omega)]
  · by_cases h2 : j / 9 < n + 1
    · have e : j / 9 = n := by omega
      rw [tN, tN, cI_f h1, cI_t h2, tP, cI_f]
      intro z
      rw [e] at z
      refine hs ⟨z.2.2.2.1, ?_⟩
      have z2 := z.2.1
      rw [show n * 9 + m = j by omega]
      exact z.2.2.2.2
    · rw [tN, tN, cI_f h1, cI_f h2]
theorem tNv_skip {f : Nat → Nat → Int32} {h d m : Nat} {mon : Int32} {be va ch : Nat → Int32} {n : Nat} (hm : m < 9) (hs : ¬ (¬ be (tTo f h d n * 9 + d) = nev ∧ va (n * 9 + m) < mon + be (tTo f h d n * 9 + d))) : tNv f h d m mon be va ch n = tNv f h d m mon be va ch (n + 1) := funext fun j => by rw [tNv, tNv, tN_skip hm hs]
theorem tNc_skip {f : Nat → Nat → Int32} {h d m : Nat} {mon : Int32} {be va ch : Nat → Int32} {n : Nat} (hm : m < 9) (hs : ¬ (¬ be (tTo f h d n * 9 + d) = nev ∧ va (n * 9 + m) < mon + be (tTo f h d n * 9 + d))) : tNc f h d m mon be va ch n = tNc f h d m mon be va ch (n + 1) := funext fun j => by rw [tNc, tNc, tN_skip hm hs]
theorem tN_at {f : Nat → Nat → Int32} {h d m : Nat} {mon : Int32} {be va ch : Nat → Int32} {n : Nat} (hm : m < 9) : tNv f h d m mon be va ch n (n * 9 + m) = va (n * 9 + m) := by
  rw [tNv, tN, cI_f (by omega)]
theorem tN_set {f : Nat → Nat → Int32} {h d m : Nat} {mon : Int32} {be va ch : Nat → Int32} {n : Nat} (hm : m < 9) (hn : n ≤ 40) (ho : opn f h d n) (h1 : ¬ be (tTo f h d n * 9 + d) = nev) (h2 : va (n * 9 + m) < mon + be (tTo f h d n * 9 + d)) (j : Nat) : tN f h d m mon be va ch (n + 1) j = if j = n * 9 + m then (mon + be (tTo f h d n * 9 + d), nI d) else tN f h d m mon be va ch n j := by
  by_cases e : j = n * 9 + m
  · rw [if_pos e, tN, cI_t (by omega), tP]
    have e9 : j / 9 = n := by omega
    have em : j % 9 = m := by omega
    rw [e9, cI_t ⟨by omega, em, ho, h1, by rw [e]; exact h2⟩]
  · rw [if_neg e]
    by_cases k1 : j / 9 < n
    · rw [tN, tN, cI_t k1, cI_t (by omega)]
    · by_cases k2 : j / 9 < n + 1
      · rw [tN, tN, cI_f k1, cI_t k2, tP, cI_f]
        intro z
        have z2 := z.2.1
        omega
      · rw [tN, tN, cI_f k1, cI_f k2]
theorem tNv_set {f : Nat → Nat → Int32} {h d m : Nat} {mon : Int32} {be va ch : Nat → Int32} {n : Nat} (hm : m < 9) (hn : n ≤ 40) (ho : opn f h d n) (h1 : ¬ be (tTo f h d n * 9 + d) = nev) (h2 : va (n * 9 + m) < mon + be (tTo f h d n * 9 + d)) : upd (tNv f h d m mon be va ch n) (n * 9 + m) (mon + be (tTo f h d n * 9 + d)) = tNv f h d m mon be va ch (n + 1) := by
  funext j
  show (if j = n * 9 + m then _ else tNv f h d m mon be va ch n j) = tNv f h d m mon be va ch (n + 1) j
  rw [tNv, tNv, tN_set hm hn ho h1 h2]
  by_cases e : j = n * 9 + m
  · rw [if_pos e, if_pos e]
  · rw [if_neg e, if_neg e]
theorem tNc_set {f : Nat → Nat → Int32} {h d m : Nat} {mon : Int32} {be va ch : Nat → Int32} {n : Nat} (hm : m < 9) (hn : n ≤ 40) (ho : opn f h d n) (h1 : ¬ be (tTo f h d n * 9 + d) = nev) (h2 : va (n * 9 + m) < mon + be (tTo f h d n * 9 + d)) : upd (tNc f h d m mon be va ch n) (n * 9 + m) (nI d) = tNc f h d m mon be va ch (n + 1) := by
  funext j
  show (if j = n * 9 + m then _ else tNc f h d m mon be va ch n j) = tNc f h d m mon be va ch (n + 1) j
  rw [tNc, tNc, tN_set hm hn ho h1 h2]
  by_cases e : j = n * 9 + m
  · rw [if_pos e, if_pos e]
  · rw [if_neg e, if_neg e]
theorem le40 {x : Int32} {n : Nat} (h : ¬ x < nI n) (hx : x.toInt ≤ 40) (hn : n < 2 ^ 31) : n ≤ 40 := by
  have k := Int32_ge h
  rw [nI_toInt hn] at k
  omega
theorem n_le {x : Int32} {a n : Nat} (e : x = nI a) (h : a ≤ n) (ha : a < 2 ^ 31) (hn : n < 2 ^ 31) : ¬ nI n < x := by
  rw [e]
  intro z
  have k := (nI_ltI hn ha).mp z
  omega
theorem not_lt_le {x y : Int32} (h : x ≤ y) : ¬ y < x := by
  intro z
  have h1 := Int32.le_iff_toInt_le.mp h
  have h2 := Int32.lt_iff_toInt_lt.mp z
  omega
theorem lt_of_nle {x y : Int32} (h : ¬ x ≤ y) : y < x := by
  rcases Int.lt_or_le y.toInt x.toInt with q | q
  · exact Int32.lt_iff_toInt_lt.mpr q
  · exact absurd (Int32.le_iff_toInt_le.mpr q) h
set_option maxHeartbeats 4000000 in
set_option maxRecDepth 100000 in
theorem c_X3_tryAtAllLevels (l : Launch) (E : GG) (q r : Nat → Nat) (sc : Int32) (pr va be ch : Nat → Int32) (f : Nat → Nat → Int32) (sz : Nat) (h : Nat) (d : Nat) (m1 : Nat) (mon : Int32) (hh : h < 24) (hd : d < 9) (hm : m1 < 9) (hop : opOK f h d) : Met l yX3_tryAtAllLevels wsX3_tryAtAllLevels (Rm 0 0 0) (pM E [.ref (q 0), .ref (r 4), .int (nI h), .int (nI d), .int (nI m1), .int mon] (PW E q r sc pr va be ch f) sz) (va_Qv (fun (u : (Nat → Int32) × (Nat → Int32)) => u.1 = (fun j => (tP f h d m1 mon be j (va j, ch j)).1) ∧ u.2 = (fun j => (tP f h d m1 mon be j (va j, ch j)).2)) (bM E (va_A (PW E q r sc pr va be ch f) sz) (fun (u : (Nat → Int32) × (Nat → Int32)) => PW E q r sc pr u.1 be u.2 f)) (va_A (PW E q r sc pr va be ch f) sz)) 0 0 (va_A (PW E q r sc pr va be ch f) sz) := by
  refine ofM (by decide) rfl (Nat.le_of_ble_eq_true rfl) ?_
  intro p e s m below meth c A hx hb hr hlocks hml hown hin hts hK hP hD hS hA hsz hAe ls hl
  rw [← hAe]
  have hl : lv_has ls 11 [(0, .ref (q 0)), (1, .ref (r 4)), (2, .int (nI h)), (3, .int (nI d)), (4, .int (nI m1)), (5, .int mon)] := hl
  obtain ⟨lo, hlo, elo⟩ := nI_of (x := f 21 (h * 9 + d)) hop.1
  refine lv_aload_n hx hb dX3_tryAtAllLevels_0 rfl (lv_at hl 1 rfl) ?_
  refine va_getN (D := E.1) (ci := 0) (v := .ref (r 19)) (C := RX0) (T := TX0) (N := 9) (host := "TwoLakes") (ref := RX0) hx hb hts (fun _ h => (List.mem_cons_of_mem _ (List.mem_append_left _ (List.mem_append_right _ h)))) hown hK.1 hP 5 rfl rfl 4 (by decide) (va_Nw.use rfl (hK.2.1 (RX3, 51, RX0, "upperShift", "[I") (List.mem_of_getElem? (i := 25) rfl))) (fun _ h9 => h9) rfl dX3_tryAtAllLevels_1 ?_
  refine lv_iload_n hx hb dX3_tryAtAllLevels_4 rfl (lv_at hl 2 rfl) ?_
  refine lv_bipush (v := 9) hx hb dX3_tryAtAllLevels_5 (by decide) ?_
  refine lv_imul hx hb dX3_tryAtAllLevels_7 ?_
  refine w_top (show ((nI h) * 9) = (nI (h * 9)) from pk_mul _ _) ?_
  refine lv_iload_n hx hb dX3_tryAtAllLevels_8 rfl (lv_at hl 3 rfl) ?_
  refine lv_iadd hx hb dX3_tryAtAllLevels_9 ?_
  refine w_top (show ((nI (h * 9)) + (nI d)) = (nI ((h * 9) + d)) from nI_add _ _) ?_
  refine n_iald (f := f 19) hx hb hK.1 hP 7 0 rfl rfl (i := (h * 9) + d) (by omega) (by decide) dX3_tryAtAllLevels_10 ?_
  refine lv_istore (lv' := [(6, .int (f 19 ((h * 9) + d))), (0, .ref (q 0)), (1, .ref (r 4)), (2, .int (nI h)), (3, .int (nI d)), (4, .int (nI m1)), (5, .int mon)]) hx hb dX3_tryAtAllLevels_11 hl (by decide) rfl (fun ls hl => ?_)
  refine lv_aload_n hx hb dX3_tryAtAllLevels_13 rfl (lv_at hl 2 rfl) ?_
  refine va_getN (D := E.1) (ci := 0) (v := .ref (r 22)) (C := RX0) (T := TX0) (N := 9) (host := "TwoLakes") (ref := RX0) hx hb hts (fun _ h => (List.mem_cons_of_mem _ (List.mem_append_left _ (List.mem_append_right _ h)))) hown hK.1 hP 5 rfl rfl 7 (by decide) (va_Nw.use rfl (hK.2.1 (RX3, 54, RX0, "highest", "[I") (List.mem_of_getElem? (i := 29) rfl))) (fun _ h9 => h9) rfl dX3_tryAtAllLevels_14 ?_
  refine lv_iload_n hx hb dX3_tryAtAllLevels_17 rfl (lv_at hl 3 rfl) ?_
  refine lv_bipush (v := 9) hx hb dX3_tryAtAllLevels_18 (by decide) ?_
  refine lv_imul hx hb dX3_tryAtAllLevels_20 ?_
  refine w_top (show ((nI h) * 9) = (nI (h * 9)) from pk_mul _ _) ?_
  refine lv_iload_n hx hb dX3_tryAtAllLevels_21 rfl (lv_at hl 4 rfl) ?_
  refine lv_iadd hx hb dX3_tryAtAllLevels_22 ?_
  refine w_top (show ((nI (h * 9)) + (nI d)) = (nI ((h * 9) + d)) from nI_add _ _) ?_
  refine n_iald (f := f 22) hx hb hK.1 hP 9 0 rfl rfl (i := (h * 9) + d) (by omega) (by decide) dX3_tryAtAllLevels_23 ?_
  refine lv_istore (lv' := [(7, .int (f 22 ((h * 9) + d))), (6, .int (f 19 ((h * 9) + d))), (0, .ref (q 0)), (1, .ref (r 4)), (2, .int (nI h)), (3, .int (nI d)), (4, .int (nI m1)), (5, .int mon)]) hx hb dX3_tryAtAllLevels_24 hl (by decide) rfl (fun ls hl => ?_)
  refine lv_aload_n hx hb dX3_tryAtAllLevels_26 rfl (lv_at hl 3 rfl) ?_
  refine va_getN (D := E.1) (ci := 0) (v := .ref (r 21)) (C := RX0) (T := TX0) (N := 9) (host := "TwoLakes") (ref := RX0) hx hb hts (fun _ h => (List.mem_cons_of_mem _ (List.mem_append_left _ (List.mem_append_right _ h)))) hown hK.1 hP 5 rfl rfl 6 (by decide) (va_Nw.use rfl (hK.2.1 (RX3, 57, RX0, "lowest", "[I") (List.mem_of_getElem? (i := 28) rfl))) (fun _ h9 => h9) rfl dX3_tryAtAllLevels_27 ?_
  refine lv_iload_n hx hb dX3_tryAtAllLevels_30 rfl (lv_at hl 4 rfl) ?_
  refine lv_bipush (v := 9) hx hb dX3_tryAtAllLevels_31 (by decide) ?_
  refine lv_imul hx hb dX3_tryAtAllLevels_33 ?_
  refine w_top (show ((nI h) * 9) = (nI (h * 9)) from pk_mul _ _) ?_
  refine lv_iload_n hx hb dX3_tryAtAllLevels_34 rfl (lv_at hl 5 rfl) ?_
  refine lv_iadd hx hb dX3_tryAtAllLevels_35 ?_
  refine w_top (show ((nI (h * 9)) + (nI d)) = (nI ((h * 9) + d)) from nI_add _ _) ?_
  refine n_iald (f := f 21) hx hb hK.1 hP 8 0 rfl rfl (i := (h * 9) + d) (by omega) (by decide) dX3_tryAtAllLevels_36 ?_
  refine w_top (show f 21 (h * 9 + d) = nI lo from elo) ?_
  refine lv_istore (lv' := [(8, .int (nI lo)), (7, .int (f 22 ((h * 9) + d))), (6, .int (f 19 ((h * 9) + d))), (0, .ref (q 0)), (1, .ref (r 4)), (2, .int (nI h)), (3, .int (nI d)), (4, .int (nI m1)), (5, .int mon)]) hx hb dX3_tryAtAllLevels_37 hl (by decide) rfl (fun ls hl => ?_)
  have hP : va_P E.1 vwCl (PW E q r sc pr (tNv f h d m1 mon be va ch lo) be (tNc f h d m1 mon be va ch lo) f) s.heap := by rw [tNv_0 elo hlo, tNc_0 elo hlo]; exact hP
  have hD : va_D A (PW E q r sc pr (tNv f h d m1 mon be va ch lo) be (tNc f h d m1 mon be va ch lo) f) := by rw [tNv_0 elo hlo, tNc_0 elo hlo]; exact hD
  refine w_while (σ := Heap × List Loc × Array Slot × Nat) (fun ⟨H, locs, ls, L⟩ => 41 - L) (fun ⟨H, locs, ls, L⟩ => va_P E.1 vwCl (PW E q r sc pr (tNv f h d m1 mon be va ch L) be (tNc f h d m1 mon be va ch L) f) H ∧ va_D A (PW E q r sc pr (tNv f h d m1 mon be va ch L) be (tNc f h d m1 mon be va ch L) f) ∧ va_S A s.heap H locs ∧ lv_has ls 11 [(0, .ref (q 0)), (1, .ref (r 4)), (2, .int (nI h)), (3, .int (nI d)), (4, .int (nI m1)), (5, .int mon), (6, .int (f 19 (h * 9 + d))), (7, .int (f 22 (h * 9 + d))), (8, .int (nI L))] ∧ lo ≤ L ∧ L < 2 ^ 31) (fun ⟨H, locs, ls, L⟩ => H) (fun ⟨H, locs, ls, L⟩ => locs) (fun ⟨H, locs, ls, L⟩ => F0 m 39 ls []) ?_ (s.heap, [], ls, lo) ⟨hP, hD, hS, lv_sub hl [3, 4, 5, 6, 7, 8, 2, 1, 0] rfl, Nat.le_refl _, hlo⟩
  rintro ⟨H, locs, ls, L⟩ ⟨hP, hD, hS, hl, hL, hL2⟩ ih39
  dsimp only at hP hD hS hl ⊢
  refine lv_iload hx hb dX3_tryAtAllLevels_39 (lv_at hl 8 rfl) ?_
  refine lv_iload hx hb dX3_tryAtAllLevels_41 (lv_at hl 7 rfl) ?_
  refine lv_icmp_gt (tgt := 121) hx hb dX3_tryAtAllLevels_43 (by decide) (fun c_1 => ?_) (fun c_1 => ?_)
  · skip
    exact qv_ret ((tNv f h d m1 mon be va ch L, tNc f h d m1 mon be va ch L) : (Nat → Int32) × (Nat → Int32)) hx hb hr hlocks ⟨funext fun j => congrArg Prod.fst (tN_hi c_1 hL2 j), funext fun j => congrArg Prod.snd (tN_hi c_1 hL2 j)⟩ hP hD hS dX3_tryAtAllLevels_121
  · skip
    have hL40 := le40 c_1 hop.2.1 hL2
    have hpn : opn f h d L := ⟨n_le elo hL hlo hL2, c_1⟩
    obtain ⟨eto, hto⟩ := tTo_ok hop hL40 hpn
    refine lv_aload_n hx hb dX3_tryAtAllLevels_46 rfl (lv_at hl 0 rfl) ?_
    refine va_get (D := E.1) (ci := 3) (v := .ref (q 3)) (C := RX3) (T := TX3) (N := 5) hx hb hts (fun _ h => (List.mem_cons_of_mem _ (List.mem_append_right _ h))) hown hK.1 hP 0 rfl rfl 3 (by decide) (hts _ (List.mem_of_getElem? (i := 1) rfl)) (fun _ h9 => h9) rfl dX3_tryAtAllLevels_47 ?_
    refine lv_iload hx hb dX3_tryAtAllLevels_50 (lv_at hl 8 rfl) ?_
    refine lv_iload hx hb dX3_tryAtAllLevels_52 (lv_at hl 6 rfl) ?_
    refine lv_iadd hx hb dX3_tryAtAllLevels_54 ?_
    refine w_top (show ((nI L) + (f 19 (h * 9 + d))) = (nI (tTo f h d L)) from eto) ?_
    refine lv_bipush (v := 9) hx hb dX3_tryAtAllLevels_55 (by decide) ?_
    refine lv_imul hx hb dX3_tryAtAllLevels_57 ?_
    refine w_top (show ((nI (tTo f h d L)) * 9) = (nI ((tTo f h d L) * 9)) from pk_mul _ _) ?_
    refine lv_iload_n hx hb dX3_tryAtAllLevels_58 rfl (lv_at hl 3 rfl) ?_
    refine lv_iadd hx hb dX3_tryAtAllLevels_59 ?_
    refine w_top (show ((nI ((tTo f h d L) * 9)) + (nI d)) = (nI (((tTo f h d L) * 9) + d)) from nI_add _ _) ?_
    refine n_iald (f := be) hx hb hK.1 hP 3 0 rfl rfl (i := ((tTo f h d L) * 9) + d) (by omega) (by decide) dX3_tryAtAllLevels_60 ?_
    refine lv_istore (lv' := [(9, .int (be (((tTo f h d L) * 9) + d))), (0, .ref (q 0)), (1, .ref (r 4)), (2, .int (nI h)), (3, .int (nI d)), (4, .int (nI m1)), (5, .int mon), (6, .int (f 19 (h * 9 + d))), (7, .int (f 22 (h * 9 + d))), (8, .int (nI L))]) hx hb dX3_tryAtAllLevels_61 hl (by decide) rfl (fun ls hl => ?_)
    refine lv_iload hx hb dX3_tryAtAllLevels_63 (lv_at hl 9 rfl) ?_
    refine lv_bipush (v := 9) hx hb dX3_tryAtAllLevels_65 (by decide) ?_
    refine lv_imul hx hb dX3_tryAtAllLevels_67 ?_
    refine w_top (show ((nI L) * 9) = (nI (L * 9)) from pk_mul _ _) ?_
    refine lv_iload hx hb dX3_tryAtAllLevels_68 (lv_at hl 5 rfl) ?_
    refine lv_iadd hx hb dX3_tryAtAllLevels_70 ?_
    refine w_top (show ((nI (L * 9)) + (nI m1)) = (nI ((L * 9) + m1)) from nI_add _ _) ?_
    refine lv_istore (lv' := [(10, .int (nI ((L * 9) + m1))), (9, .int (be (((tTo f h d L) * 9) + d))), (0, .ref (q 0)), (1, .ref (r 4)), (2, .int (nI h)), (3, .int (nI d)), (4, .int (nI m1)), (5, .int mon), (6, .int (f 19 (h * 9 + d))), (7, .int (f 22 (h * 9 + d))), (8, .int (nI L))]) hx hb dX3_tryAtAllLevels_71 hl (by decide) rfl (fun ls hl => ?_)
    refine lv_iload hx hb dX3_tryAtAllLevels_73 (lv_at hl 1 rfl) ?_
    refine lv_ldc hx hb hown (hts _ (List.mem_of_getElem? (i := 2) rfl)) dX3_tryAtAllLevels_75 ?_
    refine lv_icmp_eq (tgt := 115) hx hb dX3_tryAtAllLevels_77 (by decide) (fun c_2 => ?_) (fun c_2 => ?_)
    · skip
      refine lv_iinc (v := (nI (L + 1))) (lv' := [(8, .int (nI (L + 1))), (10, .int (nI ((L * 9) + m1))), (9, .int (be (((tTo f h d L) * 9) + d))), (0, .ref (q 0)), (1, .ref (r 4)), (2, .int (nI h)), (3, .int (nI d)), (4, .int (nI m1)), (5, .int mon), (6, .int (f 19 (h * 9 + d))), (7, .int (f 22 (h * 9 + d)))]) hx hb dX3_tryAtAllLevels_115 hl (k := 10) rfl (nI_1 _) (by decide) rfl (fun ls hl => ?_)
      refine lv_goto (tgt := 39) hx hb dX3_tryAtAllLevels_118 (by decide) ?_
      rw [tNv_skip hm (fun z => z.1 c_2), tNc_skip hm (fun z => z.1 c_2)] at hP hD
      exact ih39 (H, locs, ls, L + 1) ⟨hP, hD, hS, lv_sub hl [3, 4, 5, 6, 7, 8, 9, 10, 0] rfl, by omega, by omega⟩ (by dsimp only; omega)
    · skip
      refine lv_iload hx hb dX3_tryAtAllLevels_80 (lv_at hl 7 rfl) ?_
      refine lv_iload hx hb dX3_tryAtAllLevels_82 (lv_at hl 1 rfl) ?_
      refine lv_iadd hx hb dX3_tryAtAllLevels_84 ?_
      refine lv_aload_n hx hb dX3_tryAtAllLevels_85 rfl (lv_at hl 2 rfl) ?_
      refine va_get (D := E.1) (ci := 3) (v := .ref (q 2)) (C := RX3) (T := TX3) (N := 5) hx hb hts (fun _ h => (List.mem_cons_of_mem _ (List.mem_append_right _ h))) hown hK.1 hP 0 rfl rfl 2 (by decide) (hts _ (List.mem_of_getElem? (i := 3) rfl)) (fun _ h9 => h9) rfl dX3_tryAtAllLevels_86 ?_
      refine lv_iload hx hb dX3_tryAtAllLevels_89 (lv_at hl 0 rfl) ?_
      refine n_iald (f := tNv f h d m1 mon be va ch L) hx hb hK.1 hP 2 0 rfl rfl (i := (L * 9) + m1) (by omega) (by decide) dX3_tryAtAllLevels_91 ?_
      refine w_top (show (tNv f h d m1 mon be va ch L ((L * 9) + m1)) = (va (L * 9 + m1)) from (tN_at hm)) ?_
      refine lv_icmp_le (tgt := 115) hx hb dX3_tryAtAllLevels_92 (by decide) (fun c_3 => ?_) (fun c_3 => ?_)
      · skip
        refine lv_iinc (v := (nI (L + 1))) (lv' := [(8, .int (nI (L + 1))), (10, .int (nI ((L * 9) + m1))), (9, .int (be (((tTo f h d L) * 9) + d))), (0, .ref (q 0)), (1, .ref (r 4)), (2, .int (nI h)), (3, .int (nI d)), (4, .int (nI m1)), (5, .int mon), (6, .int (f 19 (h * 9 + d))), (7, .int (f 22 (h * 9 + d)))]) hx hb dX3_tryAtAllLevels_115 hl (k := 10) rfl (nI_1 _) (by decide) rfl (fun ls hl => ?_)
        refine lv_goto (tgt := 39) hx hb dX3_tryAtAllLevels_118 (by decide) ?_
        rw [tNv_skip hm (fun z => absurd z.2 (not_lt_le c_3)), tNc_skip hm (fun z => absurd z.2 (not_lt_le c_3))] at hP hD
        exact ih39 (H, locs, ls, L + 1) ⟨hP, hD, hS, lv_sub hl [3, 4, 5, 6, 7, 8, 9, 10, 0] rfl, by omega, by omega⟩ (by dsimp only; omega)
      · skip
        refine lv_aload_n hx hb dX3_tryAtAllLevels_95 rfl (lv_at hl 2 rfl) ?_
        refine va_get (D := E.1) (ci := 3) (v := .ref (q 2)) (C := RX3) (T := TX3) (N := 5) hx hb hts (fun _ h => (List.mem_cons_of_mem _ (List.mem_append_right _ h))) hown hK.1 hP 0 rfl rfl 2 (by decide) (hts _ (List.mem_of_getElem? (i := 3) rfl)) (fun _ h9 => h9) rfl dX3_tryAtAllLevels_96 ?_
        refine lv_iload hx hb dX3_tryAtAllLevels_99 (lv_at hl 0 rfl) ?_
        refine lv_iload hx hb dX3_tryAtAllLevels_101 (lv_at hl 7 rfl) ?_
        refine lv_iload hx hb dX3_tryAtAllLevels_103 (lv_at hl 1 rfl) ?_
        refine lv_iadd hx hb dX3_tryAtAllLevels_105 ?_
        refine n_iast (f := tNv f h d m1 mon be va ch L) hx hb hK.1 hP hD hS 2 0 rfl rfl (i := (L * 9) + m1) (by omega) (by decide) dX3_tryAtAllLevels_106 (fun H locs hP hD hS => ?_)
        have hP : va_P E.1 vwCl (PW E q r sc pr (upd (tNv f h d m1 mon be va ch L) ((L * 9) + m1) (mon + (be (((tTo f h d L) * 9) + d)))) be (tNc f h d m1 mon be va ch L) f) H := hP
        have hD : va_D A (PW E q r sc pr (upd (tNv f h d m1 mon be va ch L) ((L * 9) + m1) (mon + (be (((tTo f h d L) * 9) + d)))) be (tNc f h d m1 mon be va ch L) f) := hD
        refine lv_aload_n hx hb dX3_tryAtAllLevels_107 rfl (lv_at hl 2 rfl) ?_
        refine va_get (D := E.1) (ci := 3) (v := .ref (q 4)) (C := RX3) (T := TX3) (N := 5) hx hb hts (fun _ h => (List.mem_cons_of_mem _ (List.mem_append_right _ h))) hown hK.1 hP 0 rfl rfl 4 (by decide) (hts _ (List.mem_of_getElem? (i := 4) rfl)) (fun _ h9 => h9) rfl dX3_tryAtAllLevels_108 ?_
        refine lv_iload hx hb dX3_tryAtAllLevels_111 (lv_at hl 0 rfl) ?_
        refine lv_iload_n hx hb dX3_tryAtAllLevels_113 rfl (lv_at hl 5 rfl) ?_
        refine n_iast (f := tNc f h d m1 mon be va ch L) hx hb hK.1 hP hD hS 4 0 rfl rfl (i := (L * 9) + m1) (by omega) (by decide) dX3_tryAtAllLevels_114 (fun H locs hP hD hS => ?_)
        have hP : va_P E.1 vwCl (PW E q r sc pr (upd (tNv f h d m1 mon be va ch L) ((L * 9) + m1) (mon + (be (((tTo f h d L) * 9) + d)))) be (upd (tNc f h d m1 mon be va ch L) ((L * 9) + m1) (nI d)) f) H := hP
        have hD : va_D A (PW E q r sc pr (upd (tNv f h d m1 mon be va ch L) ((L * 9) + m1) (mon + (be (((tTo f h d L) * 9) + d)))) be (upd (tNc f h d m1 mon be va ch L) ((L * 9) + m1) (nI d)) f) := hD
        refine lv_iinc (v := (nI (L + 1))) (lv' := [(8, .int (nI (L + 1))), (10, .int (nI ((L * 9) + m1))), (9, .int (be (((tTo f h d L) * 9) + d))), (0, .ref (q 0)), (1, .ref (r 4)), (2, .int (nI h)), (3, .int (nI d)), (4, .int (nI m1)), (5, .int mon), (6, .int (f 19 (h * 9 + d))), (7, .int (f 22 (h * 9 + d)))]) hx hb dX3_tryAtAllLevels_115 hl (k := 10) rfl (nI_1 _) (by decide) rfl (fun ls hl => ?_)
        refine lv_goto (tgt := 39) hx hb dX3_tryAtAllLevels_118 (by decide) ?_
        rw [tNv_set hm hL40 hpn c_2 (lt_of_nle c_3), tNc_set hm hL40 hpn c_2 (lt_of_nle c_3)] at hP hD
        exact ih39 (H, locs, ls, L + 1) ⟨hP, hD, hS, lv_sub hl [3, 4, 5, 6, 7, 8, 9, 10, 0] rfl, by omega, by omega⟩ (by dsimp only; omega)
