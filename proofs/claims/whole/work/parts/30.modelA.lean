abbrev MW (E : GG) (r : Nat → Nat) (v : Nat → Int32) (f : Nat → Nat → Int32) (B C : Nat → Int32) : va_W := [(r 0, .inr (5, [.int (v 0), .int (v 1), .int (v 2), .int (v 3), .int (v 4), .int (v 5), .int (v 6), .int (v 7), .ref (r 8), .ref (r 9), .ref (r 10), .ref (r 11), .ref (r 12), .ref (r 13), .ref (r 14), .ref (r 15), .ref (r 16), .ref (r 17), .ref (r 18), .int (v 19), .int (v 20), .ref (r 21), .ref (r 22), .int (v 23), .ref (r 24), .ref (r 25)])), (r 8, .inl (E.2 0, 24, .inl (f 8))), (r 9, .inl (E.2 0, 24, .inl (f 9))), (r 10, .inl (E.2 0, 24, .inl (f 10))), (r 11, .inl (E.2 0, 2, .inl (f 11))), (r 12, .inl (E.2 0, 2, .inl (f 12))), (r 13, .inl (E.2 0, 2, .inl (f 13))), (r 14, .inl (E.2 0, 2, .inl (f 14))), (r 15, .inl (E.2 0, 2, .inl (f 15))), (r 16, .inl (E.2 1, 48, .inl (f 16))), (r 17, .inl (E.2 0, 3, .inl (f 17))), (r 18, .inl (E.2 0, 72, .inl (f 18))), (r 21, .inl (E.2 0, 2, .inl (f 21))), (r 22, .inl (E.2 0, 2, .inl (f 22))), (r 24, .inl (E.2 0, 27675, .inl B)), (r 25, .inl (E.2 0, 9225, .inl C))]
def m_loses (f : Nat → Nat → Int32) (a b : Int32) : Int32 := (if a = 1 then f 11 0 else if a = 2 then -(f 13 0) else 0) + (if b = 1 then f 11 1 else if b = 2 then -(f 13 1) else 0)
def m_far (a b : Int32) : Int32 := if a ≤ b then b - a else a - b
def m_power (f : Nat → Nat → Int32) (k h : Nat) (a : Int32) : Int32 := if a = 0 ∧ f 16 (24 * k + h) = 0 then f 12 k else if a = 2 then f 14 k else 0
def m_units (f : Nat → Nat → Int32) (k h : Nat) (a : Int32) : Int32 := if (a = 0 ∧ f 16 (24 * k + h) = 0) ∨ a = 1 then f 11 k else 0
def m_energy (f : Nat → Nat → Int32) (k : Nat) (a : Int32) : Int32 := if a = 1 then f 12 k else if a = 2 then -(f 14 k) else 0
def m_start (f : Nat → Nat → Int32) (k : Nat) (p a : Int32) : Int32 := if p = 0 ∧ ¬ a = 0 then f 15 k else 0
def m_money (f : Nat → Nat → Int32) (w h : Nat) (p q a b : Int32) : Int32 := f 18 (24 * w + h) * (m_energy f 0 a + m_energy f 1 b) - (m_start f 0 p a + m_start f 1 q b)
def m_mayGo (f : Nat → Nat → Int32) (k h : Nat) (p a : Int32) : Prop := (a = 0 ∨ f 16 (24 * k + h) = 0) ∧ (p = 0 ∨ a = 0 ∨ p = a)
def m_reserved (f : Nat → Nat → Int32) (h : Nat) (u a b : Int32) : Prop := f 10 h = 0 ∨ (¬ (m_power f 0 h a + m_power f 1 h b) < f 10 h ∧ ¬ u < m_units f 0 h a + m_units f 1 h b)
def m_in (x lo hi : Int32) : Prop := ¬ x < lo ∧ ¬ hi < x
def m_fits (v : Nat → Int32) (f : Nat → Nat → Int32) (h : Nat) (u l a b : Int32) : Prop := m_in (u + f 8 h - m_loses f a b) 0 (v 2) ∧ m_in (l + m_loses f a b - f 9 h) 0 (v 3) ∧ ¬ v 6 < m_far (u + f 8 h - m_loses f a b) u ∧ ¬ v 7 < m_far (l + m_loses f a b - f 9 h) l
def m_legal (v : Nat → Int32) (f : Nat → Nat → Int32) (h : Nat) (u l p q a b : Int32) : Prop := m_fits v f h u l a b ∧ m_mayGo f 0 h p a ∧ m_mayGo f 1 h q b ∧ m_reserved f h u a b
set_option maxHeartbeats 4000000 in
set_option maxRecDepth 100000 in
theorem c_X5_within (l : Launch) (E : GG)  (x : Int32) (lo : Int32) (hi : Int32)  : Met l yX5_within wsX5_within (Rm 0 0 0) (pR E [.int x, .int lo, .int hi] ([])) (QcRead (bI (m_in x lo hi))) 0 0 (fun _ => False) := by
  refine ofR (by decide) rfl (Nat.le_of_ble_eq_true rfl) ?_
  intro p e s m below meth c hx hb hr hlocks hml hown hts hK hP ls hl
  have hl : lv_has ls 3 [(0, .int x), (1, .int lo), (2, .int hi)] := hl
  refine lv_iload_n hx hb dX5_within_0 rfl (lv_at hl 0 rfl) ?_
  refine lv_iload_n hx hb dX5_within_1 rfl (lv_at hl 1 rfl) ?_
  refine lv_icmp_lt (tgt := 14) hx hb dX5_within_2 (by decide) (fun c_1 => ?_) (fun c_1 => ?_)
  · skip
    refine lv_iconst (v := 0) hx hb dX5_within_14 (by decide) ?_
    exact z_ret hx hb hr hlocks rfl (by first | rfl | (simp [bI, m_in, c_1]; done) | (simp only [bI, m_in, c_1, if_true, if_false, reduceIte, not_true_eq_false, not_false_eq_true]; done) | (simp only [bI, m_in]; split <;> first | rfl | (simp_all; done) | omega) | (simp_all [bI, m_in]; done)) dX5_within_15
  · skip
    refine lv_iload_n hx hb dX5_within_5 rfl (lv_at hl 0 rfl) ?_
    refine lv_iload_n hx hb dX5_within_6 rfl (lv_at hl 2 rfl) ?_
    refine lv_icmp_gt (tgt := 14) hx hb dX5_within_7 (by decide) (fun c_2 => ?_) (fun c_2 => ?_)
    · skip
      refine lv_iconst (v := 0) hx hb dX5_within_14 (by decide) ?_
      exact z_ret hx hb hr hlocks rfl (by first | rfl | (simp [bI, m_in, c_1, c_2]; done) | (simp only [bI, m_in, c_1, c_2, if_true, if_false, reduceIte, not_true_eq_false, not_false_eq_true]; done) | (simp only [bI, m_in]; split <;> first | rfl | (simp_all; done) | omega) | (simp_all [bI, m_in]; done)) dX5_within_15
    · skip
      refine lv_iconst (v := 1) hx hb dX5_within_10 (by decide) ?_
      refine lv_goto (tgt := 15) hx hb dX5_within_11 (by decide) ?_
      exact z_ret hx hb hr hlocks rfl (by first | rfl | (simp [bI, m_in, c_1, c_2]; done) | (simp only [bI, m_in, c_1, c_2, if_true, if_false, reduceIte, not_true_eq_false, not_false_eq_true]; done) | (simp only [bI, m_in]; split <;> first | rfl | (simp_all; done) | omega) | (simp_all [bI, m_in]; done)) dX5_within_15
set_option maxHeartbeats 4000000 in
set_option maxRecDepth 100000 in
theorem c_X5_isHour (l : Launch) (E : GG)  (x : Int32)  : Met l yX5_isHour wsX5_isHour (Rm 1 0 0) (pR E [.int x] ([])) (QcRead (bI (m_in x 0 23))) 0 0 (fun _ => False) := by
  refine ofR (by decide) rfl (Nat.le_of_ble_eq_true rfl) ?_
  intro p e s m below meth c hx hb hr hlocks hml hown hts hK hP ls hl
  have hl : lv_has ls 1 [(0, .int x)] := hl
  refine lv_iload_n hx hb dX5_isHour_0 rfl (lv_at hl 0 rfl) ?_
  refine lv_iconst (v := 0) hx hb dX5_isHour_1 (by decide) ?_
  refine lv_bipush (v := 23) hx hb dX5_isHour_2 (by decide) ?_
  refine cR_S ⟨hx, hb, hml, hown, hts⟩ (c_X5_within l E x 0 23) (va_cwS 3 hts gX5_isHour_X5_within rfl rfl rfl (by decide +kernel) ⟨Nat.le_of_ble_eq_true rfl, Nat.le_of_ble_eq_true rfl⟩) hK nilP rfl hl.1 rfl (Nat.le_of_ble_eq_true rfl) dX5_isHour_4 ⟨Nat.le_of_ble_eq_true rfl, Nat.le_of_ble_eq_true rfl⟩ ?_
  exact z_ret hx hb hr hlocks bI_n (by first | rfl | (simp []; done) | (simp_all; done)) dX5_isHour_7
set_option maxHeartbeats 4000000 in
set_option maxRecDepth 100000 in
theorem c_X5_isWorld (l : Launch) (E : GG)  (x : Int32)  : Met l yX5_isWorld wsX5_isWorld (Rm 1 0 0) (pR E [.int x] ([])) (QcRead (bI (m_in x 0 2))) 0 0 (fun _ => False) := by
  refine ofR (by decide) rfl (Nat.le_of_ble_eq_true rfl) ?_
  intro p e s m below meth c hx hb hr hlocks hml hown hts hK hP ls hl
  have hl : lv_has ls 1 [(0, .int x)] := hl
  refine lv_iload_n hx hb dX5_isWorld_0 rfl (lv_at hl 0 rfl) ?_
  refine lv_iconst (v := 0) hx hb dX5_isWorld_1 (by decide) ?_
  refine lv_iconst (v := 2) hx hb dX5_isWorld_2 (by decide) ?_
  refine cR_S ⟨hx, hb, hml, hown, hts⟩ (c_X5_within l E x 0 2) (va_cwS 3 hts gX5_isWorld_X5_within rfl rfl rfl (by decide +kernel) ⟨Nat.le_of_ble_eq_true rfl, Nat.le_of_ble_eq_true rfl⟩) hK nilP rfl hl.1 rfl (Nat.le_of_ble_eq_true rfl) dX5_isWorld_3 ⟨Nat.le_of_ble_eq_true rfl, Nat.le_of_ble_eq_true rfl⟩ ?_
  exact z_ret hx hb hr hlocks bI_n (by first | rfl | (simp []; done) | (simp_all; done)) dX5_isWorld_6
set_option maxHeartbeats 4000000 in
set_option maxRecDepth 100000 in
theorem c_X5_areModes (l : Launch) (E : GG)  (a : Int32) (b : Int32)  : Met l yX5_areModes wsX5_areModes (Rm 1 0 0) (pR E [.int a, .int b] ([])) (QcRead (bI (m_in a 0 2 ∧ m_in b 0 2))) 0 0 (fun _ => False) := by
  refine ofR (by decide) rfl (Nat.le_of_ble_eq_true rfl) ?_
  intro p e s m below meth c hx hb hr hlocks hml hown hts hK hP ls hl
  have hl : lv_has ls 2 [(0, .int a), (1, .int b)] := hl
  refine lv_iload_n hx hb dX5_areModes_0 rfl (lv_at hl 0 rfl) ?_
  refine lv_iconst (v := 0) hx hb dX5_areModes_1 (by decide) ?_
  refine lv_iconst (v := 2) hx hb dX5_areModes_2 (by decide) ?_
  refine cR_S ⟨hx, hb, hml, hown, hts⟩ (c_X5_within l E a 0 2) (va_cwS 3 hts gX5_areModes_X5_within rfl rfl rfl (by decide +kernel) ⟨Nat.le_of_ble_eq_true rfl, Nat.le_of_ble_eq_true rfl⟩) hK nilP rfl hl.1 rfl (Nat.le_of_ble_eq_true rfl) dX5_areModes_3 ⟨Nat.le_of_ble_eq_true rfl, Nat.le_of_ble_eq_true rfl⟩ ?_
  refine b_if_eq (q := (m_in a 0 2)) (tgt := 22) hx hb dX5_areModes_6 (by decide) (fun c_1 => ?_) (fun c_1 => ?_)
  · skip
    refine lv_iconst (v := 0) hx hb dX5_areModes_22 (by decide) ?_
    exact z_ret hx hb hr hlocks rfl (by first | rfl | (simp [bI, c_1]; done) | (simp only [bI, c_1, if_true, if_false, reduceIte, not_true_eq_false, not_false_eq_true]; done) | (simp only [bI]; split <;> first | rfl | (simp_all; done) | omega) | (simp_all [bI]; done)) dX5_areModes_23
  · skip
    refine lv_iload_n hx hb dX5_areModes_9 rfl (lv_at hl 1 rfl) ?_
    refine lv_iconst (v := 0) hx hb dX5_areModes_10 (by decide) ?_
    refine lv_iconst (v := 2) hx hb dX5_areModes_11 (by decide) ?_
    refine cR_S ⟨hx, hb, hml, hown, hts⟩ (c_X5_within l E b 0 2) (va_cwS 3 hts gX5_areModes_X5_within rfl rfl rfl (by decide +kernel) ⟨Nat.le_of_ble_eq_true rfl, Nat.le_of_ble_eq_true rfl⟩) hK nilP rfl hl.1 rfl (Nat.le_of_ble_eq_true rfl) dX5_areModes_12 ⟨Nat.le_of_ble_eq_true rfl, Nat.le_of_ble_eq_true rfl⟩ ?_
    refine b_if_eq (q := (m_in b 0 2)) (tgt := 22) hx hb dX5_areModes_15 (by decide) (fun c_2 => ?_) (fun c_2 => ?_)
    · skip
      refine lv_iconst (v := 0) hx hb dX5_areModes_22 (by decide) ?_
      exact z_ret hx hb hr hlocks rfl (by first | rfl | (simp [bI, c_1, c_2]; done) | (simp only [bI, c_1, c_2, if_true, if_false, reduceIte, not_true_eq_false, not_false_eq_true]; done) | (simp only [bI]; split <;> first | rfl | (simp_all; done) | omega) | (simp_all [bI]; done)) dX5_areModes_23
    · skip
      refine lv_iconst (v := 1) hx hb dX5_areModes_18 (by decide) ?_
      refine lv_goto (tgt := 23) hx hb dX5_areModes_19 (by decide) ?_
      exact z_ret hx hb hr hlocks rfl (by first | rfl | (simp [bI, c_1, c_2]; done) | (simp only [bI, c_1, c_2, if_true, if_false, reduceIte, not_true_eq_false, not_false_eq_true]; done) | (simp only [bI]; split <;> first | rfl | (simp_all; done) | omega) | (simp_all [bI]; done)) dX5_areModes_23
set_option maxHeartbeats 4000000 in
set_option maxRecDepth 100000 in
theorem c_X5_far (l : Launch) (E : GG)  (a : Int32) (b : Int32)  : Met l yX5_far wsX5_far (Rm 0 0 0) (pR E [.int a, .int b] ([])) (QcRead (m_far a b)) 0 0 (fun _ => False) := by
  refine ofR (by decide) rfl (Nat.le_of_ble_eq_true rfl) ?_
  intro p e s m below meth c hx hb hr hlocks hml hown hts hK hP ls hl
  have hl : lv_has ls 2 [(0, .int a), (1, .int b)] := hl
  refine lv_iload_n hx hb dX5_far_0 rfl (lv_at hl 0 rfl) ?_
  refine lv_iload_n hx hb dX5_far_1 rfl (lv_at hl 1 rfl) ?_
  refine lv_icmp_le (tgt := 11) hx hb dX5_far_2 (by decide) (fun c_1 => ?_) (fun c_1 => ?_)
  · skip
    refine lv_iload_n hx hb dX5_far_11 rfl (lv_at hl 1 rfl) ?_
    refine lv_iload_n hx hb dX5_far_12 rfl (lv_at hl 0 rfl) ?_
    refine lv_isub hx hb dX5_far_13 ?_
    exact r_ret hx hb hr hlocks (by first | rfl | (simp [m_far, c_1]; done) | (simp only [m_far, c_1, if_true, if_false, reduceIte, not_true_eq_false, not_false_eq_true]; done) | (simp only [m_far]; split <;> first | rfl | (simp_all; done) | omega) | (simp_all [m_far]; done)) dX5_far_14
  · skip
    refine lv_iload_n hx hb dX5_far_5 rfl (lv_at hl 0 rfl) ?_
    refine lv_iload_n hx hb dX5_far_6 rfl (lv_at hl 1 rfl) ?_
    refine lv_isub hx hb dX5_far_7 ?_
    refine lv_goto (tgt := 14) hx hb dX5_far_8 (by decide) ?_
    exact r_ret hx hb hr hlocks (by first | rfl | (simp [m_far, c_1]; done) | (simp only [m_far, c_1, if_true, if_false, reduceIte, not_true_eq_false, not_false_eq_true]; done) | (simp only [m_far]; split <;> first | rfl | (simp_all; done) | omega) | (simp_all [m_far]; done)) dX5_far_14
set_option maxHeartbeats 4000000 in
set_option maxRecDepth 100000 in
theorem c_X5_loses (l : Launch) (E : GG) (r : Nat → Nat) (v : Nat → Int32) (f : Nat → Nat → Int32) (B C : Nat → Int32) (a : Int32) (b : Int32)  : Met l yX5_loses wsX5_loses (Rm 0 0 0) (pR E [.ref (r 0), .int a, .int b] (MW E r v f B C)) (QcRead (m_loses f a b)) 0 0 (fun _ => False) := by
  refine ofR (by decide) rfl (Nat.le_of_ble_eq_true rfl) ?_
  intro p e s m below meth c hx hb hr hlocks hml hown hts hK hP ls hl
  have hl : lv_has ls 4 [(0, .ref (r 0)), (1, .int a), (2, .int b)] := hl
  refine w_join (fun x : Int32 => x = (if a = 1 then f 11 0 else if a = 2 then -(f 13 0) else 0)) (fun x => F0 m 30 ls (.int x :: [])) ?_ (fun J30 => ?_)
  · rintro _ rfl
    refine lv_istore_n (lv' := [(3, .int (if a = 1 then f 11 0 else if a = 2 then -(f 13 0) else 0)), (0, .ref (r 0)), (1, .int a), (2, .int b)]) hx hb dX5_loses_30 rfl hl (by decide) rfl (fun ls hl => ?_)
    refine lv_iload_n hx hb dX5_loses_31 rfl (lv_at hl 0 rfl) ?_
    refine w_join (fun x : Int32 => x = (if b = 1 then f 11 1 else if b = 2 then -(f 13 1) else 0)) (fun x => F0 m 62 ls (.int x :: [.int (if a = 1 then f 11 0 else if a = 2 then -(f 13 0) else 0)])) ?_ (fun J62 => ?_)
    · rintro _ rfl
      refine lv_iadd hx hb dX5_loses_62 ?_
      exact r_ret hx hb hr hlocks (by first | rfl | (simp []; done) | (simp_all; done)) dX5_loses_63
    · skip
      refine lv_iload_n hx hb dX5_loses_32 rfl (lv_at hl 3 rfl) ?_
      refine lv_iconst (v := 1) hx hb dX5_loses_33 (by decide) ?_
      refine lv_icmp_ne (tgt := 46) hx hb dX5_loses_34 (by decide) (fun c_1 => ?_) (fun c_1 => ?_)
      · skip
        refine lv_iload_n hx hb dX5_loses_46 rfl (lv_at hl 3 rfl) ?_
        refine lv_iconst (v := 2) hx hb dX5_loses_47 (by decide) ?_
        refine lv_icmp_ne (tgt := 61) hx hb dX5_loses_48 (by decide) (fun c_2 => ?_) (fun c_2 => ?_)
        · skip
          refine lv_iconst (v := 0) hx hb dX5_loses_61 (by decide) ?_
          exact J62 _ (by first | rfl | (simp [c_1, c_2]; done) | (simp_all; done))
        · skip
          refine lv_aload_n hx hb dX5_loses_51 rfl (lv_at hl 1 rfl) ?_
          refine va_get (D := E.1) (ci := 5) (v := .ref (r 13)) (C := RX5) (T := TX5) (N := 26) hx hb hts (fun _ h => (List.mem_cons_of_mem _ (List.mem_append_right _ h))) hown hK.1 hP 0 rfl rfl 13 (by decide) (hts _ (List.mem_of_getElem? (i := 2) rfl)) (fun _ h9 => h9) rfl dX5_loses_52 ?_
          refine lv_iconst (v := 1) hx hb dX5_loses_55 (by decide) ?_
          refine n_iald (f := f 13) hx hb hK.1 hP 6 0 rfl rfl (i := 1) (by omega) (by decide) dX5_loses_56 ?_
          refine lv_ineg hx hb dX5_loses_57 ?_
          refine lv_goto (tgt := 62) hx hb dX5_loses_58 (by decide) ?_
          exact J62 _ (by first | rfl | (simp [c_1, c_2]; done) | (simp_all; done))
      · skip
        refine lv_aload_n hx hb dX5_loses_37 rfl (lv_at hl 1 rfl) ?_
        refine va_get (D := E.1) (ci := 5) (v := .ref (r 11)) (C := RX5) (T := TX5) (N := 26) hx hb hts (fun _ h => (List.mem_cons_of_mem _ (List.mem_append_right _ h))) hown hK.1 hP 0 rfl rfl 11 (by decide) (hts _ (List.mem_of_getElem? (i := 1) rfl)) (fun _ h9 => h9) rfl dX5_loses_38 ?_
        refine lv_iconst (v := 1) hx hb dX5_loses_41 (by decide) ?_
        refine n_iald (f := f 11) hx hb hK.1 hP 4 0 rfl rfl (i := 1) (by omega) (by decide) dX5_loses_42 ?_
        refine lv_goto (tgt := 62) hx hb dX5_loses_43 (by decide) ?_
        exact J62 _ (by first | rfl | (simp [c_1]; done) | (simp_all; done))
  · skip
    refine lv_iload_n hx hb dX5_loses_0 rfl (lv_at hl 1 rfl) ?_
    refine lv_iconst (v := 1) hx hb dX5_loses_1 (by decide) ?_
    refine lv_icmp_ne (tgt := 14) hx hb dX5_loses_2 (by decide) (fun c_3 => ?_) (fun c_3 => ?_)
    · skip
      refine lv_iload_n hx hb dX5_loses_14 rfl (lv_at hl 1 rfl) ?_
      refine lv_iconst (v := 2) hx hb dX5_loses_15 (by decide) ?_
      refine lv_icmp_ne (tgt := 29) hx hb dX5_loses_16 (by decide) (fun c_4 => ?_) (fun c_4 => ?_)
      · skip
        refine lv_iconst (v := 0) hx hb dX5_loses_29 (by decide) ?_
        exact J30 _ (by first | rfl | (simp [c_3, c_4]; done) | (simp_all; done))
      · skip
        refine lv_aload_n hx hb dX5_loses_19 rfl (lv_at hl 0 rfl) ?_
        refine va_get (D := E.1) (ci := 5) (v := .ref (r 13)) (C := RX5) (T := TX5) (N := 26) hx hb hts (fun _ h => (List.mem_cons_of_mem _ (List.mem_append_right _ h))) hown hK.1 hP 0 rfl rfl 13 (by decide) (hts _ (List.mem_of_getElem? (i := 2) rfl)) (fun _ h9 => h9) rfl dX5_loses_20 ?_
        refine lv_iconst (v := 0) hx hb dX5_loses_23 (by decide) ?_
        refine n_iald (f := f 13) hx hb hK.1 hP 6 0 rfl rfl (i := 0) (by omega) (by decide) dX5_loses_24 ?_
        refine lv_ineg hx hb dX5_loses_25 ?_
        refine lv_goto (tgt := 30) hx hb dX5_loses_26 (by decide) ?_
        exact J30 _ (by first | rfl | (simp [c_3, c_4]; done) | (simp_all; done))
    · skip
      refine lv_aload_n hx hb dX5_loses_5 rfl (lv_at hl 0 rfl) ?_
      refine va_get (D := E.1) (ci := 5) (v := .ref (r 11)) (C := RX5) (T := TX5) (N := 26) hx hb hts (fun _ h => (List.mem_cons_of_mem _ (List.mem_append_right _ h))) hown hK.1 hP 0 rfl rfl 11 (by decide) (hts _ (List.mem_of_getElem? (i := 1) rfl)) (fun _ h9 => h9) rfl dX5_loses_6 ?_
      refine lv_iconst (v := 0) hx hb dX5_loses_9 (by decide) ?_
      refine n_iald (f := f 11) hx hb hK.1 hP 4 0 rfl rfl (i := 0) (by omega) (by decide) dX5_loses_10 ?_
      refine lv_goto (tgt := 30) hx hb dX5_loses_11 (by decide) ?_
      exact J30 _ (by first | rfl | (simp [c_3]; done) | (simp_all; done))
set_option maxHeartbeats 4000000 in
set_option maxRecDepth 100000 in
theorem c_X5_mayGo (l : Launch) (E : GG) (r : Nat → Nat) (v : Nat → Int32) (f : Nat → Nat → Int32) (B C : Nat → Int32) (k : Nat) (h : Nat) (p0 : Int32) (a : Int32) (hk : k < 2) (hh : h < 24) : Met l yX5_mayGo wsX5_mayGo (Rm 0 0 0) (pR E [.ref (r 0), .int (nI k), .int (nI h), .int p0, .int a] (MW E r v f B C)) (QcRead (bI (m_mayGo f k h p0 a))) 0 0 (fun _ => False) := by
  refine ofR (by decide) rfl (Nat.le_of_ble_eq_true rfl) ?_
  intro p e s m below meth c hx hb hr hlocks hml hown hts hK hP ls hl
  have hl : lv_has ls 5 [(0, .ref (r 0)), (1, .int (nI k)), (2, .int (nI h)), (3, .int p0), (4, .int a)] := hl
  refine lv_iload hx hb dX5_mayGo_0 (lv_at hl 4 rfl) ?_
  refine lv_if_eq (tgt := 19) hx hb dX5_mayGo_2 (by decide) (fun c_1 => ?_) (fun c_1 => ?_)
  · skip
    refine lv_iload_n hx hb dX5_mayGo_19 rfl (lv_at hl 3 rfl) ?_
    refine lv_if_eq (tgt := 34) hx hb dX5_mayGo_20 (by decide) (fun c_2 => ?_) (fun c_2 => ?_)
    · skip
      refine lv_iconst (v := 1) hx hb dX5_mayGo_34 (by decide) ?_
      refine lv_goto (tgt := 39) hx hb dX5_mayGo_35 (by decide) ?_
      exact z_ret hx hb hr hlocks rfl (by first | rfl | (simp [bI, m_mayGo, c_1, c_2]; done) | (simp only [bI, m_mayGo, c_1, c_2, if_true, if_false, reduceIte, not_true_eq_false, not_false_eq_true]; done) | (simp only [bI, m_mayGo]; split <;> first | rfl | (simp_all; done) | omega) | (simp_all [bI, m_mayGo]; done)) dX5_mayGo_39
    · skip
      refine lv_iload hx hb dX5_mayGo_23 (lv_at hl 4 rfl) ?_
      refine lv_if_eq (tgt := 34) hx hb dX5_mayGo_25 (by decide) (fun c_3 => ?_) (fun c_3 => ?_)
      · skip
        refine lv_iconst (v := 1) hx hb dX5_mayGo_34 (by decide) ?_
        refine lv_goto (tgt := 39) hx hb dX5_mayGo_35 (by decide) ?_
        exact z_ret hx hb hr hlocks rfl (by first | rfl | (simp [bI, m_mayGo, c_1, c_2, c_3]; done) | (simp only [bI, m_mayGo, c_1, c_2, c_3, if_true, if_false, reduceIte, not_true_eq_false, not_false_eq_true]; done) | (simp only [bI, m_mayGo]; split <;> first | rfl | (simp_all; done) | omega) | (simp_all [bI, m_mayGo]; done)) dX5_mayGo_39
      · skip
        refine lv_iload_n hx hb dX5_mayGo_28 rfl (lv_at hl 3 rfl) ?_
        refine lv_iload hx hb dX5_mayGo_29 (lv_at hl 4 rfl) ?_
        refine lv_icmp_ne (tgt := 38) hx hb dX5_mayGo_31 (by decide) (fun c_4 => ?_) (fun c_4 => ?_)
        · skip
          refine lv_iconst (v := 0) hx hb dX5_mayGo_38 (by decide) ?_
          exact z_ret hx hb hr hlocks rfl (by first | rfl | (simp [bI, m_mayGo, c_1, c_2, c_3, c_4]; done) | (simp only [bI, m_mayGo, c_1, c_2, c_3, c_4, if_true, if_false, reduceIte, not_true_eq_false, not_false_eq_true]; done) | (simp only [bI, m_mayGo]; split <;> first | rfl | (simp_all; done) | omega) | (simp_all [bI, m_mayGo]; done)) dX5_mayGo_39
        · skip
          refine lv_iconst (v := 1) hx hb dX5_mayGo_34 (by decide) ?_
          refine lv_goto (tgt := 39) hx hb dX5_mayGo_35 (by decide) ?_
          exact z_ret hx hb hr hlocks rfl (by first | rfl | (simp [bI, m_mayGo, c_1, c_2, c_3, c_4]; done) | (simp only [bI, m_mayGo, c_1, c_2, c_3, c_4, if_true, if_false, reduceIte, not_true_eq_false, not_false_eq_true]; done) | (simp only [bI, m_mayGo]; split <;> first | rfl | (simp_all; done) | omega) | (simp_all [bI, m_mayGo]; done)) dX5_mayGo_39
  · skip
    refine lv_aload_n hx hb dX5_mayGo_5 rfl (lv_at hl 0 rfl) ?_
    refine va_get (D := E.1) (ci := 5) (v := .ref (r 16)) (C := RX5) (T := TX5) (N := 26) hx hb hts (fun _ h => (List.mem_cons_of_mem _ (List.mem_append_right _ h))) hown hK.1 hP 0 rfl rfl 16 (by decide) (hts _ (List.mem_of_getElem? (i := 1) rfl)) (fun _ h9 => h9) rfl dX5_mayGo_6 ?_
    refine lv_bipush (v := 24) hx hb dX5_mayGo_9 (by decide) ?_
    refine lv_iload_n hx hb dX5_mayGo_11 rfl (lv_at hl 1 rfl) ?_
    refine lv_imul hx hb dX5_mayGo_12 ?_
    refine w_top (show (24 * (nI k)) = (nI (24 * k)) from pk_mul _ _) ?_
    refine lv_iload_n hx hb dX5_mayGo_13 rfl (lv_at hl 2 rfl) ?_
    refine lv_iadd hx hb dX5_mayGo_14 ?_
    refine w_top (show ((nI (24 * k)) + (nI h)) = (nI ((24 * k) + h)) from nI_add _ _) ?_
    refine n_zald (f := f 16) hx hb hK.1 hP 9 1 rfl rfl (i := (24 * k) + h) (by omega) (by decide) dX5_mayGo_15 ?_
    refine lv_if_ne (tgt := 38) hx hb dX5_mayGo_16 (by decide) (fun c_5 => ?_) (fun c_5 => ?_)
    · skip
      refine lv_iconst (v := 0) hx hb dX5_mayGo_38 (by decide) ?_
      exact z_ret hx hb hr hlocks rfl (by first | rfl | (simp [bI, m_mayGo, c_1, c_5]; done) | (simp only [bI, m_mayGo, c_1, c_5, if_true, if_false, reduceIte, not_true_eq_false, not_false_eq_true]; done) | (simp only [bI, m_mayGo]; split <;> first | rfl | (simp_all; done) | omega) | (simp_all [bI, m_mayGo]; done)) dX5_mayGo_39
    · skip
      refine lv_iload_n hx hb dX5_mayGo_19 rfl (lv_at hl 3 rfl) ?_
      refine lv_if_eq (tgt := 34) hx hb dX5_mayGo_20 (by decide) (fun c_6 => ?_) (fun c_6 => ?_)
      · skip
        refine lv_iconst (v := 1) hx hb dX5_mayGo_34 (by decide) ?_
        refine lv_goto (tgt := 39) hx hb dX5_mayGo_35 (by decide) ?_
        exact z_ret hx hb hr hlocks rfl (by first | rfl | (simp [bI, m_mayGo, c_1, c_5, c_6]; done) | (simp only [bI, m_mayGo, c_1, c_5, c_6, if_true, if_false, reduceIte, not_true_eq_false, not_false_eq_true]; done) | (simp only [bI, m_mayGo]; split <;> first | rfl | (simp_all; done) | omega) | (simp_all [bI, m_mayGo]; done)) dX5_mayGo_39
      · skip
        refine lv_iload hx hb dX5_mayGo_23 (lv_at hl 4 rfl) ?_
        refine lv_if_eq (tgt := 34) hx hb dX5_mayGo_25 (by decide) (fun c_7 => ?_) (fun c_7 => ?_)
        · skip
          refine lv_iconst (v := 1) hx hb dX5_mayGo_34 (by decide) ?_
          refine lv_goto (tgt := 39) hx hb dX5_mayGo_35 (by decide) ?_
          exact z_ret hx hb hr hlocks rfl (by first | rfl | (simp [bI, m_mayGo, c_1, c_5, c_6, c_7]; done) | (simp only [bI, m_mayGo, c_1, c_5, c_6, c_7, if_true, if_false, reduceIte, not_true_eq_false, not_false_eq_true]; done) | (simp only [bI, m_mayGo]; split <;> first | rfl | (simp_all; done) | omega) | (simp_all [bI, m_mayGo]; done)) dX5_mayGo_39
        · skip
          refine lv_iload_n hx hb dX5_mayGo_28 rfl (lv_at hl 3 rfl) ?_
          refine lv_iload hx hb dX5_mayGo_29 (lv_at hl 4 rfl) ?_
          refine lv_icmp_ne (tgt := 38) hx hb dX5_mayGo_31 (by decide) (fun c_8 => ?_) (fun c_8 => ?_)
          · skip
            refine lv_iconst (v := 0) hx hb dX5_mayGo_38 (by decide) ?_
            exact z_ret hx hb hr hlocks rfl (by first | rfl | (simp [bI, m_mayGo, c_1, c_5, c_6, c_7, c_8]; done) | (simp only [bI, m_mayGo, c_1, c_5, c_6, c_7, c_8, if_true, if_false, reduceIte, not_true_eq_false, not_false_eq_true]; done) | (simp only [bI, m_mayGo]; split <;> first | rfl | (simp_all; done) | omega) | (simp_all [bI, m_mayGo]; done)) dX5_mayGo_39
          · skip
            refine lv_iconst (v := 1) hx hb dX5_mayGo_34 (by decide) ?_
            refine lv_goto (tgt := 39) hx hb dX5_mayGo_35 (by decide) ?_
            exact z_ret hx hb hr hlocks rfl (by first | rfl | (simp [bI, m_mayGo, c_1, c_5, c_6, c_7, c_8]; done) | (simp only [bI, m_mayGo, c_1, c_5, c_6, c_7, c_8, if_true, if_false, reduceIte, not_true_eq_false, not_false_eq_true]; done) | (simp only [bI, m_mayGo]; split <;> first | rfl | (simp_all; done) | omega) | (simp_all [bI, m_mayGo]; done)) dX5_mayGo_39
set_option maxHeartbeats 4000000 in
set_option maxRecDepth 100000 in
theorem c_X5_isReady (l : Launch) (E : GG) (r : Nat → Nat) (v : Nat → Int32) (f : Nat → Nat → Int32) (B C : Nat → Int32) (k : Nat) (h : Nat) (a : Int32) (hk : k < 2) (hh : h < 24) : Met l yX5_isReady wsX5_isReady (Rm 0 0 0) (pR E [.ref (r 0), .int (nI k), .int (nI h), .int a] (MW E r v f B C)) (QcRead (bI (a = 0 ∧ f 16 (24 * k + h) = 0))) 0 0 (fun _ => False) := by
  refine ofR (by decide) rfl (Nat.le_of_ble_eq_true rfl) ?_
  intro p e s m below meth c hx hb hr hlocks hml hown hts hK hP ls hl
  have hl : lv_has ls 4 [(0, .ref (r 0)), (1, .int (nI k)), (2, .int (nI h)), (3, .int a)] := hl
  refine lv_iload_n hx hb dX5_isReady_0 rfl (lv_at hl 3 rfl) ?_
  refine lv_if_ne (tgt := 22) hx hb dX5_isReady_1 (by decide) (fun c_1 => ?_) (fun c_1 => ?_)
  · skip
    refine lv_iconst (v := 0) hx hb dX5_isReady_22 (by decide) ?_
    exact z_ret hx hb hr hlocks rfl (by first | rfl | (simp [bI, c_1]; done) | (simp only [bI, c_1, if_true, if_false, reduceIte, not_true_eq_false, not_false_eq_true]; done) | (simp only [bI]; split <;> first | rfl | (simp_all; done) | omega) | (simp_all [bI]; done)) dX5_isReady_23
  · skip
    refine lv_aload_n hx hb dX5_isReady_4 rfl (lv_at hl 0 rfl) ?_
    refine va_get (D := E.1) (ci := 5) (v := .ref (r 16)) (C := RX5) (T := TX5) (N := 26) hx hb hts (fun _ h => (List.mem_cons_of_mem _ (List.mem_append_right _ h))) hown hK.1 hP 0 rfl rfl 16 (by decide) (hts _ (List.mem_of_getElem? (i := 1) rfl)) (fun _ h9 => h9) rfl dX5_isReady_5 ?_
    refine lv_bipush (v := 24) hx hb dX5_isReady_8 (by decide) ?_
    refine lv_iload_n hx hb dX5_isReady_10 rfl (lv_at hl 1 rfl) ?_
    refine lv_imul hx hb dX5_isReady_11 ?_
    refine w_top (show (24 * (nI k)) = (nI (24 * k)) from pk_mul _ _) ?_
    refine lv_iload_n hx hb dX5_isReady_12 rfl (lv_at hl 2 rfl) ?_
    refine lv_iadd hx hb dX5_isReady_13 ?_
    refine w_top (show ((nI (24 * k)) + (nI h)) = (nI ((24 * k) + h)) from nI_add _ _) ?_
    refine n_zald (f := f 16) hx hb hK.1 hP 9 1 rfl rfl (i := (24 * k) + h) (by omega) (by decide) dX5_isReady_14 ?_
    refine lv_if_ne (tgt := 22) hx hb dX5_isReady_15 (by decide) (fun c_2 => ?_) (fun c_2 => ?_)
    · skip
      refine lv_iconst (v := 0) hx hb dX5_isReady_22 (by decide) ?_
      exact z_ret hx hb hr hlocks rfl (by first | rfl | (simp [bI, c_1, c_2]; done) | (simp only [bI, c_1, c_2, if_true, if_false, reduceIte, not_true_eq_false, not_false_eq_true]; done) | (simp only [bI]; split <;> first | rfl | (simp_all; done) | omega) | (simp_all [bI]; done)) dX5_isReady_23
    · skip
      refine lv_iconst (v := 1) hx hb dX5_isReady_18 (by decide) ?_
      refine lv_goto (tgt := 23) hx hb dX5_isReady_19 (by decide) ?_
      exact z_ret hx hb hr hlocks rfl (by first | rfl | (simp [bI, c_1, c_2]; done) | (simp only [bI, c_1, c_2, if_true, if_false, reduceIte, not_true_eq_false, not_false_eq_true]; done) | (simp only [bI]; split <;> first | rfl | (simp_all; done) | omega) | (simp_all [bI]; done)) dX5_isReady_23
set_option maxHeartbeats 4000000 in
set_option maxRecDepth 100000 in
theorem c_X5_isReserved (l : Launch) (E : GG) (r : Nat → Nat) (v : Nat → Int32) (f : Nat → Nat → Int32) (B C : Nat → Int32) (h : Nat) (u : Int32) (a : Int32) (b : Int32) (hh : h < 24) : Met l yX5_isReserved wsX5_isReserved (Rm 1 0 0) (pR E [.ref (r 0), .int (nI h), .int u, .int a, .int b] (MW E r v f B C)) (QcRead (bI (m_reserved f h u a b))) 0 0 (fun _ => False) := by
  refine ofR (by decide) rfl (Nat.le_of_ble_eq_true rfl) ?_
  intro p e s m below meth c hx hb hr hlocks hml hown hts hK hP ls hl
  have hl : lv_has ls 7 [(0, .ref (r 0)), (1, .int (nI h)), (2, .int u), (3, .int a), (4, .int b)] := hl
  refine w_join (fun x : Int32 => x = m_power f 0 h a) (fun x => F0 m 34 ls (.int x :: [])) ?_ (fun J34 => ?_)
  · rintro _ rfl
    refine w_join (fun x : Int32 => x = m_power f 1 h b) (fun x => F0 m 70 ls (.int x :: [.int (m_power f 0 h a)])) ?_ (fun J70 => ?_)
    · rintro _ rfl
      refine lv_iadd hx hb dX5_isReserved_70 ?_
      refine lv_istore (lv' := [(5, .int ((m_power f 0 h a) + (m_power f 1 h b))), (0, .ref (r 0)), (1, .int (nI h)), (2, .int u), (3, .int a), (4, .int b)]) hx hb dX5_isReserved_71 hl (by decide) rfl (fun ls hl => ?_)
      refine w_join (fun x : Int32 => x = m_units f 0 h a) (fun x => F0 m 98 ls (.int x :: [])) ?_ (fun J98 => ?_)
      · rintro _ rfl
        refine w_join (fun x : Int32 => x = m_units f 1 h b) (fun x => F0 m 125 ls (.int x :: [.int (m_units f 0 h a)])) ?_ (fun J125 => ?_)
        · rintro _ rfl
          refine lv_iadd hx hb dX5_isReserved_125 ?_
          refine lv_istore (lv' := [(6, .int ((m_units f 0 h a) + (m_units f 1 h b))), (5, .int ((m_power f 0 h a) + (m_power f 1 h b))), (0, .ref (r 0)), (1, .int (nI h)), (2, .int u), (3, .int a), (4, .int b)]) hx hb dX5_isReserved_126 hl (by decide) rfl (fun ls hl => ?_)
          refine lv_aload_n hx hb dX5_isReserved_128 rfl (lv_at hl 2 rfl) ?_
          refine va_get (D := E.1) (ci := 5) (v := .ref (r 10)) (C := RX5) (T := TX5) (N := 26) hx hb hts (fun _ h => (List.mem_cons_of_mem _ (List.mem_append_right _ h))) hown hK.1 hP 0 rfl rfl 10 (by decide) (hts _ (List.mem_of_getElem? (i := 4) rfl)) (fun _ h9 => h9) rfl dX5_isReserved_129 ?_
          refine lv_iload_n hx hb dX5_isReserved_132 rfl (lv_at hl 3 rfl) ?_
          refine n_iald (f := f 10) hx hb hK.1 hP 3 0 rfl rfl (i := h) (by omega) (by decide) dX5_isReserved_133 ?_
          refine lv_if_eq (tgt := 154) hx hb dX5_isReserved_134 (by decide) (fun c_1 => ?_) (fun c_1 => ?_)
          · skip
            refine lv_iconst (v := 1) hx hb dX5_isReserved_154 (by decide) ?_
            refine lv_goto (tgt := 159) hx hb dX5_isReserved_155 (by decide) ?_
            exact z_ret hx hb hr hlocks rfl (by first | rfl | (simp [bI, m_reserved, c_1]; done) | (simp only [bI, m_reserved, c_1, if_true, if_false, reduceIte, not_true_eq_false, not_false_eq_true]; done) | (simp only [bI, m_reserved]; split <;> first | rfl | (simp_all; done) | omega) | (simp_all [bI, m_reserved]; done)) dX5_isReserved_159
          · skip
            refine lv_iload hx hb dX5_isReserved_137 (lv_at hl 1 rfl) ?_
            refine lv_aload_n hx hb dX5_isReserved_139 rfl (lv_at hl 2 rfl) ?_
            refine va_get (D := E.1) (ci := 5) (v := .ref (r 10)) (C := RX5) (T := TX5) (N := 26) hx hb hts (fun _ h => (List.mem_cons_of_mem _ (List.mem_append_right _ h))) hown hK.1 hP 0 rfl rfl 10 (by decide) (hts _ (List.mem_of_getElem? (i := 4) rfl)) (fun _ h9 => h9) rfl dX5_isReserved_140 ?_
            refine lv_iload_n hx hb dX5_isReserved_143 rfl (lv_at hl 3 rfl) ?_
            refine n_iald (f := f 10) hx hb hK.1 hP 3 0 rfl rfl (i := h) (by omega) (by decide) dX5_isReserved_144 ?_
            refine lv_icmp_lt (tgt := 158) hx hb dX5_isReserved_145 (by decide) (fun c_2 => ?_) (fun c_2 => ?_)
            · skip
              refine lv_iconst (v := 0) hx hb dX5_isReserved_158 (by decide) ?_
              exact z_ret hx hb hr hlocks rfl (by first | rfl | (simp [bI, m_reserved, c_1, c_2]; done) | (simp only [bI, m_reserved, c_1, c_2, if_true, if_false, reduceIte, not_true_eq_false, not_false_eq_true]; done) | (simp only [bI, m_reserved]; split <;> first | rfl | (simp_all; done) | omega) | (simp_all [bI, m_reserved]; done)) dX5_isReserved_159
            · skip
              refine lv_iload_n hx hb dX5_isReserved_148 rfl (lv_at hl 4 rfl) ?_
              refine lv_iload hx hb dX5_isReserved_149 (lv_at hl 0 rfl) ?_
              refine lv_icmp_lt (tgt := 158) hx hb dX5_isReserved_151 (by decide) (fun c_3 => ?_) (fun c_3 => ?_)
              · skip
                refine lv_iconst (v := 0) hx hb dX5_isReserved_158 (by decide) ?_
                exact z_ret hx hb hr hlocks rfl (by first | rfl | (simp [bI, m_reserved, c_1, c_2, c_3]; done) | (simp only [bI, m_reserved, c_1, c_2, c_3, if_true, if_false, reduceIte, not_true_eq_false, not_false_eq_true]; done) | (simp only [bI, m_reserved]; split <;> first | rfl | (simp_all; done) | omega) | (simp_all [bI, m_reserved]; done)) dX5_isReserved_159
              · skip
                refine lv_iconst (v := 1) hx hb dX5_isReserved_154 (by decide) ?_
                refine lv_goto (tgt := 159) hx hb dX5_isReserved_155 (by decide) ?_
                exact z_ret hx hb hr hlocks rfl (by first | rfl | (simp [bI, m_reserved, c_1, c_2, c_3]; done) | (simp only [bI, m_reserved, c_1, c_2, c_3, if_true, if_false, reduceIte, not_true_eq_false, not_false_eq_true]; done) | (simp only [bI, m_reserved]; split <;> first | rfl | (simp_all; done) | omega) | (simp_all [bI, m_reserved]; done)) dX5_isReserved_159
        · skip
          refine lv_aload_n hx hb dX5_isReserved_98 rfl (lv_at hl 1 rfl) ?_
          refine lv_iconst (v := 1) hx hb dX5_isReserved_99 (by decide) ?_
          refine lv_iload_n hx hb dX5_isReserved_100 rfl (lv_at hl 2 rfl) ?_
          refine lv_iload hx hb dX5_isReserved_101 (lv_at hl 5 rfl) ?_
          refine cR_V ⟨hx, hb, hml, hown, hts⟩ (c_X5_isReady l E r v f B C 1 h b (by omega) (by omega)) (cwV 3 hts gX5_isReserved_X5_isReady rfl rfl rfl (by decide +kernel) ⟨Nat.le_of_ble_eq_true rfl, Nat.le_of_ble_eq_true rfl⟩) hK hP 5 0 rfl rfl rfl hl.1 rfl (Nat.le_of_ble_eq_true rfl) dX5_isReserved_103 ⟨Nat.le_of_ble_eq_true rfl, Nat.le_of_ble_eq_true rfl⟩ ?_
          refine b_if_ne (q := (b = 0 ∧ f 16 (24 * 1 + h) = 0)) (tgt := 115) hx hb dX5_isReserved_106 (by decide) (fun c_4 => ?_) (fun c_4 => ?_)
          · skip
            refine lv_aload_n hx hb dX5_isReserved_115 rfl (lv_at hl 1 rfl) ?_
            refine va_get (D := E.1) (ci := 5) (v := .ref (r 11)) (C := RX5) (T := TX5) (N := 26) hx hb hts (fun _ h => (List.mem_cons_of_mem _ (List.mem_append_right _ h))) hown hK.1 hP 0 rfl rfl 11 (by decide) (hts _ (List.mem_of_getElem? (i := 3) rfl)) (fun _ h9 => h9) rfl dX5_isReserved_116 ?_
            refine lv_iconst (v := 1) hx hb dX5_isReserved_119 (by decide) ?_
            refine n_iald (f := f 11) hx hb hK.1 hP 4 0 rfl rfl (i := 1) (by omega) (by decide) dX5_isReserved_120 ?_
            refine lv_goto (tgt := 125) hx hb dX5_isReserved_121 (by decide) ?_
            exact J125 _ (by first | rfl | (simp [m_units, c_4]; done) | (simp only [m_units, c_4, if_true, if_false, reduceIte, not_true_eq_false, not_false_eq_true]; done) | (simp only [m_units]; split <;> first | rfl | (simp_all; done) | omega) | (simp_all [m_units]; done))
          · skip
            refine lv_iload hx hb dX5_isReserved_109 (lv_at hl 5 rfl) ?_
            refine lv_iconst (v := 1) hx hb dX5_isReserved_111 (by decide) ?_
            refine lv_icmp_ne (tgt := 124) hx hb dX5_isReserved_112 (by decide) (fun c_5 => ?_) (fun c_5 => ?_)
            · skip
              refine lv_iconst (v := 0) hx hb dX5_isReserved_124 (by decide) ?_
              exact J125 _ (by first | rfl | (simp [m_units, c_4, c_5]; done) | (simp only [m_units, c_4, c_5, if_true, if_false, reduceIte, not_true_eq_false, not_false_eq_true]; done) | (simp only [m_units]; split <;> first | rfl | (simp_all; done) | omega) | (simp_all [m_units]; done))
            · skip
              refine lv_aload_n hx hb dX5_isReserved_115 rfl (lv_at hl 1 rfl) ?_
              refine va_get (D := E.1) (ci := 5) (v := .ref (r 11)) (C := RX5) (T := TX5) (N := 26) hx hb hts (fun _ h => (List.mem_cons_of_mem _ (List.mem_append_right _ h))) hown hK.1 hP 0 rfl rfl 11 (by decide) (hts _ (List.mem_of_getElem? (i := 3) rfl)) (fun _ h9 => h9) rfl dX5_isReserved_116 ?_
              refine lv_iconst (v := 1) hx hb dX5_isReserved_119 (by decide) ?_
              refine n_iald (f := f 11) hx hb hK.1 hP 4 0 rfl rfl (i := 1) (by omega) (by decide) dX5_isReserved_120 ?_
              refine lv_goto (tgt := 125) hx hb dX5_isReserved_121 (by decide) ?_
              exact J125 _ (by first | rfl | (simp [m_units, c_4, c_5]; done) | (simp only [m_units, c_4, c_5, if_true, if_false, reduceIte, not_true_eq_false, not_false_eq_true]; done) | (simp only [m_units]; split <;> first | rfl | (simp_all; done) | omega) | (simp_all [m_units]; done))
      · skip
        refine lv_aload_n hx hb dX5_isReserved_73 rfl (lv_at hl 1 rfl) ?_
        refine lv_iconst (v := 0) hx hb dX5_isReserved_74 (by decide) ?_
        refine lv_iload_n hx hb dX5_isReserved_75 rfl (lv_at hl 2 rfl) ?_
        refine lv_iload_n hx hb dX5_isReserved_76 rfl (lv_at hl 4 rfl) ?_
        refine cR_V ⟨hx, hb, hml, hown, hts⟩ (c_X5_isReady l E r v f B C 0 h a (by omega) (by omega)) (cwV 3 hts gX5_isReserved_X5_isReady rfl rfl rfl (by decide +kernel) ⟨Nat.le_of_ble_eq_true rfl, Nat.le_of_ble_eq_true rfl⟩) hK hP 5 0 rfl rfl rfl hl.1 rfl (Nat.le_of_ble_eq_true rfl) dX5_isReserved_77 ⟨Nat.le_of_ble_eq_true rfl, Nat.le_of_ble_eq_true rfl⟩ ?_
        refine b_if_ne (q := (a = 0 ∧ f 16 (24 * 0 + h) = 0)) (tgt := 88) hx hb dX5_isReserved_80 (by decide) (fun c_6 => ?_) (fun c_6 => ?_)
        · skip
          refine lv_aload_n hx hb dX5_isReserved_88 rfl (lv_at hl 1 rfl) ?_
          refine va_get (D := E.1) (ci := 5) (v := .ref (r 11)) (C := RX5) (T := TX5) (N := 26) hx hb hts (fun _ h => (List.mem_cons_of_mem _ (List.mem_append_right _ h))) hown hK.1 hP 0 rfl rfl 11 (by decide) (hts _ (List.mem_of_getElem? (i := 3) rfl)) (fun _ h9 => h9) rfl dX5_isReserved_89 ?_
          refine lv_iconst (v := 0) hx hb dX5_isReserved_92 (by decide) ?_
          refine n_iald (f := f 11) hx hb hK.1 hP 4 0 rfl rfl (i := 0) (by omega) (by decide) dX5_isReserved_93 ?_
          refine lv_goto (tgt := 98) hx hb dX5_isReserved_94 (by decide) ?_
          exact J98 _ (by first | rfl | (simp [m_units, c_6]; done) | (simp only [m_units, c_6, if_true, if_false, reduceIte, not_true_eq_false, not_false_eq_true]; done) | (simp only [m_units]; split <;> first | rfl | (simp_all; done) | omega) | (simp_all [m_units]; done))
        · skip
          refine lv_iload_n hx hb dX5_isReserved_83 rfl (lv_at hl 4 rfl) ?_
          refine lv_iconst (v := 1) hx hb dX5_isReserved_84 (by decide) ?_
          refine lv_icmp_ne (tgt := 97) hx hb dX5_isReserved_85 (by decide) (fun c_7 => ?_) (fun c_7 => ?_)
          · skip
            refine lv_iconst (v := 0) hx hb dX5_isReserved_97 (by decide) ?_
            exact J98 _ (by first | rfl | (simp [m_units, c_6, c_7]; done) | (simp only [m_units, c_6, c_7, if_true, if_false, reduceIte, not_true_eq_false, not_false_eq_true]; done) | (simp only [m_units]; split <;> first | rfl | (simp_all; done) | omega) | (simp_all [m_units]; done))
          · skip
            refine lv_aload_n hx hb dX5_isReserved_88 rfl (lv_at hl 1 rfl) ?_
            refine va_get (D := E.1) (ci := 5) (v := .ref (r 11)) (C := RX5) (T := TX5) (N := 26) hx hb hts (fun _ h => (List.mem_cons_of_mem _ (List.mem_append_right _ h))) hown hK.1 hP 0 rfl rfl 11 (by decide) (hts _ (List.mem_of_getElem? (i := 3) rfl)) (fun _ h9 => h9) rfl dX5_isReserved_89 ?_
            refine lv_iconst (v := 0) hx hb dX5_isReserved_92 (by decide) ?_
            refine n_iald (f := f 11) hx hb hK.1 hP 4 0 rfl rfl (i := 0) (by omega) (by decide) dX5_isReserved_93 ?_
            refine lv_goto (tgt := 98) hx hb dX5_isReserved_94 (by decide) ?_
            exact J98 _ (by first | rfl | (simp [m_units, c_6, c_7]; done) | (simp only [m_units, c_6, c_7, if_true, if_false, reduceIte, not_true_eq_false, not_false_eq_true]; done) | (simp only [m_units]; split <;> first | rfl | (simp_all; done) | omega) | (simp_all [m_units]; done))
    · skip
      refine lv_aload_n hx hb dX5_isReserved_34 rfl (lv_at hl 0 rfl) ?_
      refine lv_iconst (v := 1) hx hb dX5_isReserved_35 (by decide) ?_
      refine lv_iload_n hx hb dX5_isReserved_36 rfl (lv_at hl 1 rfl) ?_
      refine lv_iload hx hb dX5_isReserved_37 (lv_at hl 4 rfl) ?_
      refine cR_V ⟨hx, hb, hml, hown, hts⟩ (c_X5_isReady l E r v f B C 1 h b (by omega) (by omega)) (cwV 3 hts gX5_isReserved_X5_isReady rfl rfl rfl (by decide +kernel) ⟨Nat.le_of_ble_eq_true rfl, Nat.le_of_ble_eq_true rfl⟩) hK hP 5 0 rfl rfl rfl hl.1 rfl (Nat.le_of_ble_eq_true rfl) dX5_isReserved_39 ⟨Nat.le_of_ble_eq_true rfl, Nat.le_of_ble_eq_true rfl⟩ ?_
      refine b_if_eq (q := (b = 0 ∧ f 16 (24 * 1 + h) = 0)) (tgt := 54) hx hb dX5_isReserved_42 (by decide) (fun c_8 => ?_) (fun c_8 => ?_)
      · skip
        refine lv_iload hx hb dX5_isReserved_54 (lv_at hl 4 rfl) ?_
        refine lv_iconst (v := 2) hx hb dX5_isReserved_56 (by decide) ?_
        refine lv_icmp_ne (tgt := 69) hx hb dX5_isReserved_57 (by decide) (fun c_9 => ?_) (fun c_9 => ?_)
        · skip
          refine lv_iconst (v := 0) hx hb dX5_isReserved_69 (by decide) ?_
          exact J70 _ (by first | rfl | (simp [m_power, c_8, c_9]; done) | (simp only [m_power, c_8, c_9, if_true, if_false, reduceIte, not_true_eq_false, not_false_eq_true]; done) | (simp only [m_power]; split <;> first | rfl | (simp_all; done) | omega) | (simp_all [m_power]; done))
        · skip
          refine lv_aload_n hx hb dX5_isReserved_60 rfl (lv_at hl 0 rfl) ?_
          refine va_get (D := E.1) (ci := 5) (v := .ref (r 14)) (C := RX5) (T := TX5) (N := 26) hx hb hts (fun _ h => (List.mem_cons_of_mem _ (List.mem_append_right _ h))) hown hK.1 hP 0 rfl rfl 14 (by decide) (hts _ (List.mem_of_getElem? (i := 2) rfl)) (fun _ h9 => h9) rfl dX5_isReserved_61 ?_
          refine lv_iconst (v := 1) hx hb dX5_isReserved_64 (by decide) ?_
          refine n_iald (f := f 14) hx hb hK.1 hP 7 0 rfl rfl (i := 1) (by omega) (by decide) dX5_isReserved_65 ?_
          refine lv_goto (tgt := 70) hx hb dX5_isReserved_66 (by decide) ?_
          exact J70 _ (by first | rfl | (simp [m_power, c_8, c_9]; done) | (simp only [m_power, c_8, c_9, if_true, if_false, reduceIte, not_true_eq_false, not_false_eq_true]; done) | (simp only [m_power]; split <;> first | rfl | (simp_all; done) | omega) | (simp_all [m_power]; done))
      · skip
        refine lv_aload_n hx hb dX5_isReserved_45 rfl (lv_at hl 0 rfl) ?_
        refine va_get (D := E.1) (ci := 5) (v := .ref (r 12)) (C := RX5) (T := TX5) (N := 26) hx hb hts (fun _ h => (List.mem_cons_of_mem _ (List.mem_append_right _ h))) hown hK.1 hP 0 rfl rfl 12 (by decide) (hts _ (List.mem_of_getElem? (i := 1) rfl)) (fun _ h9 => h9) rfl dX5_isReserved_46 ?_
        refine lv_iconst (v := 1) hx hb dX5_isReserved_49 (by decide) ?_
        refine n_iald (f := f 12) hx hb hK.1 hP 5 0 rfl rfl (i := 1) (by omega) (by decide) dX5_isReserved_50 ?_
        refine lv_goto (tgt := 70) hx hb dX5_isReserved_51 (by decide) ?_
        exact J70 _ (by first | rfl | (simp [m_power, c_8]; done) | (simp only [m_power, c_8, if_true, if_false, reduceIte, not_true_eq_false, not_false_eq_true]; done) | (simp only [m_power]; split <;> first | rfl | (simp_all; done) | omega) | (simp_all [m_power]; done))
  · skip
    refine lv_aload_n hx hb dX5_isReserved_0 rfl (lv_at hl 0 rfl) ?_
    refine lv_iconst (v := 0) hx hb dX5_isReserved_1 (by decide) ?_
    refine lv_iload_n hx hb dX5_isReserved_2 rfl (lv_at hl 1 rfl) ?_
    refine lv_iload_n hx hb dX5_isReserved_3 rfl (lv_at hl 3 rfl) ?_
    refine cR_V ⟨hx, hb, hml, hown, hts⟩ (c_X5_isReady l E r v f B C 0 h a (by omega) (by omega)) (cwV 3 hts gX5_isReserved_X5_isReady rfl rfl rfl (by decide +kernel) ⟨Nat.le_of_ble_eq_true rfl, Nat.le_of_ble_eq_true rfl⟩) hK hP 5 0 rfl rfl rfl hl.1 rfl (Nat.le_of_ble_eq_true rfl) dX5_isReserved_4 ⟨Nat.le_of_ble_eq_true rfl, Nat.le_of_ble_eq_true rfl⟩ ?_
    refine b_if_eq (q := (a = 0 ∧ f 16 (24 * 0 + h) = 0)) (tgt := 19) hx hb dX5_isReserved_7 (by decide) (fun c_10 => ?_) (fun c_10 => ?_)
    · skip
      refine lv_iload_n hx hb dX5_isReserved_19 rfl (lv_at hl 3 rfl) ?_
      refine lv_iconst (v := 2) hx hb dX5_isReserved_20 (by decide) ?_
      refine lv_icmp_ne (tgt := 33) hx hb dX5_isReserved_21 (by decide) (fun c_11 => ?_) (fun c_11 => ?_)
      · skip
        refine lv_iconst (v := 0) hx hb dX5_isReserved_33 (by decide) ?_
        exact J34 _ (by first | rfl | (simp [m_power, c_10, c_11]; done) | (simp only [m_power, c_10, c_11, if_true, if_false, reduceIte, not_true_eq_false, not_false_eq_true]; done) | (simp only [m_power]; split <;> first | rfl | (simp_all; done) | omega) | (simp_all [m_power]; done))
      · skip
        refine lv_aload_n hx hb dX5_isReserved_24 rfl (lv_at hl 0 rfl) ?_
        refine va_get (D := E.1) (ci := 5) (v := .ref (r 14)) (C := RX5) (T := TX5) (N := 26) hx hb hts (fun _ h => (List.mem_cons_of_mem _ (List.mem_append_right _ h))) hown hK.1 hP 0 rfl rfl 14 (by decide) (hts _ (List.mem_of_getElem? (i := 2) rfl)) (fun _ h9 => h9) rfl dX5_isReserved_25 ?_
        refine lv_iconst (v := 0) hx hb dX5_isReserved_28 (by decide) ?_
        refine n_iald (f := f 14) hx hb hK.1 hP 7 0 rfl rfl (i := 0) (by omega) (by decide) dX5_isReserved_29 ?_
        refine lv_goto (tgt := 34) hx hb dX5_isReserved_30 (by decide) ?_
        exact J34 _ (by first | rfl | (simp [m_power, c_10, c_11]; done) | (simp only [m_power, c_10, c_11, if_true, if_false, reduceIte, not_true_eq_false, not_false_eq_true]; done) | (simp only [m_power]; split <;> first | rfl | (simp_all; done) | omega) | (simp_all [m_power]; done))
    · skip
      refine lv_aload_n hx hb dX5_isReserved_10 rfl (lv_at hl 0 rfl) ?_
      refine va_get (D := E.1) (ci := 5) (v := .ref (r 12)) (C := RX5) (T := TX5) (N := 26) hx hb hts (fun _ h => (List.mem_cons_of_mem _ (List.mem_append_right _ h))) hown hK.1 hP 0 rfl rfl 12 (by decide) (hts _ (List.mem_of_getElem? (i := 1) rfl)) (fun _ h9 => h9) rfl dX5_isReserved_11 ?_
      refine lv_iconst (v := 0) hx hb dX5_isReserved_14 (by decide) ?_
      refine n_iald (f := f 12) hx hb hK.1 hP 5 0 rfl rfl (i := 0) (by omega) (by decide) dX5_isReserved_15 ?_
      refine lv_goto (tgt := 34) hx hb dX5_isReserved_16 (by decide) ?_
      exact J34 _ (by first | rfl | (simp [m_power, c_10]; done) | (simp only [m_power, c_10, if_true, if_false, reduceIte, not_true_eq_false, not_false_eq_true]; done) | (simp only [m_power]; split <;> first | rfl | (simp_all; done) | omega) | (simp_all [m_power]; done))
set_option maxHeartbeats 4000000 in
set_option maxRecDepth 100000 in
theorem c_X5_isLegal (l : Launch) (E : GG) (r : Nat → Nat) (v : Nat → Int32) (f : Nat → Nat → Int32) (B C : Nat → Int32) (h : Nat) (u : Int32) (l1 : Int32) (p0 : Int32) (q0 : Int32) (a : Int32) (b : Int32) (hh : h < 24) : Met l yX5_isLegal wsX5_isLegal (Rm 2 0 0) (pR E [.ref (r 0), .int (nI h), .int u, .int l1, .int p0, .int q0, .int a, .int b] (MW E r v f B C)) (QcRead (bI (m_legal v f h u l1 p0 q0 a b))) 0 0 (fun _ => False) := by
  refine ofR (by decide) rfl (Nat.le_of_ble_eq_true rfl) ?_
  intro p e s m below meth c hx hb hr hlocks hml hown hts hK hP ls hl
  have hl : lv_has ls 12 [(0, .ref (r 0)), (1, .int (nI h)), (2, .int u), (3, .int l1), (4, .int p0), (5, .int q0), (6, .int a), (7, .int b)] := hl
  refine lv_aload_n hx hb dX5_isLegal_0 rfl (lv_at hl 0 rfl) ?_
  refine lv_iload hx hb dX5_isLegal_1 (lv_at hl 6 rfl) ?_
  refine lv_iload hx hb dX5_isLegal_3 (lv_at hl 7 rfl) ?_
  refine cR_V ⟨hx, hb, hml, hown, hts⟩ (c_X5_loses l E r v f B C a b) (cwV 2 hts gX5_isLegal_X5_loses rfl rfl rfl (by decide +kernel) ⟨Nat.le_of_ble_eq_true rfl, Nat.le_of_ble_eq_true rfl⟩) hK hP 5 0 rfl rfl rfl hl.1 rfl (Nat.le_of_ble_eq_true rfl) dX5_isLegal_5 ⟨Nat.le_of_ble_eq_true rfl, Nat.le_of_ble_eq_true rfl⟩ ?_
  refine lv_istore (lv' := [(8, .int (m_loses f a b)), (0, .ref (r 0)), (1, .int (nI h)), (2, .int u), (3, .int l1), (4, .int p0), (5, .int q0), (6, .int a), (7, .int b)]) hx hb dX5_isLegal_8 hl (by decide) rfl (fun ls hl => ?_)
  refine lv_iload_n hx hb dX5_isLegal_10 rfl (lv_at hl 3 rfl) ?_
  refine lv_aload_n hx hb dX5_isLegal_11 rfl (lv_at hl 1 rfl) ?_
  refine va_get (D := E.1) (ci := 5) (v := .ref (r 8)) (C := RX5) (T := TX5) (N := 26) hx hb hts (fun _ h => (List.mem_cons_of_mem _ (List.mem_append_right _ h))) hown hK.1 hP 0 rfl rfl 8 (by decide) (hts _ (List.mem_of_getElem? (i := 1) rfl)) (fun _ h9 => h9) rfl dX5_isLegal_12 ?_
  refine lv_iload_n hx hb dX5_isLegal_15 rfl (lv_at hl 2 rfl) ?_
  refine n_iald (f := f 8) hx hb hK.1 hP 1 0 rfl rfl (i := h) (by omega) (by decide) dX5_isLegal_16 ?_
  refine lv_iadd hx hb dX5_isLegal_17 ?_
  refine lv_iload hx hb dX5_isLegal_18 (lv_at hl 0 rfl) ?_
  refine lv_isub hx hb dX5_isLegal_20 ?_
  refine lv_istore (lv' := [(9, .int ((u + (f 8 h)) - (m_loses f a b))), (8, .int (m_loses f a b)), (0, .ref (r 0)), (1, .int (nI h)), (2, .int u), (3, .int l1), (4, .int p0), (5, .int q0), (6, .int a), (7, .int b)]) hx hb dX5_isLegal_21 hl (by decide) rfl (fun ls hl => ?_)
  refine lv_iload_n hx hb dX5_isLegal_23 rfl (lv_at hl 5 rfl) ?_
  refine lv_iload hx hb dX5_isLegal_24 (lv_at hl 1 rfl) ?_
  refine lv_iadd hx hb dX5_isLegal_26 ?_
  refine lv_aload_n hx hb dX5_isLegal_27 rfl (lv_at hl 2 rfl) ?_
  refine va_get (D := E.1) (ci := 5) (v := .ref (r 9)) (C := RX5) (T := TX5) (N := 26) hx hb hts (fun _ h => (List.mem_cons_of_mem _ (List.mem_append_right _ h))) hown hK.1 hP 0 rfl rfl 9 (by decide) (hts _ (List.mem_of_getElem? (i := 2) rfl)) (fun _ h9 => h9) rfl dX5_isLegal_28 ?_
  refine lv_iload_n hx hb dX5_isLegal_31 rfl (lv_at hl 3 rfl) ?_
  refine n_iald (f := f 9) hx hb hK.1 hP 2 0 rfl rfl (i := h) (by omega) (by decide) dX5_isLegal_32 ?_
  refine lv_isub hx hb dX5_isLegal_33 ?_
  refine lv_istore (lv' := [(10, .int ((l1 + (m_loses f a b)) - (f 9 h))), (9, .int ((u + (f 8 h)) - (m_loses f a b))), (8, .int (m_loses f a b)), (0, .ref (r 0)), (1, .int (nI h)), (2, .int u), (3, .int l1), (4, .int p0), (5, .int q0), (6, .int a), (7, .int b)]) hx hb dX5_isLegal_34 hl (by decide) rfl (fun ls hl => ?_)
  refine w_join (fun x : Int32 => x = bI (m_fits v f h u l1 a b)) (fun x => F0 m 93 ls (.int x :: [])) ?_ (fun J93 => ?_)
  · rintro _ rfl
    refine lv_istore (lv' := [(11, .int (bI (m_fits v f h u l1 a b))), (10, .int ((l1 + (m_loses f a b)) - (f 9 h))), (9, .int ((u + (f 8 h)) - (m_loses f a b))), (8, .int (m_loses f a b)), (0, .ref (r 0)), (1, .int (nI h)), (2, .int u), (3, .int l1), (4, .int p0), (5, .int q0), (6, .int a), (7, .int b)]) hx hb dX5_isLegal_93 hl (by decide) rfl (fun ls hl => ?_)
    refine lv_iload hx hb dX5_isLegal_95 (lv_at hl 0 rfl) ?_
    refine b_if_eq (q := (m_fits v f h u l1 a b)) (tgt := 143) hx hb dX5_isLegal_97 (by decide) (fun c_1 => ?_) (fun c_1 => ?_)
    · skip
      refine lv_iconst (v := 0) hx hb dX5_isLegal_143 (by decide) ?_
      exact z_ret hx hb hr hlocks rfl (by first | rfl | (simp [bI, m_legal, c_1]; done) | (simp only [bI, m_legal, c_1, if_true, if_false, reduceIte, not_true_eq_false, not_false_eq_true]; done) | (simp only [bI, m_legal]; split <;> first | rfl | (simp_all; done) | omega) | (simp_all [bI, m_legal]; done)) dX5_isLegal_144
    · skip
      refine lv_aload_n hx hb dX5_isLegal_100 rfl (lv_at hl 4 rfl) ?_
      refine lv_iconst (v := 0) hx hb dX5_isLegal_101 (by decide) ?_
      refine lv_iload_n hx hb dX5_isLegal_102 rfl (lv_at hl 5 rfl) ?_
      refine lv_iload hx hb dX5_isLegal_103 (lv_at hl 8 rfl) ?_
      refine lv_iload hx hb dX5_isLegal_105 (lv_at hl 10 rfl) ?_
      refine cR_V ⟨hx, hb, hml, hown, hts⟩ (c_X5_mayGo l E r v f B C 0 h p0 a (by omega) (by omega)) (cwV 4 hts gX5_isLegal_X5_mayGo rfl rfl rfl (by decide +kernel) ⟨Nat.le_of_ble_eq_true rfl, Nat.le_of_ble_eq_true rfl⟩) hK hP 5 0 rfl rfl rfl hl.1 rfl (Nat.le_of_ble_eq_true rfl) dX5_isLegal_107 ⟨Nat.le_of_ble_eq_true rfl, Nat.le_of_ble_eq_true rfl⟩ ?_
      refine b_if_eq (q := (m_mayGo f 0 h p0 a)) (tgt := 143) hx hb dX5_isLegal_110 (by decide) (fun c_2 => ?_) (fun c_2 => ?_)
      · skip
        refine lv_iconst (v := 0) hx hb dX5_isLegal_143 (by decide) ?_
        exact z_ret hx hb hr hlocks rfl (by first | rfl | (simp [bI, m_legal, c_1, c_2]; done) | (simp only [bI, m_legal, c_1, c_2, if_true, if_false, reduceIte, not_true_eq_false, not_false_eq_true]; done) | (simp only [bI, m_legal]; split <;> first | rfl | (simp_all; done) | omega) | (simp_all [bI, m_legal]; done)) dX5_isLegal_144
      · skip
        refine lv_aload_n hx hb dX5_isLegal_113 rfl (lv_at hl 4 rfl) ?_
        refine lv_iconst (v := 1) hx hb dX5_isLegal_114 (by decide) ?_
        refine lv_iload_n hx hb dX5_isLegal_115 rfl (lv_at hl 5 rfl) ?_
        refine lv_iload hx hb dX5_isLegal_116 (lv_at hl 9 rfl) ?_
        refine lv_iload hx hb dX5_isLegal_118 (lv_at hl 11 rfl) ?_
        refine cR_V ⟨hx, hb, hml, hown, hts⟩ (c_X5_mayGo l E r v f B C 1 h q0 b (by omega) (by omega)) (cwV 4 hts gX5_isLegal_X5_mayGo rfl rfl rfl (by decide +kernel) ⟨Nat.le_of_ble_eq_true rfl, Nat.le_of_ble_eq_true rfl⟩) hK hP 5 0 rfl rfl rfl hl.1 rfl (Nat.le_of_ble_eq_true rfl) dX5_isLegal_120 ⟨Nat.le_of_ble_eq_true rfl, Nat.le_of_ble_eq_true rfl⟩ ?_
        refine b_if_eq (q := (m_mayGo f 1 h q0 b)) (tgt := 143) hx hb dX5_isLegal_123 (by decide) (fun c_3 => ?_) (fun c_3 => ?_)
        · skip
          refine lv_iconst (v := 0) hx hb dX5_isLegal_143 (by decide) ?_
          exact z_ret hx hb hr hlocks rfl (by first | rfl | (simp [bI, m_legal, c_1, c_2, c_3]; done) | (simp only [bI, m_legal, c_1, c_2, c_3, if_true, if_false, reduceIte, not_true_eq_false, not_false_eq_true]; done) | (simp only [bI, m_legal]; split <;> first | rfl | (simp_all; done) | omega) | (simp_all [bI, m_legal]; done)) dX5_isLegal_144
        · skip
          refine lv_aload_n hx hb dX5_isLegal_126 rfl (lv_at hl 4 rfl) ?_
          refine lv_iload_n hx hb dX5_isLegal_127 rfl (lv_at hl 5 rfl) ?_
          refine lv_iload_n hx hb dX5_isLegal_128 rfl (lv_at hl 6 rfl) ?_
          refine lv_iload hx hb dX5_isLegal_129 (lv_at hl 10 rfl) ?_
          refine lv_iload hx hb dX5_isLegal_131 (lv_at hl 11 rfl) ?_
          refine cR_V ⟨hx, hb, hml, hown, hts⟩ (c_X5_isReserved l E r v f B C h u a b (by omega)) (cwV 4 hts gX5_isLegal_X5_isReserved rfl rfl rfl (by decide +kernel) ⟨Nat.le_of_ble_eq_true rfl, Nat.le_of_ble_eq_true rfl⟩) hK hP 5 0 rfl rfl rfl hl.1 rfl (Nat.le_of_ble_eq_true rfl) dX5_isLegal_133 ⟨Nat.le_of_ble_eq_true rfl, Nat.le_of_ble_eq_true rfl⟩ ?_
          refine b_if_eq (q := (m_reserved f h u a b)) (tgt := 143) hx hb dX5_isLegal_136 (by decide) (fun c_4 => ?_) (fun c_4 => ?_)
          · skip
            refine lv_iconst (v := 0) hx hb dX5_isLegal_143 (by decide) ?_
            exact z_ret hx hb hr hlocks rfl (by first | rfl | (simp [bI, m_legal, c_1, c_2, c_3, c_4]; done) | (simp only [bI, m_legal, c_1, c_2, c_3, c_4, if_true, if_false, reduceIte, not_true_eq_false, not_false_eq_true]; done) | (simp only [bI, m_legal]; split <;> first | rfl | (simp_all; done) | omega) | (simp_all [bI, m_legal]; done)) dX5_isLegal_144
          · skip
            refine lv_iconst (v := 1) hx hb dX5_isLegal_139 (by decide) ?_
            refine lv_goto (tgt := 144) hx hb dX5_isLegal_140 (by decide) ?_
            exact z_ret hx hb hr hlocks rfl (by first | rfl | (simp [bI, m_legal, c_1, c_2, c_3, c_4]; done) | (simp only [bI, m_legal, c_1, c_2, c_3, c_4, if_true, if_false, reduceIte, not_true_eq_false, not_false_eq_true]; done) | (simp only [bI, m_legal]; split <;> first | rfl | (simp_all; done) | omega) | (simp_all [bI, m_legal]; done)) dX5_isLegal_144
  · skip
    refine lv_iload hx hb dX5_isLegal_36 (lv_at hl 1 rfl) ?_
    refine lv_iconst (v := 0) hx hb dX5_isLegal_38 (by decide) ?_
    refine lv_aload_n hx hb dX5_isLegal_39 rfl (lv_at hl 3 rfl) ?_
    refine va_get (D := E.1) (ci := 5) (v := .int (v 2)) (C := RX5) (T := TX5) (N := 26) hx hb hts (fun _ h => (List.mem_cons_of_mem _ (List.mem_append_right _ h))) hown hK.1 hP 0 rfl rfl 2 (by decide) (hts _ (List.mem_of_getElem? (i := 3) rfl)) (fun _ h9 => h9) rfl dX5_isLegal_40 ?_
    refine cR_S ⟨hx, hb, hml, hown, hts⟩ (c_X5_within l E ((u + (f 8 h)) - (m_loses f a b)) 0 (v 2)) (va_cwS 3 hts gX5_isLegal_X5_within rfl rfl rfl (by decide +kernel) ⟨Nat.le_of_ble_eq_true rfl, Nat.le_of_ble_eq_true rfl⟩) hK nilP rfl hl.1 rfl (Nat.le_of_ble_eq_true rfl) dX5_isLegal_43 ⟨Nat.le_of_ble_eq_true rfl, Nat.le_of_ble_eq_true rfl⟩ ?_
    refine b_if_eq (q := (m_in ((u + (f 8 h)) - (m_loses f a b)) 0 (v 2))) (tgt := 92) hx hb dX5_isLegal_46 (by decide) (fun c_5 => ?_) (fun c_5 => ?_)
    · skip
      refine lv_iconst (v := 0) hx hb dX5_isLegal_92 (by decide) ?_
      exact J93 _ (by first | rfl | (simp [bI, m_fits, c_5]; done) | (simp only [bI, m_fits, c_5, if_true, if_false, reduceIte, not_true_eq_false, not_false_eq_true]; done) | (simp only [bI, m_fits]; split <;> first | rfl | (simp_all; done) | omega) | (simp_all [bI, m_fits]; done))
    · skip
      refine lv_iload hx hb dX5_isLegal_49 (lv_at hl 0 rfl) ?_
      refine lv_iconst (v := 0) hx hb dX5_isLegal_51 (by decide) ?_
      refine lv_aload_n hx hb dX5_isLegal_52 rfl (lv_at hl 3 rfl) ?_
      refine va_get (D := E.1) (ci := 5) (v := .int (v 3)) (C := RX5) (T := TX5) (N := 26) hx hb hts (fun _ h => (List.mem_cons_of_mem _ (List.mem_append_right _ h))) hown hK.1 hP 0 rfl rfl 3 (by decide) (hts _ (List.mem_of_getElem? (i := 4) rfl)) (fun _ h9 => h9) rfl dX5_isLegal_53 ?_
      refine cR_S ⟨hx, hb, hml, hown, hts⟩ (c_X5_within l E ((l1 + (m_loses f a b)) - (f 9 h)) 0 (v 3)) (va_cwS 3 hts gX5_isLegal_X5_within rfl rfl rfl (by decide +kernel) ⟨Nat.le_of_ble_eq_true rfl, Nat.le_of_ble_eq_true rfl⟩) hK nilP rfl hl.1 rfl (Nat.le_of_ble_eq_true rfl) dX5_isLegal_56 ⟨Nat.le_of_ble_eq_true rfl, Nat.le_of_ble_eq_true rfl⟩ ?_
      refine b_if_eq (q := (m_in ((l1 + (m_loses f a b)) - (f 9 h)) 0 (v 3))) (tgt := 92) hx hb dX5_isLegal_59 (by decide) (fun c_6 => ?_) (fun c_6 => ?_)
      · skip
        refine lv_iconst (v := 0) hx hb dX5_isLegal_92 (by decide) ?_
        exact J93 _ (by first | rfl | (simp [bI, m_fits, c_5, c_6]; done) | (simp only [bI, m_fits, c_5, c_6, if_true, if_false, reduceIte, not_true_eq_false, not_false_eq_true]; done) | (simp only [bI, m_fits]; split <;> first | rfl | (simp_all; done) | omega) | (simp_all [bI, m_fits]; done))
      · skip
        refine lv_iload hx hb dX5_isLegal_62 (lv_at hl 1 rfl) ?_
        refine lv_iload_n hx hb dX5_isLegal_64 rfl (lv_at hl 5 rfl) ?_
        refine cR_S ⟨hx, hb, hml, hown, hts⟩ (c_X5_far l E ((u + (f 8 h)) - (m_loses f a b)) u) (va_cwS 2 hts gX5_isLegal_X5_far rfl rfl rfl (by decide +kernel) ⟨Nat.le_of_ble_eq_true rfl, Nat.le_of_ble_eq_true rfl⟩) hK nilP rfl hl.1 rfl (Nat.le_of_ble_eq_true rfl) dX5_isLegal_65 ⟨Nat.le_of_ble_eq_true rfl, Nat.le_of_ble_eq_true rfl⟩ ?_
        refine lv_aload_n hx hb dX5_isLegal_68 rfl (lv_at hl 3 rfl) ?_
        refine va_get (D := E.1) (ci := 5) (v := .int (v 6)) (C := RX5) (T := TX5) (N := 26) hx hb hts (fun _ h => (List.mem_cons_of_mem _ (List.mem_append_right _ h))) hown hK.1 hP 0 rfl rfl 6 (by decide) (hts _ (List.mem_of_getElem? (i := 5) rfl)) (fun _ h9 => h9) rfl dX5_isLegal_69 ?_
        refine lv_icmp_gt (tgt := 92) hx hb dX5_isLegal_72 (by decide) (fun c_7 => ?_) (fun c_7 => ?_)
        · skip
          refine lv_iconst (v := 0) hx hb dX5_isLegal_92 (by decide) ?_
          exact J93 _ (by first | rfl | (simp [bI, m_fits, c_5, c_6, c_7]; done) | (simp only [bI, m_fits, c_5, c_6, c_7, if_true, if_false, reduceIte, not_true_eq_false, not_false_eq_true]; done) | (simp only [bI, m_fits]; split <;> first | rfl | (simp_all; done) | omega) | (simp_all [bI, m_fits]; done))
        · skip
          refine lv_iload hx hb dX5_isLegal_75 (lv_at hl 0 rfl) ?_
          refine lv_iload_n hx hb dX5_isLegal_77 rfl (lv_at hl 6 rfl) ?_
          refine cR_S ⟨hx, hb, hml, hown, hts⟩ (c_X5_far l E ((l1 + (m_loses f a b)) - (f 9 h)) l1) (va_cwS 2 hts gX5_isLegal_X5_far rfl rfl rfl (by decide +kernel) ⟨Nat.le_of_ble_eq_true rfl, Nat.le_of_ble_eq_true rfl⟩) hK nilP rfl hl.1 rfl (Nat.le_of_ble_eq_true rfl) dX5_isLegal_78 ⟨Nat.le_of_ble_eq_true rfl, Nat.le_of_ble_eq_true rfl⟩ ?_
          refine lv_aload_n hx hb dX5_isLegal_81 rfl (lv_at hl 3 rfl) ?_
          refine va_get (D := E.1) (ci := 5) (v := .int (v 7)) (C := RX5) (T := TX5) (N := 26) hx hb hts (fun _ h => (List.mem_cons_of_mem _ (List.mem_append_right _ h))) hown hK.1 hP 0 rfl rfl 7 (by decide) (hts _ (List.mem_of_getElem? (i := 6) rfl)) (fun _ h9 => h9) rfl dX5_isLegal_82 ?_
          refine lv_icmp_gt (tgt := 92) hx hb dX5_isLegal_85 (by decide) (fun c_8 => ?_) (fun c_8 => ?_)
          · skip
            refine lv_iconst (v := 0) hx hb dX5_isLegal_92 (by decide) ?_
            exact J93 _ (by first | rfl | (simp [bI, m_fits, c_5, c_6, c_7, c_8]; done) | (simp only [bI, m_fits, c_5, c_6, c_7, c_8, if_true, if_false, reduceIte, not_true_eq_false, not_false_eq_true]; done) | (simp only [bI, m_fits]; split <;> first | rfl | (simp_all; done) | omega) | (simp_all [bI, m_fits]; done))
          · skip
            refine lv_iconst (v := 1) hx hb dX5_isLegal_88 (by decide) ?_
            refine lv_goto (tgt := 93) hx hb dX5_isLegal_89 (by decide) ?_
            exact J93 _ (by first | rfl | (simp [bI, m_fits, c_5, c_6, c_7, c_8]; done) | (simp only [bI, m_fits, c_5, c_6, c_7, c_8, if_true, if_false, reduceIte, not_true_eq_false, not_false_eq_true]; done) | (simp only [bI, m_fits]; split <;> first | rfl | (simp_all; done) | omega) | (simp_all [bI, m_fits]; done))
set_option maxHeartbeats 4000000 in
set_option maxRecDepth 100000 in
theorem c_X5_money (l : Launch) (E : GG) (r : Nat → Nat) (v : Nat → Int32) (f : Nat → Nat → Int32) (B C : Nat → Int32) (w : Nat) (h : Nat) (p0 : Int32) (q0 : Int32) (a : Int32) (b : Int32) (hw : w < 3) (hh : h < 24) : Met l yX5_money wsX5_money (Rm 0 0 0) (pR E [.ref (r 0), .int (nI w), .int (nI h), .int p0, .int q0, .int a, .int b] (MW E r v f B C)) (QcRead (m_money f w h p0 q0 a b)) 0 0 (fun _ => False) := by
  refine ofR (by decide) rfl (Nat.le_of_ble_eq_true rfl) ?_
  intro p e s m below meth c hx hb hr hlocks hml hown hts hK hP ls hl
  have hl : lv_has ls 9 [(0, .ref (r 0)), (1, .int (nI w)), (2, .int (nI h)), (3, .int p0), (4, .int q0), (5, .int a), (6, .int b)] := hl
  refine w_join (fun x : Int32 => x = m_energy f 0 a) (fun x => F0 m 32 ls (.int x :: [])) ?_ (fun J32 => ?_)
  · rintro _ rfl
    refine w_join (fun x : Int32 => x = m_energy f 1 b) (fun x => F0 m 64 ls (.int x :: [.int (m_energy f 0 a)])) ?_ (fun J64 => ?_)
    · rintro _ rfl
      refine lv_iadd hx hb dX5_money_64 ?_
      refine lv_istore (lv' := [(7, .int ((m_energy f 0 a) + (m_energy f 1 b))), (0, .ref (r 0)), (1, .int (nI w)), (2, .int (nI h)), (3, .int p0), (4, .int q0), (5, .int a), (6, .int b)]) hx hb dX5_money_65 hl (by decide) rfl (fun ls hl => ?_)
      refine w_join (fun x : Int32 => x = m_start f 0 p0 a) (fun x => F0 m 86 ls (.int x :: [])) ?_ (fun J86 => ?_)
      · rintro _ rfl
        refine w_join (fun x : Int32 => x = m_start f 1 q0 b) (fun x => F0 m 106 ls (.int x :: [.int (m_start f 0 p0 a)])) ?_ (fun J106 => ?_)
        · rintro _ rfl
          refine lv_iadd hx hb dX5_money_106 ?_
          refine lv_istore (lv' := [(8, .int ((m_start f 0 p0 a) + (m_start f 1 q0 b))), (7, .int ((m_energy f 0 a) + (m_energy f 1 b))), (0, .ref (r 0)), (1, .int (nI w)), (2, .int (nI h)), (3, .int p0), (4, .int q0), (5, .int a), (6, .int b)]) hx hb dX5_money_107 hl (by decide) rfl (fun ls hl => ?_)
          refine lv_aload_n hx hb dX5_money_109 rfl (lv_at hl 2 rfl) ?_
          refine va_get (D := E.1) (ci := 5) (v := .ref (r 18)) (C := RX5) (T := TX5) (N := 26) hx hb hts (fun _ h => (List.mem_cons_of_mem _ (List.mem_append_right _ h))) hown hK.1 hP 0 rfl rfl 18 (by decide) (hts _ (List.mem_of_getElem? (i := 4) rfl)) (fun _ h9 => h9) rfl dX5_money_110 ?_
          refine lv_bipush (v := 24) hx hb dX5_money_113 (by decide) ?_
          refine lv_iload_n hx hb dX5_money_115 rfl (lv_at hl 3 rfl) ?_
          refine lv_imul hx hb dX5_money_116 ?_
          refine w_top (show (24 * (nI w)) = (nI (24 * w)) from pk_mul _ _) ?_
          refine lv_iload_n hx hb dX5_money_117 rfl (lv_at hl 4 rfl) ?_
          refine lv_iadd hx hb dX5_money_118 ?_
          refine w_top (show ((nI (24 * w)) + (nI h)) = (nI ((24 * w) + h)) from nI_add _ _) ?_
          refine n_iald (f := f 18) hx hb hK.1 hP 11 0 rfl rfl (i := (24 * w) + h) (by omega) (by decide) dX5_money_119 ?_
          refine lv_iload hx hb dX5_money_120 (lv_at hl 1 rfl) ?_
          refine lv_imul hx hb dX5_money_122 ?_
          refine lv_iload hx hb dX5_money_123 (lv_at hl 0 rfl) ?_
          refine lv_isub hx hb dX5_money_125 ?_
          exact r_ret hx hb hr hlocks (by first | rfl | (simp [m_money]; done) | (simp only [m_money, if_true, if_false, reduceIte, not_true_eq_false, not_false_eq_true]; done) | (simp only [m_money]; split <;> first | rfl | (simp_all; done) | omega) | (simp_all [m_money]; done)) dX5_money_126
        · skip
          refine lv_iload hx hb dX5_money_86 (lv_at hl 5 rfl) ?_
          refine lv_if_ne (tgt := 105) hx hb dX5_money_88 (by decide) (fun c_1 => ?_) (fun c_1 => ?_)
          · skip
            refine lv_iconst (v := 0) hx hb dX5_money_105 (by decide) ?_
            exact J106 _ (by first | rfl | (simp [m_start, c_1]; done) | (simp only [m_start, c_1, if_true, if_false, reduceIte, not_true_eq_false, not_false_eq_true]; done) | (simp only [m_start]; split <;> first | rfl | (simp_all; done) | omega) | (simp_all [m_start]; done))
          · skip
            refine lv_iload hx hb dX5_money_91 (lv_at hl 7 rfl) ?_
            refine lv_if_eq (tgt := 105) hx hb dX5_money_93 (by decide) (fun c_2 => ?_) (fun c_2 => ?_)
            · skip
              refine lv_iconst (v := 0) hx hb dX5_money_105 (by decide) ?_
              exact J106 _ (by first | rfl | (simp [m_start, c_1, c_2]; done) | (simp only [m_start, c_1, c_2, if_true, if_false, reduceIte, not_true_eq_false, not_false_eq_true]; done) | (simp only [m_start]; split <;> first | rfl | (simp_all; done) | omega) | (simp_all [m_start]; done))
            · skip
              refine lv_aload_n hx hb dX5_money_96 rfl (lv_at hl 1 rfl) ?_
              refine va_get (D := E.1) (ci := 5) (v := .ref (r 15)) (C := RX5) (T := TX5) (N := 26) hx hb hts (fun _ h => (List.mem_cons_of_mem _ (List.mem_append_right _ h))) hown hK.1 hP 0 rfl rfl 15 (by decide) (hts _ (List.mem_of_getElem? (i := 3) rfl)) (fun _ h9 => h9) rfl dX5_money_97 ?_
              refine lv_iconst (v := 1) hx hb dX5_money_100 (by decide) ?_
              refine n_iald (f := f 15) hx hb hK.1 hP 8 0 rfl rfl (i := 1) (by omega) (by decide) dX5_money_101 ?_
              refine lv_goto (tgt := 106) hx hb dX5_money_102 (by decide) ?_
              exact J106 _ (by first | rfl | (simp [m_start, c_1, c_2]; done) | (simp only [m_start, c_1, c_2, if_true, if_false, reduceIte, not_true_eq_false, not_false_eq_true]; done) | (simp only [m_start]; split <;> first | rfl | (simp_all; done) | omega) | (simp_all [m_start]; done))
      · skip
        refine lv_iload_n hx hb dX5_money_67 rfl (lv_at hl 4 rfl) ?_
        refine lv_if_ne (tgt := 85) hx hb dX5_money_68 (by decide) (fun c_3 => ?_) (fun c_3 => ?_)
        · skip
          refine lv_iconst (v := 0) hx hb dX5_money_85 (by decide) ?_
          exact J86 _ (by first | rfl | (simp [m_start, c_3]; done) | (simp only [m_start, c_3, if_true, if_false, reduceIte, not_true_eq_false, not_false_eq_true]; done) | (simp only [m_start]; split <;> first | rfl | (simp_all; done) | omega) | (simp_all [m_start]; done))
        · skip
          refine lv_iload hx hb dX5_money_71 (lv_at hl 6 rfl) ?_
          refine lv_if_eq (tgt := 85) hx hb dX5_money_73 (by decide) (fun c_4 => ?_) (fun c_4 => ?_)
          · skip
            refine lv_iconst (v := 0) hx hb dX5_money_85 (by decide) ?_
            exact J86 _ (by first | rfl | (simp [m_start, c_3, c_4]; done) | (simp only [m_start, c_3, c_4, if_true, if_false, reduceIte, not_true_eq_false, not_false_eq_true]; done) | (simp only [m_start]; split <;> first | rfl | (simp_all; done) | omega) | (simp_all [m_start]; done))
          · skip
            refine lv_aload_n hx hb dX5_money_76 rfl (lv_at hl 1 rfl) ?_
            refine va_get (D := E.1) (ci := 5) (v := .ref (r 15)) (C := RX5) (T := TX5) (N := 26) hx hb hts (fun _ h => (List.mem_cons_of_mem _ (List.mem_append_right _ h))) hown hK.1 hP 0 rfl rfl 15 (by decide) (hts _ (List.mem_of_getElem? (i := 3) rfl)) (fun _ h9 => h9) rfl dX5_money_77 ?_
            refine lv_iconst (v := 0) hx hb dX5_money_80 (by decide) ?_
            refine n_iald (f := f 15) hx hb hK.1 hP 8 0 rfl rfl (i := 0) (by omega) (by decide) dX5_money_81 ?_
            refine lv_goto (tgt := 86) hx hb dX5_money_82 (by decide) ?_
            exact J86 _ (by first | rfl | (simp [m_start, c_3, c_4]; done) | (simp only [m_start, c_3, c_4, if_true, if_false, reduceIte, not_true_eq_false, not_false_eq_true]; done) | (simp only [m_start]; split <;> first | rfl | (simp_all; done) | omega) | (simp_all [m_start]; done))
    · skip
      refine lv_iload hx hb dX5_money_32 (lv_at hl 6 rfl) ?_
      refine lv_iconst (v := 1) hx hb dX5_money_34 (by decide) ?_
      refine lv_icmp_ne (tgt := 47) hx hb dX5_money_35 (by decide) (fun c_5 => ?_) (fun c_5 => ?_)
      · skip
        refine lv_iload hx hb dX5_money_47 (lv_at hl 6 rfl) ?_
        refine lv_iconst (v := 2) hx hb dX5_money_49 (by decide) ?_
        refine lv_icmp_ne (tgt := 63) hx hb dX5_money_50 (by decide) (fun c_6 => ?_) (fun c_6 => ?_)
        · skip
          refine lv_iconst (v := 0) hx hb dX5_money_63 (by decide) ?_
          exact J64 _ (by first | rfl | (simp [m_energy, c_5, c_6]; done) | (simp only [m_energy, c_5, c_6, if_true, if_false, reduceIte, not_true_eq_false, not_false_eq_true]; done) | (simp only [m_energy]; split <;> first | rfl | (simp_all; done) | omega) | (simp_all [m_energy]; done))
        · skip
          refine lv_aload_n hx hb dX5_money_53 rfl (lv_at hl 0 rfl) ?_
          refine va_get (D := E.1) (ci := 5) (v := .ref (r 14)) (C := RX5) (T := TX5) (N := 26) hx hb hts (fun _ h => (List.mem_cons_of_mem _ (List.mem_append_right _ h))) hown hK.1 hP 0 rfl rfl 14 (by decide) (hts _ (List.mem_of_getElem? (i := 2) rfl)) (fun _ h9 => h9) rfl dX5_money_54 ?_
          refine lv_iconst (v := 1) hx hb dX5_money_57 (by decide) ?_
          refine n_iald (f := f 14) hx hb hK.1 hP 7 0 rfl rfl (i := 1) (by omega) (by decide) dX5_money_58 ?_
          refine lv_ineg hx hb dX5_money_59 ?_
          refine lv_goto (tgt := 64) hx hb dX5_money_60 (by decide) ?_
          exact J64 _ (by first | rfl | (simp [m_energy, c_5, c_6]; done) | (simp only [m_energy, c_5, c_6, if_true, if_false, reduceIte, not_true_eq_false, not_false_eq_true]; done) | (simp only [m_energy]; split <;> first | rfl | (simp_all; done) | omega) | (simp_all [m_energy]; done))
      · skip
        refine lv_aload_n hx hb dX5_money_38 rfl (lv_at hl 0 rfl) ?_
        refine va_get (D := E.1) (ci := 5) (v := .ref (r 12)) (C := RX5) (T := TX5) (N := 26) hx hb hts (fun _ h => (List.mem_cons_of_mem _ (List.mem_append_right _ h))) hown hK.1 hP 0 rfl rfl 12 (by decide) (hts _ (List.mem_of_getElem? (i := 1) rfl)) (fun _ h9 => h9) rfl dX5_money_39 ?_
        refine lv_iconst (v := 1) hx hb dX5_money_42 (by decide) ?_
        refine n_iald (f := f 12) hx hb hK.1 hP 5 0 rfl rfl (i := 1) (by omega) (by decide) dX5_money_43 ?_
        refine lv_goto (tgt := 64) hx hb dX5_money_44 (by decide) ?_
        exact J64 _ (by first | rfl | (simp [m_energy, c_5]; done) | (simp only [m_energy, c_5, if_true, if_false, reduceIte, not_true_eq_false, not_false_eq_true]; done) | (simp only [m_energy]; split <;> first | rfl | (simp_all; done) | omega) | (simp_all [m_energy]; done))
  · skip
    refine lv_iload hx hb dX5_money_0 (lv_at hl 5 rfl) ?_
    refine lv_iconst (v := 1) hx hb dX5_money_2 (by decide) ?_
    refine lv_icmp_ne (tgt := 15) hx hb dX5_money_3 (by decide) (fun c_7 => ?_) (fun c_7 => ?_)
    · skip
      refine lv_iload hx hb dX5_money_15 (lv_at hl 5 rfl) ?_
      refine lv_iconst (v := 2) hx hb dX5_money_17 (by decide) ?_
      refine lv_icmp_ne (tgt := 31) hx hb dX5_money_18 (by decide) (fun c_8 => ?_) (fun c_8 => ?_)
      · skip
        refine lv_iconst (v := 0) hx hb dX5_money_31 (by decide) ?_
        exact J32 _ (by first | rfl | (simp [m_energy, c_7, c_8]; done) | (simp only [m_energy, c_7, c_8, if_true, if_false, reduceIte, not_true_eq_false, not_false_eq_true]; done) | (simp only [m_energy]; split <;> first | rfl | (simp_all; done) | omega) | (simp_all [m_energy]; done))
      · skip
        refine lv_aload_n hx hb dX5_money_21 rfl (lv_at hl 0 rfl) ?_
        refine va_get (D := E.1) (ci := 5) (v := .ref (r 14)) (C := RX5) (T := TX5) (N := 26) hx hb hts (fun _ h => (List.mem_cons_of_mem _ (List.mem_append_right _ h))) hown hK.1 hP 0 rfl rfl 14 (by decide) (hts _ (List.mem_of_getElem? (i := 2) rfl)) (fun _ h9 => h9) rfl dX5_money_22 ?_
        refine lv_iconst (v := 0) hx hb dX5_money_25 (by decide) ?_
        refine n_iald (f := f 14) hx hb hK.1 hP 7 0 rfl rfl (i := 0) (by omega) (by decide) dX5_money_26 ?_
        refine lv_ineg hx hb dX5_money_27 ?_
        refine lv_goto (tgt := 32) hx hb dX5_money_28 (by decide) ?_
        exact J32 _ (by first | rfl | (simp [m_energy, c_7, c_8]; done) | (simp only [m_energy, c_7, c_8, if_true, if_false, reduceIte, not_true_eq_false, not_false_eq_true]; done) | (simp only [m_energy]; split <;> first | rfl | (simp_all; done) | omega) | (simp_all [m_energy]; done))
    · skip
      refine lv_aload_n hx hb dX5_money_6 rfl (lv_at hl 0 rfl) ?_
      refine va_get (D := E.1) (ci := 5) (v := .ref (r 12)) (C := RX5) (T := TX5) (N := 26) hx hb hts (fun _ h => (List.mem_cons_of_mem _ (List.mem_append_right _ h))) hown hK.1 hP 0 rfl rfl 12 (by decide) (hts _ (List.mem_of_getElem? (i := 1) rfl)) (fun _ h9 => h9) rfl dX5_money_7 ?_
      refine lv_iconst (v := 0) hx hb dX5_money_10 (by decide) ?_
      refine n_iald (f := f 12) hx hb hK.1 hP 5 0 rfl rfl (i := 0) (by omega) (by decide) dX5_money_11 ?_
      refine lv_goto (tgt := 32) hx hb dX5_money_12 (by decide) ?_
      exact J32 _ (by first | rfl | (simp [m_energy, c_7]; done) | (simp only [m_energy, c_7, if_true, if_false, reduceIte, not_true_eq_false, not_false_eq_true]; done) | (simp only [m_energy]; split <;> first | rfl | (simp_all; done) | omega) | (simp_all [m_energy]; done))
