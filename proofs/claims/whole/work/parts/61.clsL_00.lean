abbrev CZ (E : GG) (r z : Nat → Nat) (v : Nat → Int32) (f : Nat → Nat → Int32) : va_W := [((r 4), .inr (0, [.ref (r 1), .ref (r 2), .ref (r 3), .ref (r 18), .ref (r 19), .ref (r 20), .ref (r 21), .ref (r 22), .ref (r 23)])), ((r 1), .inr (1, [.int (v 0), .int (v 1), .int (v 2), .int (v 3), .int (v 4), .int (v 5), .ref (r 13), .ref (r 14), .ref (r 15)])), ((r 2), .inr (2, [.int (v 10), .int (v 11), .int (v 12), .int (v 13), .int (v 14), .int (v 15), .int (v 16), .ref (r 16)])), ((r 3), .inr (2, [.int (v 20), .int (v 21), .int (v 22), .int (v 23), .int (v 24), .int (v 25), .int (v 26), .ref (r 17)])), ((r 13), .inl (E.2 0, 24, .inl (f 13))), ((r 14), .inl (E.2 0, 24, .inl (f 14))), ((r 15), .inl (E.2 0, 24, .inl (f 15))), ((r 16), .inl (E.2 1, 24, .inl (f 16))), ((r 17), .inl (E.2 1, 24, .inl (f 17))), ((r 18), .inl (E.2 0, 216, .inl (f 18))), ((r 19), .inl (E.2 0, 216, .inl (f 19))), ((r 20), .inl (E.2 0, 216, .inl (f 20))), ((r 21), .inl (E.2 0, 216, .inl (f 21))), ((r 22), .inl (E.2 0, 216, .inl (f 22))), ((r 23), .inl (E.2 0, 81, .inl (f 23))), ((r 0), .inr (4, [.ref (r 1), .ref (r 2), .ref (r 3), .ref (r 4), .ref (r 9), .ref (r 8), .ref (r 10), .ref (r 11), .ref (r 12), .int (v 30), .int (v 31), .int (v 32), .int (v 33)])), (r 9, .inl (E.2 2, 3, .inr (.inr (.inr (.inr (va_up (va_up (va_up (fun _ => none) 0 (some (r 5))) 1 (some (r 6))) 2 (some (r 7)))))))), ((r 10), .inl (E.2 0, 3, .inl (f 10))), ((r 11), .inl (E.2 0, 41, .inl (f 11))), ((r 12), .inl (E.2 0, 3, .inl (f 12))), ((r 5), .inr (3, [.ref (r 24), .int (v 40), .ref (z 0), .ref (z 4), .ref (r 36)])), ((r 24), .inl (E.2 0, 24, .inl (f 24))), ((z 0), .inl (E.2 0, 369, .inl (f 28))), ((z 4), .inl (E.2 0, 369, .inl (f 32))), ((r 36), .inl (E.2 0, 369, .inl (f 36))), ((r 6), .inr (3, [.ref (r 25), .int (v 41), .ref (z 1), .ref (z 5), .ref (r 37)])), ((r 25), .inl (E.2 0, 24, .inl (f 25))), ((z 1), .inl (E.2 0, 369, .inl (f 29))), ((z 5), .inl (E.2 0, 369, .inl (f 33))), ((r 37), .inl (E.2 0, 369, .inl (f 37))), ((r 7), .inr (3, [.ref (r 26), .int (v 42), .ref (z 2), .ref (z 6), .ref (r 38)])), ((r 26), .inl (E.2 0, 24, .inl (f 26))), ((z 2), .inl (E.2 0, 369, .inl (f 30))), ((z 6), .inl (E.2 0, 369, .inl (f 34))), ((r 38), .inl (E.2 0, 369, .inl (f 38))), ((r 8), .inr (3, [.ref (r 27), .int (v 43), .ref (z 3), .ref (z 7), .ref (r 39)])), ((r 27), .inl (E.2 0, 24, .inl (f 27))), ((z 3), .inl (E.2 0, 369, .inl (f 31))), ((z 7), .inl (E.2 0, 369, .inl (f 35))), ((r 39), .inl (E.2 0, 369, .inl (f 39)))]
/-- a state of the class: the addresses of the rows that change places, its numbers, its rows -/
abbrev CS : Type := (Nat → Nat) × (Nat → Int32) × (Nat → Nat → Int32)
abbrev unk : Int32 := -2000000000
/-- nothing is known any more -/
def chg (f : Nat → Nat → Int32) : Nat → Nat → Int32 := va_up (va_up f 11 (fun _ => -2000000000)) 12 (fun _ => -2000000000)
set_option maxHeartbeats 4000000 in
set_option maxRecDepth 100000 in
theorem c_X4_within (l : Launch) (E : GG)  (x : Int32) (lo : Int32) (hi : Int32)  : Met l yX4_within wsX4_within (Rm 0 0 0) (pR E [.int x, .int lo, .int hi] ([])) (QcRead (bI (m_in x lo hi))) 0 0 (fun _ => False) := by
  refine ofR (by decide) rfl (Nat.le_of_ble_eq_true rfl) ?_
  intro p e s m below meth c hx hb hr hlocks hml hown hts hK hP ls hl
  have hl : lv_has ls 3 [(0, .int x), (1, .int lo), (2, .int hi)] := hl
  refine lv_iload_n hx hb dX4_within_0 rfl (lv_at hl 0 rfl) ?_
  refine lv_iload_n hx hb dX4_within_1 rfl (lv_at hl 1 rfl) ?_
  refine lv_icmp_lt (tgt := 14) hx hb dX4_within_2 (by decide) (fun c_1 => ?_) (fun c_1 => ?_)
  · skip
    refine lv_iconst (v := 0) hx hb dX4_within_14 (by decide) ?_
    exact z_ret hx hb hr hlocks rfl (by first | rfl | (simp [bI, m_in, c_1]; done) | (simp only [bI, m_in, c_1, if_true, if_false, reduceIte, not_true_eq_false, not_false_eq_true]; done) | (simp only [bI, m_in]; split <;> first | rfl | (simp_all; done) | omega) | (simp_all [bI, m_in]; done)) dX4_within_15
  · skip
    refine lv_iload_n hx hb dX4_within_5 rfl (lv_at hl 0 rfl) ?_
    refine lv_iload_n hx hb dX4_within_6 rfl (lv_at hl 2 rfl) ?_
    refine lv_icmp_gt (tgt := 14) hx hb dX4_within_7 (by decide) (fun c_2 => ?_) (fun c_2 => ?_)
    · skip
      refine lv_iconst (v := 0) hx hb dX4_within_14 (by decide) ?_
      exact z_ret hx hb hr hlocks rfl (by first | rfl | (simp [bI, m_in, c_1, c_2]; done) | (simp only [bI, m_in, c_1, c_2, if_true, if_false, reduceIte, not_true_eq_false, not_false_eq_true]; done) | (simp only [bI, m_in]; split <;> first | rfl | (simp_all; done) | omega) | (simp_all [bI, m_in]; done)) dX4_within_15
    · skip
      refine lv_iconst (v := 1) hx hb dX4_within_10 (by decide) ?_
      refine lv_goto (tgt := 15) hx hb dX4_within_11 (by decide) ?_
      exact z_ret hx hb hr hlocks rfl (by first | rfl | (simp [bI, m_in, c_1, c_2]; done) | (simp only [bI, m_in, c_1, c_2, if_true, if_false, reduceIte, not_true_eq_false, not_false_eq_true]; done) | (simp only [bI, m_in]; split <;> first | rfl | (simp_all; done) | omega) | (simp_all [bI, m_in]; done)) dX4_within_15
set_option maxHeartbeats 4000000 in
set_option maxRecDepth 100000 in
theorem c_X4_isHour (l : Launch) (E : GG)  (x : Int32)  : Met l yX4_isHour wsX4_isHour (Rm 1 0 0) (pR E [.int x] ([])) (QcRead (bI (m_in x 0 23))) 0 0 (fun _ => False) := by
  refine ofR (by decide) rfl (Nat.le_of_ble_eq_true rfl) ?_
  intro p e s m below meth c hx hb hr hlocks hml hown hts hK hP ls hl
  have hl : lv_has ls 1 [(0, .int x)] := hl
  refine lv_iload_n hx hb dX4_isHour_0 rfl (lv_at hl 0 rfl) ?_
  refine lv_iconst (v := 0) hx hb dX4_isHour_1 (by decide) ?_
  refine lv_bipush (v := 23) hx hb dX4_isHour_2 (by decide) ?_
  refine cR_S ⟨hx, hb, hml, hown, hts⟩ (c_X4_within l E x 0 23) (va_cwS 3 hts gX4_isHour_X4_within rfl rfl rfl (by decide +kernel) ⟨Nat.le_of_ble_eq_true rfl, Nat.le_of_ble_eq_true rfl⟩) hK nilP rfl hl.1 rfl (Nat.le_of_ble_eq_true rfl) dX4_isHour_4 ⟨Nat.le_of_ble_eq_true rfl, Nat.le_of_ble_eq_true rfl⟩ ?_
  exact z_ret hx hb hr hlocks bI_n (by first | rfl | (simp []; done) | (simp_all; done)) dX4_isHour_7
set_option maxHeartbeats 4000000 in
set_option maxRecDepth 100000 in
theorem c_X4_isWorld (l : Launch) (E : GG)  (x : Int32)  : Met l yX4_isWorld wsX4_isWorld (Rm 1 0 0) (pR E [.int x] ([])) (QcRead (bI (m_in x 0 2))) 0 0 (fun _ => False) := by
  refine ofR (by decide) rfl (Nat.le_of_ble_eq_true rfl) ?_
  intro p e s m below meth c hx hb hr hlocks hml hown hts hK hP ls hl
  have hl : lv_has ls 1 [(0, .int x)] := hl
  refine lv_iload_n hx hb dX4_isWorld_0 rfl (lv_at hl 0 rfl) ?_
  refine lv_iconst (v := 0) hx hb dX4_isWorld_1 (by decide) ?_
  refine lv_iconst (v := 2) hx hb dX4_isWorld_2 (by decide) ?_
  refine cR_S ⟨hx, hb, hml, hown, hts⟩ (c_X4_within l E x 0 2) (va_cwS 3 hts gX4_isWorld_X4_within rfl rfl rfl (by decide +kernel) ⟨Nat.le_of_ble_eq_true rfl, Nat.le_of_ble_eq_true rfl⟩) hK nilP rfl hl.1 rfl (Nat.le_of_ble_eq_true rfl) dX4_isWorld_3 ⟨Nat.le_of_ble_eq_true rfl, Nat.le_of_ble_eq_true rfl⟩ ?_
  exact z_ret hx hb hr hlocks bI_n (by first | rfl | (simp []; done) | (simp_all; done)) dX4_isWorld_6
