set_option maxHeartbeats 4000000 in
set_option maxRecDepth 100000 in
theorem c_X4_isMachine (l : Launch) (E : GG)  (x : Int32)  : Met l yX4_isMachine wsX4_isMachine (Rm 1 0 0) (pR E [.int x] ([])) (QcRead (bI (m_in x 0 1))) 0 0 (fun _ => False) := by
  refine ofR (by decide) rfl (Nat.le_of_ble_eq_true rfl) ?_
  intro p e s m below meth c hx hb hr hlocks hml hown hts hK hP ls hl
  have hl : lv_has ls 1 [(0, .int x)] := hl
  refine lv_iload_n hx hb dX4_isMachine_0 rfl (lv_at hl 0 rfl) ?_
  refine lv_iconst (v := 0) hx hb dX4_isMachine_1 (by decide) ?_
  refine lv_iconst (v := 1) hx hb dX4_isMachine_2 (by decide) ?_
  refine cR_S ⟨hx, hb, hml, hown, hts⟩ (c_X4_within l E x 0 1) (va_cwS 3 hts gX4_isMachine_X4_within rfl rfl rfl (by decide +kernel) ⟨Nat.le_of_ble_eq_true rfl, Nat.le_of_ble_eq_true rfl⟩) hK nilP rfl hl.1 rfl (Nat.le_of_ble_eq_true rfl) dX4_isMachine_3 ⟨Nat.le_of_ble_eq_true rfl, Nat.le_of_ble_eq_true rfl⟩ ?_
  exact z_ret hx hb hr hlocks bI_n (by first | rfl | (simp []; done) | (simp_all; done)) dX4_isMachine_6
set_option maxHeartbeats 4000000 in
set_option maxRecDepth 100000 in
theorem c_X4_isMode (l : Launch) (E : GG)  (x : Int32)  : Met l yX4_isMode wsX4_isMode (Rm 1 0 0) (pR E [.int x] ([])) (QcRead (bI (m_in x 0 2))) 0 0 (fun _ => False) := by
  refine ofR (by decide) rfl (Nat.le_of_ble_eq_true rfl) ?_
  intro p e s m below meth c hx hb hr hlocks hml hown hts hK hP ls hl
  have hl : lv_has ls 1 [(0, .int x)] := hl
  refine lv_iload_n hx hb dX4_isMode_0 rfl (lv_at hl 0 rfl) ?_
  refine lv_iconst (v := 0) hx hb dX4_isMode_1 (by decide) ?_
  refine lv_iconst (v := 2) hx hb dX4_isMode_2 (by decide) ?_
  refine cR_S ⟨hx, hb, hml, hown, hts⟩ (c_X4_within l E x 0 2) (va_cwS 3 hts gX4_isMode_X4_within rfl rfl rfl (by decide +kernel) ⟨Nat.le_of_ble_eq_true rfl, Nat.le_of_ble_eq_true rfl⟩) hK nilP rfl hl.1 rfl (Nat.le_of_ble_eq_true rfl) dX4_isMode_3 ⟨Nat.le_of_ble_eq_true rfl, Nat.le_of_ble_eq_true rfl⟩ ?_
  exact z_ret hx hb hr hlocks bI_n (by first | rfl | (simp []; done) | (simp_all; done)) dX4_isMode_6
set_option maxHeartbeats 4000000 in
set_option maxRecDepth 100000 in
theorem c_X4_isOfMachine (l : Launch) (E : GG)  (x : Int32)  : Met l yX4_isOfMachine wsX4_isOfMachine (Rm 1 0 0) (pR E [.int x] ([])) (QcRead (bI (m_in x 0 99))) 0 0 (fun _ => False) := by
  refine ofR (by decide) rfl (Nat.le_of_ble_eq_true rfl) ?_
  intro p e s m below meth c hx hb hr hlocks hml hown hts hK hP ls hl
  have hl : lv_has ls 1 [(0, .int x)] := hl
  refine lv_iload_n hx hb dX4_isOfMachine_0 rfl (lv_at hl 0 rfl) ?_
  refine lv_iconst (v := 0) hx hb dX4_isOfMachine_1 (by decide) ?_
  refine lv_bipush (v := 99) hx hb dX4_isOfMachine_2 (by decide) ?_
  refine cR_S ⟨hx, hb, hml, hown, hts⟩ (c_X4_within l E x 0 99) (va_cwS 3 hts gX4_isOfMachine_X4_within rfl rfl rfl (by decide +kernel) ⟨Nat.le_of_ble_eq_true rfl, Nat.le_of_ble_eq_true rfl⟩) hK nilP rfl hl.1 rfl (Nat.le_of_ble_eq_true rfl) dX4_isOfMachine_4 ⟨Nat.le_of_ble_eq_true rfl, Nat.le_of_ble_eq_true rfl⟩ ?_
  exact z_ret hx hb hr hlocks bI_n (by first | rfl | (simp []; done) | (simp_all; done)) dX4_isOfMachine_7
abbrev TW (E : GG) (r : Nat → Nat) (v : Nat → Int32) : va_W := [((r 0), .inr (4, [.ref (r 1), .ref (r 2), .ref (r 3), .ref (r 4), .ref (r 9), .ref (r 8), .ref (r 10), .ref (r 11), .ref (r 12), .int (v 30), .int (v 31), .int (v 32), .int (v 33)])), ((r 2), .inr (2, [.int (v 10), .int (v 11), .int (v 12), .int (v 13), .int (v 14), .int (v 15), .int (v 16), .ref (r 16)])), ((r 3), .inr (2, [.int (v 20), .int (v 21), .int (v 22), .int (v 23), .int (v 24), .int (v 25), .int (v 26), .ref (r 17)]))]
