set_option maxHeartbeats 4000000 in
set_option maxRecDepth 100000 in
theorem c_X2_isStart (l : Launch) (E : GG)  (p0 : Int32) (a : Int32)  : Met l yX2_isStart wsX2_isStart (Rm 0 0 0) (pR E [.int p0, .int a] ([])) (QcRead (bI (k_start p0 a))) 0 0 (fun _ => False) := by
  refine ofR (by decide) rfl (Nat.le_of_ble_eq_true rfl) ?_
  intro p e s m below meth c hx hb hr hlocks hml hown hts hK hP ls hl
  have hl : lv_has ls 2 [(0, .int p0), (1, .int a)] := hl
  refine lv_iload_n hx hb dX2_isStart_0 rfl (lv_at hl 0 rfl) ?_
  refine lv_if_ne (tgt := 12) hx hb dX2_isStart_1 (by decide) (fun c_1 => ?_) (fun c_1 => ?_)
  · skip
    refine lv_iconst (v := 0) hx hb dX2_isStart_12 (by decide) ?_
    exact z_ret hx hb hr hlocks rfl (by first | rfl | (simp [bI, k_start, c_1]; done) | (simp only [bI, k_start, c_1, if_true, if_false, reduceIte, not_true_eq_false, not_false_eq_true]; done) | (simp only [bI, k_start]; split <;> first | rfl | (simp_all; done) | omega) | (simp_all [bI, k_start]; done)) dX2_isStart_13
  · skip
    refine lv_iload_n hx hb dX2_isStart_4 rfl (lv_at hl 1 rfl) ?_
    refine lv_if_eq (tgt := 12) hx hb dX2_isStart_5 (by decide) (fun c_2 => ?_) (fun c_2 => ?_)
    · skip
      refine lv_iconst (v := 0) hx hb dX2_isStart_12 (by decide) ?_
      exact z_ret hx hb hr hlocks rfl (by first | rfl | (simp [bI, k_start, c_1, c_2]; done) | (simp only [bI, k_start, c_1, c_2, if_true, if_false, reduceIte, not_true_eq_false, not_false_eq_true]; done) | (simp only [bI, k_start]; split <;> first | rfl | (simp_all; done) | omega) | (simp_all [bI, k_start]; done)) dX2_isStart_13
    · skip
      refine lv_iconst (v := 1) hx hb dX2_isStart_8 (by decide) ?_
      refine lv_goto (tgt := 13) hx hb dX2_isStart_9 (by decide) ?_
      exact z_ret hx hb hr hlocks rfl (by first | rfl | (simp [bI, k_start, c_1, c_2]; done) | (simp only [bI, k_start, c_1, c_2, if_true, if_false, reduceIte, not_true_eq_false, not_false_eq_true]; done) | (simp only [bI, k_start]; split <;> first | rfl | (simp_all; done) | omega) | (simp_all [bI, k_start]; done)) dX2_isStart_13
