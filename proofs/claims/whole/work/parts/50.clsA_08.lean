set_option maxHeartbeats 4000000 in
set_option maxRecDepth 100000 in
theorem c_X2_canFollow (l : Launch) (E : GG)  (p0 : Int32) (a : Int32)  : Met l yX2_canFollow wsX2_canFollow (Rm 0 0 0) (pR E [.int p0, .int a] ([])) (QcRead (bI (k_follow p0 a))) 0 0 (fun _ => False) := by
  refine ofR (by decide) rfl (Nat.le_of_ble_eq_true rfl) ?_
  intro p e s m below meth c hx hb hr hlocks hml hown hts hK hP ls hl
  have hl : lv_has ls 2 [(0, .int p0), (1, .int a)] := hl
  refine lv_iload_n hx hb dX2_canFollow_0 rfl (lv_at hl 0 rfl) ?_
  refine lv_if_eq (tgt := 13) hx hb dX2_canFollow_1 (by decide) (fun c_1 => ?_) (fun c_1 => ?_)
  · skip
    refine lv_iconst (v := 1) hx hb dX2_canFollow_13 (by decide) ?_
    refine lv_goto (tgt := 18) hx hb dX2_canFollow_14 (by decide) ?_
    exact z_ret hx hb hr hlocks rfl (by first | rfl | (simp [bI, k_follow, c_1]; done) | (simp only [bI, k_follow, c_1, if_true, if_false, reduceIte, not_true_eq_false, not_false_eq_true]; done) | (simp only [bI, k_follow]; split <;> first | rfl | (simp_all; done) | omega) | (simp_all [bI, k_follow]; done)) dX2_canFollow_18
  · skip
    refine lv_iload_n hx hb dX2_canFollow_4 rfl (lv_at hl 1 rfl) ?_
    refine lv_if_eq (tgt := 13) hx hb dX2_canFollow_5 (by decide) (fun c_2 => ?_) (fun c_2 => ?_)
    · skip
      refine lv_iconst (v := 1) hx hb dX2_canFollow_13 (by decide) ?_
      refine lv_goto (tgt := 18) hx hb dX2_canFollow_14 (by decide) ?_
      exact z_ret hx hb hr hlocks rfl (by first | rfl | (simp [bI, k_follow, c_1, c_2]; done) | (simp only [bI, k_follow, c_1, c_2, if_true, if_false, reduceIte, not_true_eq_false, not_false_eq_true]; done) | (simp only [bI, k_follow]; split <;> first | rfl | (simp_all; done) | omega) | (simp_all [bI, k_follow]; done)) dX2_canFollow_18
    · skip
      refine lv_iload_n hx hb dX2_canFollow_8 rfl (lv_at hl 0 rfl) ?_
      refine lv_iload_n hx hb dX2_canFollow_9 rfl (lv_at hl 1 rfl) ?_
      refine lv_icmp_ne (tgt := 17) hx hb dX2_canFollow_10 (by decide) (fun c_3 => ?_) (fun c_3 => ?_)
      · skip
        refine lv_iconst (v := 0) hx hb dX2_canFollow_17 (by decide) ?_
        exact z_ret hx hb hr hlocks rfl (by first | rfl | (simp [bI, k_follow, c_1, c_2, c_3]; done) | (simp only [bI, k_follow, c_1, c_2, c_3, if_true, if_false, reduceIte, not_true_eq_false, not_false_eq_true]; done) | (simp only [bI, k_follow]; split <;> first | rfl | (simp_all; done) | omega) | (simp_all [bI, k_follow]; done)) dX2_canFollow_18
      · skip
        refine lv_iconst (v := 1) hx hb dX2_canFollow_13 (by decide) ?_
        refine lv_goto (tgt := 18) hx hb dX2_canFollow_14 (by decide) ?_
        exact z_ret hx hb hr hlocks rfl (by first | rfl | (simp [bI, k_follow, c_1, c_2, c_3]; done) | (simp only [bI, k_follow, c_1, c_2, c_3, if_true, if_false, reduceIte, not_true_eq_false, not_false_eq_true]; done) | (simp only [bI, k_follow]; split <;> first | rfl | (simp_all; done) | omega) | (simp_all [bI, k_follow]; done)) dX2_canFollow_18
noncomputable def d_forb (v : Nat → Int32) (f : Nat → Nat → Int32) (h d : Nat) : Prop := ¬ (k_canBe (f 16) (nI (d / 3)) h ∧ k_canBe (f 17) (nI (d % 3)) h) ∨ (v 2 < i_abs (f 19 (h * 9 + d)) ∨ ¬ i_abs (f 20 (h * 9 + d)) ≤ v 3) ∨ ¬ f 15 h ≤ k_backup (fun k => v (10 + k)) (f 16) (nI (d / 3)) h + k_backup (fun k => v (20 + k)) (f 17) (nI (d % 3)) h
def d_units (v : Nat → Int32) (f : Nat → Nat → Int32) (h d : Nat) : Int32 := if f 15 h = 0 then 0 else k_units (fun k => v (10 + k)) (f 16) (nI (d / 3)) h + k_units (fun k => v (20 + k)) (f 17) (nI (d % 3)) h
noncomputable def d_c0 (v : Nat → Int32) (m d : Nat) : Int32 := cI (k_start (nI (m / 3)) (nI (d / 3))) (v 14) 0
noncomputable def d_cost (v : Nat → Int32) (m d : Nat) : Int32 := cI (k_follow (nI (m / 3)) (nI (d / 3)) ∧ k_follow (nI (m % 3)) (nI (d % 3))) (cI (k_start (nI (m % 3)) (nI (d % 3))) (d_c0 v m d + v 24) (d_c0 v m d)) (-1)
