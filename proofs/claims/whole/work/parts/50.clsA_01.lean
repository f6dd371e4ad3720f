set_option maxHeartbeats 4000000 in
set_option maxRecDepth 100000 in
theorem c_X2_unitsForBackup (l : Launch) (E : GG) (h q : Nat) (v : Nat → Int32) (o : Nat → Int32) (a : Int32) (hr0 : Nat) (hh : hr0 < 24) : Met l yX2_unitsForBackup wsX2_unitsForBackup (Rm 0 0 0) (pR E [.ref h, .int a, .int (nI hr0)] (KW E h q v o)) (QcRead (k_units v o a hr0)) 0 0 (fun _ => False) := by
  refine ofR (by decide) rfl (Nat.le_of_ble_eq_true rfl) ?_
  intro p e s m below meth c hx hb hr hlocks hml hown hts hK hP ls hl
  have hl : lv_has ls 3 [(0, .ref h), (1, .int a), (2, .int (nI hr0))] := hl
  refine lv_iload_n hx hb dX2_unitsForBackup_0 rfl (lv_at hl 1 rfl) ?_
  refine lv_iconst (v := 1) hx hb dX2_unitsForBackup_1 (by decide) ?_
  refine lv_icmp_eq (tgt := 18) hx hb dX2_unitsForBackup_2 (by decide) (fun c_1 => ?_) (fun c_1 => ?_)
  · skip
    refine lv_aload_n hx hb dX2_unitsForBackup_18 rfl (lv_at hl 0 rfl) ?_
    refine va_get (D := E.1) (ci := 2) (v := .int (v 0)) (C := RX2) (T := TX2) (N := 8) hx hb hts (fun _ h => (List.mem_cons_of_mem _ (List.mem_append_right _ h))) hown hK.1 hP 0 rfl rfl 0 (by decide) (hts _ (List.mem_of_getElem? (i := 2) rfl)) (fun _ h9 => h9) rfl dX2_unitsForBackup_19 ?_
    refine lv_goto (tgt := 26) hx hb dX2_unitsForBackup_22 (by decide) ?_
    exact r_ret hx hb hr hlocks (by first | rfl | (simp [k_units, c_1]; done) | (simp only [k_units, c_1, if_true, if_false, reduceIte, not_true_eq_false, not_false_eq_true]; done) | (simp only [k_units]; split <;> first | rfl | (simp_all; done) | omega) | (simp_all [k_units]; done)) dX2_unitsForBackup_26
  · skip
    refine lv_iload_n hx hb dX2_unitsForBackup_5 rfl (lv_at hl 1 rfl) ?_
    refine lv_if_ne (tgt := 25) hx hb dX2_unitsForBackup_6 (by decide) (fun c_2 => ?_) (fun c_2 => ?_)
    · skip
      refine lv_iconst (v := 0) hx hb dX2_unitsForBackup_25 (by decide) ?_
      exact r_ret hx hb hr hlocks (by first | rfl | (simp [k_units, c_1, c_2]; done) | (simp only [k_units, c_1, c_2, if_true, if_false, reduceIte, not_true_eq_false, not_false_eq_true]; done) | (simp only [k_units]; split <;> first | rfl | (simp_all; done) | omega) | (simp_all [k_units]; done)) dX2_unitsForBackup_26
    · skip
      refine lv_aload_n hx hb dX2_unitsForBackup_9 rfl (lv_at hl 0 rfl) ?_
      refine va_get (D := E.1) (ci := 2) (v := .ref q) (C := RX2) (T := TX2) (N := 8) hx hb hts (fun _ h => (List.mem_cons_of_mem _ (List.mem_append_right _ h))) hown hK.1 hP 0 rfl rfl 7 (by decide) (hts _ (List.mem_of_getElem? (i := 1) rfl)) (fun _ h9 => h9) rfl dX2_unitsForBackup_10 ?_
      refine lv_iload_n hx hb dX2_unitsForBackup_13 rfl (lv_at hl 2 rfl) ?_
      refine n_zald (f := o) hx hb hK.1 hP 1 1 rfl rfl (i := hr0) (by omega) (by decide) dX2_unitsForBackup_14 ?_
      refine lv_if_ne (tgt := 25) hx hb dX2_unitsForBackup_15 (by decide) (fun c_3 => ?_) (fun c_3 => ?_)
      · skip
        refine lv_iconst (v := 0) hx hb dX2_unitsForBackup_25 (by decide) ?_
        exact r_ret hx hb hr hlocks (by first | rfl | (simp [k_units, c_1, c_2, c_3]; done) | (simp only [k_units, c_1, c_2, c_3, if_true, if_false, reduceIte, not_true_eq_false, not_false_eq_true]; done) | (simp only [k_units]; split <;> first | rfl | (simp_all; done) | omega) | (simp_all [k_units]; done)) dX2_unitsForBackup_26
      · skip
        refine lv_aload_n hx hb dX2_unitsForBackup_18 rfl (lv_at hl 0 rfl) ?_
        refine va_get (D := E.1) (ci := 2) (v := .int (v 0)) (C := RX2) (T := TX2) (N := 8) hx hb hts (fun _ h => (List.mem_cons_of_mem _ (List.mem_append_right _ h))) hown hK.1 hP 0 rfl rfl 0 (by decide) (hts _ (List.mem_of_getElem? (i := 2) rfl)) (fun _ h9 => h9) rfl dX2_unitsForBackup_19 ?_
        refine lv_goto (tgt := 26) hx hb dX2_unitsForBackup_22 (by decide) ?_
        exact r_ret hx hb hr hlocks (by first | rfl | (simp [k_units, c_1, c_2, c_3]; done) | (simp only [k_units, c_1, c_2, c_3, if_true, if_false, reduceIte, not_true_eq_false, not_false_eq_true]; done) | (simp only [k_units]; split <;> first | rfl | (simp_all; done) | omega) | (simp_all [k_units]; done)) dX2_unitsForBackup_26
set_option maxHeartbeats 4000000 in
set_option maxRecDepth 100000 in
theorem c_X2_isStart (l : Launch) (E : GG)  (p0 : Int32) (a : Int32)  : Met l yX2_isStart wsX2_isStart (Rm 0 0 0) (pR E [.int p0, .int a] ([])) (QcRead (bI (k_start p0 a))) 0 0 (fun _ => False) := by
  refine ofR (by decide) rfl (Nat.le_of_ble_eq_true rfl) ?_
  intro p e s m below meth c hx hb hr hlocks hml hown hts hK hP ls hl
  have hl : lv_has ls 2 [(0, .int p0), (1, .int a)] := hl
  refine lv_iload_n hx hb dX2_isStart_0 rfl (lv_at hl 0 rfl) ?_
  refine lv_if_ne (tgt := 12) hx hb dX2_isStart_1 (by decide) (fun c_1 => ?_) (fun c_1 => ?_)
  · skip
    refine lv_iconst (v := 0) hx hb dX2_isStart_12 (by decide) ?_
    exact z_ret hx hb hr hlocks rfl (by first | rfl | (simp [bI, k_start, c_1]; done) | (simp only [bI, k_start, c_1, if_true, if_false, reduceIte, not_true_eq_false, not_false_eq_true]; done) | (simp only [bI, k_start]; split <;> first | rfl | (simp_all; done) | omega) | (simp_all [bI, k_start]; done)) dX2_isStart_13
  · skip
    refine lv_iload_n hx hb dX2_isStart_4 rfl (lv_at hl 1 rfl) ?_
    refine lv_if_eq (tgt := 12) hx hb dX2_isStart_5 (by decide) (fun c_2 => ?_) (fun c_2 => ?_)
    · skip
      refine lv_iconst (v := 0) hx hb dX2_isStart_12 (by decide) ?_
      exact z_ret hx hb hr hlocks rfl (by first | rfl | (simp [bI, k_start, c_1, c_2]; done) | (simp only [bI, k_start, c_1, c_2, if_true, if_false, reduceIte, not_true_eq_false, not_false_eq_true]; done) | (simp only [bI, k_start]; split <;> first | rfl | (simp_all; done) | omega) | (simp_all [bI, k_start]; done)) dX2_isStart_13
    · skip
      refine lv_iconst (v := 1) hx hb dX2_isStart_8 (by decide) ?_
      refine lv_goto (tgt := 13) hx hb dX2_isStart_9 (by decide) ?_
      exact z_ret hx hb hr hlocks rfl (by first | rfl | (simp [bI, k_start, c_1, c_2]; done) | (simp only [bI, k_start, c_1, c_2, if_true, if_false, reduceIte, not_true_eq_false, not_false_eq_true]; done) | (simp only [bI, k_start]; split <;> first | rfl | (simp_all; done) | omega) | (simp_all [bI, k_start]; done)) dX2_isStart_13
set_option maxHeartbeats 4000000 in
set_option maxRecDepth 100000 in
theorem c_X2_canFollow (l : Launch) (E : GG)  (p0 : Int32) (a : Int32)  : Met l yX2_canFollow wsX2_canFollow (Rm 0 0 0) (pR E [.int p0, .int a] ([])) (QcRead (bI (k_follow p0 a))) 0 0 (fun _ => False) := by
  refine ofR (by decide) rfl (Nat.le_of_ble_eq_true rfl) ?_
  intro p e s m below meth c hx hb hr hlocks hml hown hts hK hP ls hl
  have hl : lv_has ls 2 [(0, .int p0), (1, .int a)] := hl
  refine lv_iload_n hx hb dX2_canFollow_0 rfl (lv_at hl 0 rfl) ?_
  refine lv_if_eq (tgt := 13) hx hb dX2_canFollow_1 (by decide) (fun c_1 => ?_) (fun c_1 => ?_)
  · skip
    refine lv_iconst (v := 1) hx hb dX2_canFollow_13 (by decide) ?_
    refine lv_goto (tgt := 18) hx hb dX2_canFollow_14 (by decide) ?_
    exact z_ret hx hb hr hlocks rfl (by first | rfl | (simp [bI, k_follow, c_1]; done) | (simp only [bI, k_follow, c_1, if_true, if_false, reduceIte, not_true_eq_false, not_false_eq_true]; done) | (simp only [bI, k_follow]; split <;> first | rfl | (simp_all; done) | omega) | (simp_all [bI, k_follow]; done)) dX2_canFollow_18
  · skip
    refine lv_iload_n hx hb dX2_canFollow_4 rfl (lv_at hl 1 rfl) ?_
    refine lv_if_eq (tgt := 13) hx hb dX2_canFollow_5 (by decide) (fun c_2 => ?_) (fun c_2 => ?_)
    · skip
      refine lv_iconst (v := 1) hx hb dX2_canFollow_13 (by decide) ?_
      refine lv_goto (tgt := 18) hx hb dX2_canFollow_14 (by decide) ?_
      exact z_ret hx hb hr hlocks rfl (by first | rfl | (simp [bI, k_follow, c_1, c_2]; done) | (simp only [bI, k_follow, c_1, c_2, if_true, if_false, reduceIte, not_true_eq_false, not_false_eq_true]; done) | (simp only [bI, k_follow]; split <;> first | rfl | (simp_all; done) | omega) | (simp_all [bI, k_follow]; done)) dX2_canFollow_18
    · skip
      refine lv_iload_n hx hb dX2_canFollow_8 rfl (lv_at hl 0 rfl) ?_
      refine lv_iload_n hx hb dX2_canFollow_9 rfl (lv_at hl 1 rfl) ?_
      refine lv_icmp_ne (tgt := 17) hx hb dX2_canFollow_10 (by decide) (fun c_3 => ?_) (fun c_3 => ?_)
      · skip
        refine lv_iconst (v := 0) hx hb dX2_canFollow_17 (by decide) ?_
        exact z_ret hx hb hr hlocks rfl (by first | rfl | (simp [bI, k_follow, c_1, c_2, c_3]; done) | (simp only [bI, k_follow, c_1, c_2, c_3, if_true, if_false, reduceIte, not_true_eq_false, not_false_eq_true]; done) | (simp only [bI, k_follow]; split <;> first | rfl | (simp_all; done) | omega) | (simp_all [bI, k_follow]; done)) dX2_canFollow_18
      · skip
        refine lv_iconst (v := 1) hx hb dX2_canFollow_13 (by decide) ?_
        refine lv_goto (tgt := 18) hx hb dX2_canFollow_14 (by decide) ?_
        exact z_ret hx hb hr hlocks rfl (by first | rfl | (simp [bI, k_follow, c_1, c_2, c_3]; done) | (simp only [bI, k_follow, c_1, c_2, c_3, if_true, if_false, reduceIte, not_true_eq_false, not_false_eq_true]; done) | (simp only [bI, k_follow]; split <;> first | rfl | (simp_all; done) | omega) | (simp_all [bI, k_follow]; done)) dX2_canFollow_18
noncomputable def d_forb (v : Nat → Int32) (f : Nat → Nat → Int32) (h d : Nat) : Prop := ¬ (k_canBe (f 16) (nI (d / 3)) h ∧ k_canBe (f 17) (nI (d % 3)) h) ∨ (v 2 < i_abs (f 19 (h * 9 + d)) ∨ v 3 < i_abs (f 20 (h * 9 + d))) ∨ ¬ f 15 h ≤ k_backup (fun k => v (10 + k)) (f 16) (nI (d / 3)) h + k_backup (fun k => v (20 + k)) (f 17) (nI (d % 3)) h
def d_units (v : Nat → Int32) (f : Nat → Nat → Int32) (h d : Nat) : Int32 := if f 15 h = 0 then 0 else k_units (fun k => v (10 + k)) (f 16) (nI (d / 3)) h + k_units (fun k => v (20 + k)) (f 17) (nI (d % 3)) h
noncomputable def d_cost (v : Nat → Int32) (m d : Nat) : Int32 := @ite Int32 (k_follow (nI (m / 3)) (nI (d / 3)) ∧ k_follow (nI (m % 3)) (nI (d % 3))) (Classical.propDecidable _) (@ite Int32 (k_start (nI (m % 3)) (nI (d % 3))) (Classical.propDecidable _) (@ite Int32 (k_start (nI (m / 3)) (nI (d / 3))) (Classical.propDecidable _) (v 14) 0 + v 24) (@ite Int32 (k_start (nI (m / 3)) (nI (d / 3))) (Classical.propDecidable _) (v 14) 0)) (-1)
set_option maxHeartbeats 4000000 in
set_option maxRecDepth 100000 in
theorem c_X0_isOpen (l : Launch) (E : GG) (r : Nat → Nat) (v : Nat → Int32) (f : Nat → Nat → Int32) (at1 : Nat) (lv : Int32) (ha : at1 < 216) : Met l yX0_isOpen wsX0_isOpen (Rm 0 0 0) (pR E [.ref (r 4), .int (nI at1), .int lv] (DW E r v f)) (QcRead (bI (¬ lv < f 21 at1 ∧ ¬ f 22 at1 < lv))) 0 0 (fun _ => False) := by
  refine ofR (by decide) rfl (Nat.le_of_ble_eq_true rfl) ?_
  intro p e s m below meth c hx hb hr hlocks hml hown hts hK hP ls hl
  have hl : lv_has ls 3 [(0, .ref (r 4)), (1, .int (nI at1)), (2, .int lv)] := hl
  refine lv_iload_n hx hb dX0_isOpen_0 rfl (lv_at hl 2 rfl) ?_
  refine lv_aload_n hx hb dX0_isOpen_1 rfl (lv_at hl 0 rfl) ?_
  refine va_get (D := E.1) (ci := 0) (v := .ref (r 21)) (C := RX0) (T := TX0) (N := 9) hx hb hts (fun _ h => (List.mem_cons_of_mem _ (List.mem_append_right _ h))) hown hK.1 hP 0 rfl rfl 6 (by decide) (hts _ (List.mem_of_getElem? (i := 1) rfl)) (fun _ h9 => h9) rfl dX0_isOpen_2 ?_
  refine lv_iload_n hx hb dX0_isOpen_5 rfl (lv_at hl 1 rfl) ?_
  refine n_iald (f := f 21) hx hb hK.1 hP 12 0 rfl rfl (i := at1) (by omega) (by decide) dX0_isOpen_6 ?_
  refine lv_icmp_lt (tgt := 24) hx hb dX0_isOpen_7 (by decide) (fun c_1 => ?_) (fun c_1 => ?_)
  · skip
    refine lv_iconst (v := 0) hx hb dX0_isOpen_24 (by decide) ?_
    exact z_ret hx hb hr hlocks rfl (by first | rfl | (simp [bI, c_1]; done) | (simp only [bI, c_1, if_true, if_false, reduceIte, not_true_eq_false, not_false_eq_true]; done) | (simp only [bI]; split <;> first | rfl | (simp_all; done) | omega) | (simp_all [bI]; done)) dX0_isOpen_25
  · skip
    refine lv_iload_n hx hb dX0_isOpen_10 rfl (lv_at hl 2 rfl) ?_
    refine lv_aload_n hx hb dX0_isOpen_11 rfl (lv_at hl 0 rfl) ?_
    refine va_get (D := E.1) (ci := 0) (v := .ref (r 22)) (C := RX0) (T := TX0) (N := 9) hx hb hts (fun _ h => (List.mem_cons_of_mem _ (List.mem_append_right _ h))) hown hK.1 hP 0 rfl rfl 7 (by decide) (hts _ (List.mem_of_getElem? (i := 2) rfl)) (fun _ h9 => h9) rfl dX0_isOpen_12 ?_
    refine lv_iload_n hx hb dX0_isOpen_15 rfl (lv_at hl 1 rfl) ?_
    refine n_iald (f := f 22) hx hb hK.1 hP 13 0 rfl rfl (i := at1) (by omega) (by decide) dX0_isOpen_16 ?_
    refine lv_icmp_gt (tgt := 24) hx hb dX0_isOpen_17 (by decide) (fun c_2 => ?_) (fun c_2 => ?_)
    · skip
      refine lv_iconst (v := 0) hx hb dX0_isOpen_24 (by decide) ?_
      exact z_ret hx hb hr hlocks rfl (by first | rfl | (simp [bI, c_1, c_2]; done) | (simp only [bI, c_1, c_2, if_true, if_false, reduceIte, not_true_eq_false, not_false_eq_true]; done) | (simp only [bI]; split <;> first | rfl | (simp_all; done) | omega) | (simp_all [bI]; done)) dX0_isOpen_25
    · skip
      refine lv_iconst (v := 1) hx hb dX0_isOpen_20 (by decide) ?_
      refine lv_goto (tgt := 25) hx hb dX0_isOpen_21 (by decide) ?_
      exact z_ret hx hb hr hlocks rfl (by first | rfl | (simp [bI, c_1, c_2]; done) | (simp only [bI, c_1, c_2, if_true, if_false, reduceIte, not_true_eq_false, not_false_eq_true]; done) | (simp only [bI]; split <;> first | rfl | (simp_all; done) | omega) | (simp_all [bI]; done)) dX0_isOpen_25
set_option maxHeartbeats 4000000 in
set_option maxRecDepth 100000 in
theorem c_X0_isForbidden (l : Launch) (E : GG) (r : Nat → Nat) (v : Nat → Int32) (f : Nat → Nat → Int32) (h : Nat) (d : Nat) (hh : h < 24) (hd : d < 9) : Met l yX0_isForbidden wsX0_isForbidden (Rm 1 0 0) (pR E [.ref (r 4), .int (nI h), .int (nI d)] (DW E r v f)) (QcRead (bI (d_forb v f h d))) 0 0 (fun _ => False) := by
  refine ofR (by decide) rfl (Nat.le_of_ble_eq_true rfl) ?_
  intro p e s m below meth c hx hb hr hlocks hml hown hts hK hP ls hl
  have hl : lv_has ls 6 [(0, .ref (r 4)), (1, .int (nI h)), (2, .int (nI d))] := hl
  refine lv_iload_n hx hb dX0_isForbidden_0 rfl (lv_at hl 1 rfl) ?_
  refine lv_bipush (v := 9) hx hb dX0_isForbidden_1 (by decide) ?_
  refine lv_imul hx hb dX0_isForbidden_3 ?_
  refine w_top (show ((nI h) * 9) = (nI (h * 9)) from pk_mul _ _) ?_
  refine lv_iload_n hx hb dX0_isForbidden_4 rfl (lv_at hl 2 rfl) ?_
  refine lv_iadd hx hb dX0_isForbidden_5 ?_
  refine w_top (show ((nI (h * 9)) + (nI d)) = (nI ((h * 9) + d)) from nI_add _ _) ?_
  refine lv_istore_n (lv' := [(3, .int (nI ((h * 9) + d))), (0, .ref (r 4)), (1, .int (nI h)), (2, .int (nI d))]) hx hb dX0_isForbidden_6 rfl hl (by decide) rfl (fun ls hl => ?_)
  refine lv_iload_n hx hb dX0_isForbidden_7 rfl (lv_at hl 3 rfl) ?_
  refine lv_iconst (v := 3) hx hb dX0_isForbidden_8 (by decide) ?_
  refine lv_idiv hx hb dX0_isForbidden_9 (by decide) ?_
  refine w_top (show ((nI d) / 3) = (nI (d / 3)) from pk_div (a := d) (d := 3) (by omega) (by decide) (by decide)) ?_
  refine lv_istore (lv' := [(4, .int (nI (d / 3))), (3, .int (nI ((h * 9) + d))), (0, .ref (r 4)), (1, .int (nI h)), (2, .int (nI d))]) hx hb dX0_isForbidden_10 hl (by decide) rfl (fun ls hl => ?_)
  refine lv_iload_n hx hb dX0_isForbidden_12 rfl (lv_at hl 4 rfl) ?_
  refine lv_iconst (v := 3) hx hb dX0_isForbidden_13 (by decide) ?_
  refine lv_irem hx hb dX0_isForbidden_14 (by decide) ?_
  refine w_top (show ((nI d) - (nI d) / 3 * 3) = (nI (d % 3)) from pk_rem (a := d) (d := 3) (by omega) (by decide) (by decide)) ?_
  refine lv_istore (lv' := [(5, .int (nI (d % 3))), (4, .int (nI (d / 3))), (3, .int (nI ((h * 9) + d))), (0, .ref (r 4)), (1, .int (nI h)), (2, .int (nI d))]) hx hb dX0_isForbidden_15 hl (by decide) rfl (fun ls hl => ?_)
  refine lv_aload_n hx hb dX0_isForbidden_17 rfl (lv_at hl 3 rfl) ?_
  refine va_get (D := E.1) (ci := 0) (v := .ref (r 2)) (C := RX0) (T := TX0) (N := 9) hx hb hts (fun _ h => (List.mem_cons_of_mem _ (List.mem_append_left _ (List.mem_append_left _ (List.mem_append_right _ h))))) hown hK.1 hP 0 rfl rfl 1 (by decide) (hts _ (List.mem_of_getElem? (i := 1) rfl)) (fun _ h9 => h9) rfl dX0_isForbidden_18 ?_
  refine lv_iload hx hb dX0_isForbidden_21 (lv_at hl 1 rfl) ?_
  refine lv_iload_n hx hb dX0_isForbidden_23 rfl (lv_at hl 4 rfl) ?_
  refine cR_VN ⟨hx, hb, hml, hown, hts⟩ (c_X2_canBe l E (r 2) (r 16) (fun k => v (10 + k)) (f 16) (nI (d / 3)) h (by omega)) ⟨(va_cnB 2 hts gX0_isForbidden_X2_canBe_n90 rfl rfl rfl (hK.2.2 _ (List.mem_of_getElem? (i := 7) rfl)) (hts _ (List.mem_of_getElem? (i := 11) rfl)) (by decide +kernel) ⟨Nat.le_of_ble_eq_true rfl, Nat.le_of_ble_eq_true rfl⟩), (hts _ (List.mem_of_getElem? (i := 10) rfl)), (hts _ (List.mem_of_getElem? (i := 12) rfl))⟩ hK (hP.sub (ws' := KW E (r 2) (r 16) (fun k => v (10 + k)) (f 16)) [2, 7] rfl) 2 0 rfl rfl rfl hl.1 rfl (Nat.le_of_ble_eq_true rfl) dX0_isForbidden_24 ⟨Nat.le_of_ble_eq_true rfl, Nat.le_of_ble_eq_true rfl⟩ ?_
  refine b_if_eq (q := (k_canBe (f 16) (nI (d / 3)) h)) (tgt := 43) hx hb dX0_isForbidden_27 (by decide) (fun c_1 => ?_) (fun c_1 => ?_)
  · skip
    refine lv_iconst (v := 1) hx hb dX0_isForbidden_43 (by decide) ?_
    exact z_ret hx hb hr hlocks rfl (by first | rfl | (simp [bI, d_forb, i_abs, c_1]; done) | (simp only [bI, d_forb, i_abs, c_1, if_true, if_false, reduceIte, not_true_eq_false, not_false_eq_true]; done) | (simp only [bI, d_forb, i_abs]; split <;> first | rfl | (simp_all; done) | omega) | (simp_all [bI, d_forb, i_abs]; done)) dX0_isForbidden_44
  · skip
    refine lv_aload_n hx hb dX0_isForbidden_30 rfl (lv_at hl 3 rfl) ?_
    refine va_get (D := E.1) (ci := 0) (v := .ref (r 3)) (C := RX0) (T := TX0) (N := 9) hx hb hts (fun _ h => (List.mem_cons_of_mem _ (List.mem_append_left _ (List.mem_append_left _ (List.mem_append_right _ h))))) hown hK.1 hP 0 rfl rfl 2 (by decide) (hts _ (List.mem_of_getElem? (i := 2) rfl)) (fun _ h9 => h9) rfl dX0_isForbidden_31 ?_
    refine lv_iload hx hb dX0_isForbidden_34 (lv_at hl 0 rfl) ?_
    refine lv_iload_n hx hb dX0_isForbidden_36 rfl (lv_at hl 4 rfl) ?_
    refine cR_VN ⟨hx, hb, hml, hown, hts⟩ (c_X2_canBe l E (r 3) (r 17) (fun k => v (20 + k)) (f 17) (nI (d % 3)) h (by omega)) ⟨(va_cnB 2 hts gX0_isForbidden_X2_canBe_n90 rfl rfl rfl (hK.2.2 _ (List.mem_of_getElem? (i := 7) rfl)) (hts _ (List.mem_of_getElem? (i := 11) rfl)) (by decide +kernel) ⟨Nat.le_of_ble_eq_true rfl, Nat.le_of_ble_eq_true rfl⟩), (hts _ (List.mem_of_getElem? (i := 10) rfl)), (hts _ (List.mem_of_getElem? (i := 12) rfl))⟩ hK (hP.sub (ws' := KW E (r 3) (r 17) (fun k => v (20 + k)) (f 17)) [3, 8] rfl) 2 0 rfl rfl rfl hl.1 rfl (Nat.le_of_ble_eq_true rfl) dX0_isForbidden_37 ⟨Nat.le_of_ble_eq_true rfl, Nat.le_of_ble_eq_true rfl⟩ ?_
    refine b_if_ne (q := (k_canBe (f 17) (nI (d % 3)) h)) (tgt := 45) hx hb dX0_isForbidden_40 (by decide) (fun c_2 => ?_) (fun c_2 => ?_)
    · skip
      refine lv_aload_n hx hb dX0_isForbidden_45 rfl (lv_at hl 3 rfl) ?_
      refine va_get (D := E.1) (ci := 0) (v := .ref (r 19)) (C := RX0) (T := TX0) (N := 9) hx hb hts (fun _ h => (List.mem_cons_of_mem _ (List.mem_append_left _ (List.mem_append_left _ (List.mem_append_right _ h))))) hown hK.1 hP 0 rfl rfl 4 (by decide) (hts _ (List.mem_of_getElem? (i := 3) rfl)) (fun _ h9 => h9) rfl dX0_isForbidden_46 ?_
      refine lv_iload_n hx hb dX0_isForbidden_49 rfl (lv_at hl 2 rfl) ?_
      refine n_iald (f := f 19) hx hb hK.1 hP 10 0 rfl rfl (i := (h * 9) + d) (by omega) (by decide) dX0_isForbidden_50 ?_
      refine va_mabs hx hb (hml.trans hl.1.symm) hown (hts _ (List.mem_of_getElem? (i := 4) rfl)) (hts _ (List.mem_of_getElem? (i := 5) rfl)) (hts _ (List.mem_of_getElem? (i := 6) rfl)) (hts _ (List.mem_of_getElem? (i := 7) rfl)) (Nat.le_of_ble_eq_true rfl) (Nat.le_of_ble_eq_true rfl) (Nat.le_of_ble_eq_true rfl) (Nat.le_of_ble_eq_true rfl) dX0_isForbidden_51 ?_
      refine lv_aload_n hx hb dX0_isForbidden_54 rfl (lv_at hl 3 rfl) ?_
      refine va_get (D := E.1) (ci := 0) (v := .ref (r 1)) (C := RX0) (T := TX0) (N := 9) hx hb hts (fun _ h => (List.mem_cons_of_mem _ (List.mem_append_left _ (List.mem_append_left _ (List.mem_append_right _ h))))) hown hK.1 hP 0 rfl rfl 0 (by decide) (hts _ (List.mem_of_getElem? (i := 8) rfl)) (fun _ h9 => h9) rfl dX0_isForbidden_55 ?_
      refine va_getN (D := E.1) (ci := 1) (v := .int (v 2)) (C := RX1) (T := TX1) (N := 9) (host := "TwoLakes") (ref := RX1) hx hb hts (fun _ h => (List.mem_cons_of_mem _ (List.mem_append_left _ (List.mem_append_right _ h)))) hown hK.1 hP 1 rfl rfl 2 (by decide) (va_Nw.use rfl (hK.2.1 _ (List.mem_of_getElem? (i := 3) rfl))) (fun _ h9 => h9) rfl dX0_isForbidden_58 ?_
      refine lv_icmp_gt (tgt := 83) hx hb dX0_isForbidden_61 (by decide) (fun c_3 => ?_) (fun c_3 => ?_)
      · skip
        refine lv_iconst (v := 1) hx hb dX0_isForbidden_83 (by decide) ?_
        exact z_ret hx hb hr hlocks rfl (by first | rfl | (simp [bI, d_forb, i_abs, c_1, c_2, c_3]; done) | (simp only [bI, d_forb, i_abs, c_1, c_2, c_3, if_true, if_false, reduceIte, not_true_eq_false, not_false_eq_true]; done) | (simp only [bI, d_forb, i_abs]; split <;> first | rfl | (simp_all; done) | omega) | (simp_all [bI, d_forb, i_abs]; done)) dX0_isForbidden_84
      · skip
        refine lv_aload_n hx hb dX0_isForbidden_64 rfl (lv_at hl 3 rfl) ?_
        refine va_get (D := E.1) (ci := 0) (v := .ref (r 20)) (C := RX0) (T := TX0) (N := 9) hx hb hts (fun _ h => (List.mem_cons_of_mem _ (List.mem_append_left _ (List.mem_append_left _ (List.mem_append_right _ h))))) hown hK.1 hP 0 rfl rfl 5 (by decide) (hts _ (List.mem_of_getElem? (i := 9) rfl)) (fun _ h9 => h9) rfl dX0_isForbidden_65 ?_
        refine lv_iload_n hx hb dX0_isForbidden_68 rfl (lv_at hl 2 rfl) ?_
        refine n_iald (f := f 20) hx hb hK.1 hP 11 0 rfl rfl (i := (h * 9) + d) (by omega) (by decide) dX0_isForbidden_69 ?_
        refine va_mabs hx hb (hml.trans hl.1.symm) hown (hts _ (List.mem_of_getElem? (i := 4) rfl)) (hts _ (List.mem_of_getElem? (i := 5) rfl)) (hts _ (List.mem_of_getElem? (i := 6) rfl)) (hts _ (List.mem_of_getElem? (i := 7) rfl)) (Nat.le_of_ble_eq_true rfl) (Nat.le_of_ble_eq_true rfl) (Nat.le_of_ble_eq_true rfl) (Nat.le_of_ble_eq_true rfl) dX0_isForbidden_70 ?_
        refine lv_aload_n hx hb dX0_isForbidden_73 rfl (lv_at hl 3 rfl) ?_
        refine va_get (D := E.1) (ci := 0) (v := .ref (r 1)) (C := RX0) (T := TX0) (N := 9) hx hb hts (fun _ h => (List.mem_cons_of_mem _ (List.mem_append_left _ (List.mem_append_left _ (List.mem_append_right _ h))))) hown hK.1 hP 0 rfl rfl 0 (by decide) (hts _ (List.mem_of_getElem? (i := 8) rfl)) (fun _ h9 => h9) rfl dX0_isForbidden_74 ?_
        refine va_getN (D := E.1) (ci := 1) (v := .int (v 3)) (C := RX1) (T := TX1) (N := 9) (host := "TwoLakes") (ref := RX1) hx hb hts (fun _ h => (List.mem_cons_of_mem _ (List.mem_append_left _ (List.mem_append_right _ h)))) hown hK.1 hP 1 rfl rfl 3 (by decide) (va_Nw.use rfl (hK.2.1 _ (List.mem_of_getElem? (i := 5) rfl))) (fun _ h9 => h9) rfl dX0_isForbidden_77 ?_
        refine lv_icmp_le (tgt := 85) hx hb dX0_isForbidden_80 (by decide) (fun c_4 => ?_) (fun c_4 => ?_)
        · skip
          refine lv_aload_n hx hb dX0_isForbidden_85 rfl (lv_at hl 3 rfl) ?_
          refine va_get (D := E.1) (ci := 0) (v := .ref (r 2)) (C := RX0) (T := TX0) (N := 9) hx hb hts (fun _ h => (List.mem_cons_of_mem _ (List.mem_append_left _ (List.mem_append_left _ (List.mem_append_right _ h))))) hown hK.1 hP 0 rfl rfl 1 (by decide) (hts _ (List.mem_of_getElem? (i := 1) rfl)) (fun _ h9 => h9) rfl dX0_isForbidden_86 ?_
          refine lv_iload hx hb dX0_isForbidden_89 (lv_at hl 1 rfl) ?_
          refine lv_iload_n hx hb dX0_isForbidden_91 rfl (lv_at hl 4 rfl) ?_
          refine cR_VN ⟨hx, hb, hml, hown, hts⟩ (c_X2_backup l E (r 2) (r 16) (fun k => v (10 + k)) (f 16) (nI (d / 3)) h (by omega)) ⟨(va_cnB 2 hts gX0_isForbidden_X2_backup_n103 rfl rfl rfl (hK.2.2 _ (List.mem_of_getElem? (i := 8) rfl)) (hts _ (List.mem_of_getElem? (i := 11) rfl)) (by decide +kernel) ⟨Nat.le_of_ble_eq_true rfl, Nat.le_of_ble_eq_true rfl⟩), (hts _ (List.mem_of_getElem? (i := 15) rfl)), (hts _ (List.mem_of_getElem? (i := 16) rfl))⟩ hK (hP.sub (ws' := KW E (r 2) (r 16) (fun k => v (10 + k)) (f 16)) [2, 7] rfl) 2 0 rfl rfl rfl hl.1 rfl (Nat.le_of_ble_eq_true rfl) dX0_isForbidden_92 ⟨Nat.le_of_ble_eq_true rfl, Nat.le_of_ble_eq_true rfl⟩ ?_
          refine lv_aload_n hx hb dX0_isForbidden_95 rfl (lv_at hl 3 rfl) ?_
          refine va_get (D := E.1) (ci := 0) (v := .ref (r 3)) (C := RX0) (T := TX0) (N := 9) hx hb hts (fun _ h => (List.mem_cons_of_mem _ (List.mem_append_left _ (List.mem_append_left _ (List.mem_append_right _ h))))) hown hK.1 hP 0 rfl rfl 2 (by decide) (hts _ (List.mem_of_getElem? (i := 2) rfl)) (fun _ h9 => h9) rfl dX0_isForbidden_96 ?_
          refine lv_iload hx hb dX0_isForbidden_99 (lv_at hl 0 rfl) ?_
          refine lv_iload_n hx hb dX0_isForbidden_101 rfl (lv_at hl 4 rfl) ?_
          refine cR_VN ⟨hx, hb, hml, hown, hts⟩ (c_X2_backup l E (r 3) (r 17) (fun k => v (20 + k)) (f 17) (nI (d % 3)) h (by omega)) ⟨(va_cnB 2 hts gX0_isForbidden_X2_backup_n103 rfl rfl rfl (hK.2.2 _ (List.mem_of_getElem? (i := 8) rfl)) (hts _ (List.mem_of_getElem? (i := 11) rfl)) (by decide +kernel) ⟨Nat.le_of_ble_eq_true rfl, Nat.le_of_ble_eq_true rfl⟩), (hts _ (List.mem_of_getElem? (i := 15) rfl)), (hts _ (List.mem_of_getElem? (i := 16) rfl))⟩ hK (hP.sub (ws' := KW E (r 3) (r 17) (fun k => v (20 + k)) (f 17)) [3, 8] rfl) 2 0 rfl rfl rfl hl.1 rfl (Nat.le_of_ble_eq_true rfl) dX0_isForbidden_102 ⟨Nat.le_of_ble_eq_true rfl, Nat.le_of_ble_eq_true rfl⟩ ?_
          refine lv_iadd hx hb dX0_isForbidden_105 ?_
          refine lv_aload_n hx hb dX0_isForbidden_106 rfl (lv_at hl 3 rfl) ?_
          refine va_get (D := E.1) (ci := 0) (v := .ref (r 1)) (C := RX0) (T := TX0) (N := 9) hx hb hts (fun _ h => (List.mem_cons_of_mem _ (List.mem_append_left _ (List.mem_append_left _ (List.mem_append_right _ h))))) hown hK.1 hP 0 rfl rfl 0 (by decide) (hts _ (List.mem_of_getElem? (i := 8) rfl)) (fun _ h9 => h9) rfl dX0_isForbidden_107 ?_
          refine va_getN (D := E.1) (ci := 1) (v := .ref (r 15)) (C := RX1) (T := TX1) (N := 9) (host := "TwoLakes") (ref := RX1) hx hb hts (fun _ h => (List.mem_cons_of_mem _ (List.mem_append_left _ (List.mem_append_right _ h)))) hown hK.1 hP 1 rfl rfl 8 (by decide) (va_Nw.use rfl (hK.2.1 _ (List.mem_of_getElem? (i := 12) rfl))) (fun _ h9 => h9) rfl dX0_isForbidden_110 ?_
          refine lv_iload_n hx hb dX0_isForbidden_113 rfl (lv_at hl 4 rfl) ?_
          refine n_iald (f := f 15) hx hb hK.1 hP 6 0 rfl rfl (i := h) (by omega) (by decide) dX0_isForbidden_114 ?_
          refine lv_icmp_ge (tgt := 122) hx hb dX0_isForbidden_115 (by decide) (fun c_5 => ?_) (fun c_5 => ?_)
          · skip
            refine lv_iconst (v := 0) hx hb dX0_isForbidden_122 (by decide) ?_
            exact z_ret hx hb hr hlocks rfl (by first | rfl | (simp [bI, d_forb, i_abs, c_1, c_2, c_3, c_4, c_5]; done) | (simp only [bI, d_forb, i_abs, c_1, c_2, c_3, c_4, c_5, if_true, if_false, reduceIte, not_true_eq_false, not_false_eq_true]; done) | (simp only [bI, d_forb, i_abs]; split <;> first | rfl | (simp_all; done) | omega) | (simp_all [bI, d_forb, i_abs]; done)) dX0_isForbidden_123
          · skip
            refine lv_iconst (v := 1) hx hb dX0_isForbidden_118 (by decide) ?_
            refine lv_goto (tgt := 123) hx hb dX0_isForbidden_119 (by decide) ?_
            exact z_ret hx hb hr hlocks rfl (by first | rfl | (simp [bI, d_forb, i_abs, c_1, c_2, c_3, c_4, c_5]; done) | (simp only [bI, d_forb, i_abs, c_1, c_2, c_3, c_4, c_5, if_true, if_false, reduceIte, not_true_eq_false, not_false_eq_true]; done) | (simp only [bI, d_forb, i_abs]; split <;> first | rfl | (simp_all; done) | omega) | (simp_all [bI, d_forb, i_abs]; done)) dX0_isForbidden_123
        · skip
          refine lv_iconst (v := 1) hx hb dX0_isForbidden_83 (by decide) ?_
          exact z_ret hx hb hr hlocks rfl (by first | rfl | (simp [bI, d_forb, i_abs, c_1, c_2, c_3, c_4]; done) | (simp only [bI, d_forb, i_abs, c_1, c_2, c_3, c_4, if_true, if_false, reduceIte, not_true_eq_false, not_false_eq_true]; done) | (simp only [bI, d_forb, i_abs]; split <;> first | rfl | (simp_all; done) | omega) | (simp_all [bI, d_forb, i_abs]; done)) dX0_isForbidden_84
    · skip
      refine lv_iconst (v := 1) hx hb dX0_isForbidden_43 (by decide) ?_
      exact z_ret hx hb hr hlocks rfl (by first | rfl | (simp [bI, d_forb, i_abs, c_1, c_2]; done) | (simp only [bI, d_forb, i_abs, c_1, c_2, if_true, if_false, reduceIte, not_true_eq_false, not_false_eq_true]; done) | (simp only [bI, d_forb, i_abs]; split <;> first | rfl | (simp_all; done) | omega) | (simp_all [bI, d_forb, i_abs]; done)) dX0_isForbidden_44
set_option maxHeartbeats 4000000 in
set_option maxRecDepth 100000 in
theorem c_X0_unitsNeeded (l : Launch) (E : GG) (r : Nat → Nat) (v : Nat → Int32) (f : Nat → Nat → Int32) (h : Nat) (d : Nat) (hh : h < 24) (hd : d < 9) : Met l yX0_unitsNeeded wsX0_unitsNeeded (Rm 1 0 0) (pR E [.ref (r 4), .int (nI h), .int (nI d)] (DW E r v f)) (QcRead (d_units v f h d)) 0 0 (fun _ => False) := by
  refine ofR (by decide) rfl (Nat.le_of_ble_eq_true rfl) ?_
  intro p e s m below meth c hx hb hr hlocks hml hown hts hK hP ls hl
  have hl : lv_has ls 3 [(0, .ref (r 4)), (1, .int (nI h)), (2, .int (nI d))] := hl
  refine lv_aload_n hx hb dX0_unitsNeeded_0 rfl (lv_at hl 0 rfl) ?_
  refine va_get (D := E.1) (ci := 0) (v := .ref (r 1)) (C := RX0) (T := TX0) (N := 9) hx hb hts (fun _ h => (List.mem_cons_of_mem _ (List.mem_append_left _ (List.mem_append_left _ (List.mem_append_right _ h))))) hown hK.1 hP 0 rfl rfl 0 (by decide) (hts _ (List.mem_of_getElem? (i := 1) rfl)) (fun _ h9 => h9) rfl dX0_unitsNeeded_1 ?_
  refine va_getN (D := E.1) (ci := 1) (v := .ref (r 15)) (C := RX1) (T := TX1) (N := 9) (host := "TwoLakes") (ref := RX1) hx hb hts (fun _ h => (List.mem_cons_of_mem _ (List.mem_append_left _ (List.mem_append_right _ h)))) hown hK.1 hP 1 rfl rfl 8 (by decide) (va_Nw.use rfl (hK.2.1 _ (List.mem_of_getElem? (i := 12) rfl))) (fun _ h9 => h9) rfl dX0_unitsNeeded_4 ?_
  refine lv_iload_n hx hb dX0_unitsNeeded_7 rfl (lv_at hl 1 rfl) ?_
  refine n_iald (f := f 15) hx hb hK.1 hP 6 0 rfl rfl (i := h) (by omega) (by decide) dX0_unitsNeeded_8 ?_
  refine lv_if_ne (tgt := 14) hx hb dX0_unitsNeeded_9 (by decide) (fun c_1 => ?_) (fun c_1 => ?_)
  · skip
    refine lv_aload_n hx hb dX0_unitsNeeded_14 rfl (lv_at hl 0 rfl) ?_
    refine va_get (D := E.1) (ci := 0) (v := .ref (r 2)) (C := RX0) (T := TX0) (N := 9) hx hb hts (fun _ h => (List.mem_cons_of_mem _ (List.mem_append_left _ (List.mem_append_left _ (List.mem_append_right _ h))))) hown hK.1 hP 0 rfl rfl 1 (by decide) (hts _ (List.mem_of_getElem? (i := 2) rfl)) (fun _ h9 => h9) rfl dX0_unitsNeeded_15 ?_
    refine lv_iload_n hx hb dX0_unitsNeeded_18 rfl (lv_at hl 2 rfl) ?_
    refine lv_iconst (v := 3) hx hb dX0_unitsNeeded_19 (by decide) ?_
    refine lv_idiv hx hb dX0_unitsNeeded_20 (by decide) ?_
    refine w_top (show ((nI d) / 3) = (nI (d / 3)) from pk_div (a := d) (d := 3) (by omega) (by decide) (by decide)) ?_
    refine lv_iload_n hx hb dX0_unitsNeeded_21 rfl (lv_at hl 1 rfl) ?_
    refine cR_VN ⟨hx, hb, hml, hown, hts⟩ (c_X2_unitsForBackup l E (r 2) (r 16) (fun k => v (10 + k)) (f 16) (nI (d / 3)) h (by omega)) ⟨(va_cnB 2 hts gX0_unitsNeeded_X2_unitsForBackup_n109 rfl rfl rfl (hK.2.2 _ (List.mem_of_getElem? (i := 10) rfl)) (hts _ (List.mem_of_getElem? (i := 5) rfl)) (by decide +kernel) ⟨Nat.le_of_ble_eq_true rfl, Nat.le_of_ble_eq_true rfl⟩), (hts _ (List.mem_of_getElem? (i := 4) rfl)), (hts _ (List.mem_of_getElem? (i := 6) rfl))⟩ hK (hP.sub (ws' := KW E (r 2) (r 16) (fun k => v (10 + k)) (f 16)) [2, 7] rfl) 2 0 rfl rfl rfl hl.1 rfl (Nat.le_of_ble_eq_true rfl) dX0_unitsNeeded_22 ⟨Nat.le_of_ble_eq_true rfl, Nat.le_of_ble_eq_true rfl⟩ ?_
    refine lv_aload_n hx hb dX0_unitsNeeded_25 rfl (lv_at hl 0 rfl) ?_
    refine va_get (D := E.1) (ci := 0) (v := .ref (r 3)) (C := RX0) (T := TX0) (N := 9) hx hb hts (fun _ h => (List.mem_cons_of_mem _ (List.mem_append_left _ (List.mem_append_left _ (List.mem_append_right _ h))))) hown hK.1 hP 0 rfl rfl 2 (by decide) (hts _ (List.mem_of_getElem? (i := 3) rfl)) (fun _ h9 => h9) rfl dX0_unitsNeeded_26 ?_
    refine lv_iload_n hx hb dX0_unitsNeeded_29 rfl (lv_at hl 2 rfl) ?_
    refine lv_iconst (v := 3) hx hb dX0_unitsNeeded_30 (by decide) ?_
    refine lv_irem hx hb dX0_unitsNeeded_31 (by decide) ?_
    refine w_top (show ((nI d) - (nI d) / 3 * 3) = (nI (d % 3)) from pk_rem (a := d) (d := 3) (by omega) (by decide) (by decide)) ?_
    refine lv_iload_n hx hb dX0_unitsNeeded_32 rfl (lv_at hl 1 rfl) ?_
    refine cR_VN ⟨hx, hb, hml, hown, hts⟩ (c_X2_unitsForBackup l E (r 3) (r 17) (fun k => v (20 + k)) (f 17) (nI (d % 3)) h (by omega)) ⟨(va_cnB 2 hts gX0_unitsNeeded_X2_unitsForBackup_n109 rfl rfl rfl (hK.2.2 _ (List.mem_of_getElem? (i := 10) rfl)) (hts _ (List.mem_of_getElem? (i := 5) rfl)) (by decide +kernel) ⟨Nat.le_of_ble_eq_true rfl, Nat.le_of_ble_eq_true rfl⟩), (hts _ (List.mem_of_getElem? (i := 4) rfl)), (hts _ (List.mem_of_getElem? (i := 6) rfl))⟩ hK (hP.sub (ws' := KW E (r 3) (r 17) (fun k => v (20 + k)) (f 17)) [3, 8] rfl) 2 0 rfl rfl rfl hl.1 rfl (Nat.le_of_ble_eq_true rfl) dX0_unitsNeeded_33 ⟨Nat.le_of_ble_eq_true rfl, Nat.le_of_ble_eq_true rfl⟩ ?_
    refine lv_iadd hx hb dX0_unitsNeeded_36 ?_
    exact r_ret hx hb hr hlocks (by first | rfl | (simp [d_units, c_1]; done) | (simp only [d_units, c_1, if_true, if_false, reduceIte, not_true_eq_false, not_false_eq_true]; done) | (simp only [d_units]; split <;> first | rfl | (simp_all; done) | omega) | (simp_all [d_units]; done)) dX0_unitsNeeded_37
  · skip
    refine lv_iconst (v := 0) hx hb dX0_unitsNeeded_12 (by decide) ?_
    exact r_ret hx hb hr hlocks (by first | rfl | (simp [d_units, c_1]; done) | (simp only [d_units, c_1, if_true, if_false, reduceIte, not_true_eq_false, not_false_eq_true]; done) | (simp only [d_units]; split <;> first | rfl | (simp_all; done) | omega) | (simp_all [d_units]; done)) dX0_unitsNeeded_13
