set_option maxHeartbeats 4000000 in
set_option maxRecDepth 100000 in
/-- the law, from its entry -/
theorem whole_start {p : Program} {e : Env} {s : State} {m : MethodId} {below : List Frame} {meth : Method} {c : Code} (l : Launch) (hlt : l.stackTraces = false) {b L : Nat} {xs : Nat → Int32} (hL : L ≤ 3584) (C0 : lw_At p s m meth c b L xs) : W p l e room_1 s m #[Value.ref b] below meth c s.heap [] 0 0 (lw_Z below #[Value.ref b] s) (entryFrame m ([Value.ref b] : List Value).toArray 7) := by
  obtain ⟨hx, hb, hr, hml, hown, hts, hXs, hbl, hlocks, hgv⟩ := C0
  have hb : c.code = cL_law := hb
  have hown : s.vm.findClass RL = some m.cls := hown
  have ht2 : ∀ w ∈ wsL_law, w.before #[Value.ref b] s = true := fun w h => hts w (wsL_law_in w h)
  obtain ⟨E, hK⟩ := law_E hts
  have hX := law_X hts hgv
  have hZ := law_Z hts hgv
  have hO : AOx s := va_AO.of (hts (.arrayOver (.object "TwoLakes$Outlook")) (by decide +kernel))
  obtain ⟨A, eA⟩ : ∃ A : Nat → Prop, A = (fun q : Nat => s.heap.size ≤ q) := ⟨_, rfl⟩
  rw [← eA] at hZ
  have hA : ∀ q : Nat, s.heap.size ≤ q → A q := fun q h => by rw [eA]; exact h
  have hA2 : ∀ q : Nat, A q → s.heap.size ≤ q := fun q h => by rw [eA] at h; exact h
  have X : LawC p l s m c b L xs E A := ⟨hx, hb, hml, hown, ht2, hXs, hbl, hK, hX, hZ, hlt, hL, hA, hA2⟩
  have hS : va_S A s.heap s.heap [] := va_S.rf
  have hP : va_P E.1 vwCl [] s.heap := fun k q h => by simp at h
  have hD : va_D A [] := ⟨fun i j p q h => by simp at h, fun k q h => by simp at h⟩
  have hl := lv_entry ([.ref b]) (n := 7) (Nat.le_of_ble_eq_true rfl)
  rw [lg_entry_eq]
  generalize (lg_sl ([.ref b]) ++ List.replicate (7 - (lg_sl ([.ref b])).length) Slot.unset).toArray = ls at hl ⊢
  have hl : lv_has ls 7 [(0, .ref b)] := hl
  refine va_new (D := E.1) (ci := 4) (fs := [.null, .null, .null, .null, .null, .null, .null, .null, .null, .int 0, .int 0, .int 0, .int 0]) (C := RX4) (T := TX4) (N := 13) hx hb hts in_wsX40 tyX4 tyX4_ok hown (ht2 _ (List.mem_of_getElem? (i := 0) rfl)) (ht2 _ (List.mem_of_getElem? (i := 1) rfl)) (ht2 _ (List.mem_of_getElem? (i := 2) rfl)) hK.1 hP hD hS hA rfl (fun j hj => by rcases (show j = 0 ∨ j = 1 ∨ j = 2 ∨ j = 3 ∨ j = 4 ∨ j = 5 ∨ j = 6 ∨ j = 7 ∨ j = 8 ∨ j = 9 ∨ j = 10 ∨ j = 11 ∨ j = 12 by omega) with rfl | rfl | rfl | rfl | rfl | rfl | rfl | rfl | rfl | rfl | rfl | rfl | rfl <;> rfl) (Nat.le_of_ble_eq_true rfl) (Nat.le_of_ble_eq_true rfl) dL_law_0 (fun q_1 H hP hD hS => ?_)
  have hP : va_P E.1 vwCl [(q_1, .inr (4, [.null, .null, .null, .null, .null, .null, .null, .null, .null, .int 0, .int 0, .int 0, .int 0]))] H := hP
  have hD : va_D A [(q_1, .inr (4, [.null, .null, .null, .null, .null, .null, .null, .null, .null, .int 0, .int 0, .int 0, .int 0]))] := hD
  refine lv_dup hx hb dL_law_3 rfl ?_
  refine cM_v (As := [.ref q_1]) (wr := []) (rM_Ix ⟨hx, hb, hml, hown, ht2⟩ (c_X4_init l E q_1 H.size) (cwI 0 ht2 gL_law_X4_init rfl rfl rfl (ht2 _ (List.mem_of_getElem? (i := 2) rfl)) (ht2 _ (List.mem_of_getElem? (i := 7) rfl)) (ht2 _ (List.mem_of_getElem? (i := 8) rfl)) rfl (by decide +kernel) ⟨Nat.le_of_ble_eq_true rfl, Nat.le_of_ble_eq_true rfl⟩) hO hK hP hD rfl hl.1 rfl (Nat.le_of_ble_eq_true rfl) dL_law_4 ⟨by show _ ≤ 601024; omega, by show _ ≤ 7293034; omega⟩) hP hD hS hA [0] [] rfl rfl (by decide) (by decide) (fun u_1 H locs hu hP hD hS => ?_)
  have hP : va_P E.1 vwCl (CZ E u_1.1 u_1.2 cv0 cf0) H := hP
  have hD : va_D A (CZ E u_1.1 u_1.2 cv0 cf0) := hD
  refine lv_astore_n (lv' := [(1, .ref q_1), (0, .ref b)]) hx hb dL_law_7 rfl hl (by decide) rfl (fun ls hl => ?_)
  obtain ⟨r, z⟩ := u_1
  dsimp only at hu hP hD
  rw [← hu] at hl
  have hCI := CI_first
  generalize cv0 = v0 at hP hD hCI
  generalize cf0 = f0 at hP hD hCI
  refine va_new (D := E.1) (ci := 5) (fs := [.int 0, .int 0, .int 0, .int 0, .int 0, .int 0, .int 0, .int 0, .null, .null, .null, .null, .null, .null, .null, .null, .null, .null, .null, .int 0, .int 0, .null, .null, .int 0, .null, .null]) (C := RX5) (T := TX5) (N := 26) hx hb hts in_wsX50 tyX5 tyX5_ok hown (ht2 _ (List.mem_of_getElem? (i := 3) rfl)) (ht2 _ (List.mem_of_getElem? (i := 4) rfl)) (ht2 _ (List.mem_of_getElem? (i := 5) rfl)) hK.1 hP hD hS hA rfl (fun j hj => by rcases (show j = 0 ∨ j = 1 ∨ j = 2 ∨ j = 3 ∨ j = 4 ∨ j = 5 ∨ j = 6 ∨ j = 7 ∨ j = 8 ∨ j = 9 ∨ j = 10 ∨ j = 11 ∨ j = 12 ∨ j = 13 ∨ j = 14 ∨ j = 15 ∨ j = 16 ∨ j = 17 ∨ j = 18 ∨ j = 19 ∨ j = 20 ∨ j = 21 ∨ j = 22 ∨ j = 23 ∨ j = 24 ∨ j = 25 by omega) with rfl | rfl | rfl | rfl | rfl | rfl | rfl | rfl | rfl | rfl | rfl | rfl | rfl | rfl | rfl | rfl | rfl | rfl | rfl | rfl | rfl | rfl | rfl | rfl | rfl | rfl <;> rfl) (by show _ ≤ 601024; omega) (by show _ ≤ 7293034; omega) dL_law_8 (fun q_2 H hP hD hS => ?_)
  refine lv_dup hx hb dL_law_11 rfl ?_
  refine cM_v (As := [.ref q_2]) (wr := CZ E r z v0 f0) (rM_I ⟨hx, hb, hml, hown, ht2⟩ (c_X5_init l E q_2 H.size) (cwI 0 ht2 gL_law_X5_init rfl rfl rfl (ht2 _ (List.mem_of_getElem? (i := 5) rfl)) (ht2 _ (List.mem_of_getElem? (i := 89) rfl)) (ht2 _ (List.mem_of_getElem? (i := 90) rfl)) rfl (by decide +kernel) ⟨Nat.le_of_ble_eq_true rfl, Nat.le_of_ble_eq_true rfl⟩) hK (hP.sub (ws' := [(q_2, .inr (5, [.int 0, .int 0, .int 0, .int 0, .int 0, .int 0, .int 0, .int 0, .null, .null, .null, .null, .null, .null, .null, .null, .null, .null, .null, .int 0, .int 0, .null, .null, .int 0, .null, .null]))]) [40] rfl) (hD.sub (ws' := [(q_2, .inr (5, [.int 0, .int 0, .int 0, .int 0, .int 0, .int 0, .int 0, .int 0, .null, .null, .null, .null, .null, .null, .null, .null, .null, .null, .null, .int 0, .int 0, .null, .null, .int 0, .null, .null]))]) [40] (by decide) rfl) rfl hl.1 rfl (Nat.le_of_ble_eq_true rfl) dL_law_12 ⟨by show _ ≤ 601024; omega, by show _ ≤ 7293034; omega⟩) hP hD hS hA [40] [0, 1, 2, 3, 4, 5, 6, 7, 8, 9, 10, 11, 12, 13, 14, 15, 16, 17, 18, 19, 20, 21, 22, 23, 24, 25, 26, 27, 28, 29, 30, 31, 32, 33, 34, 35, 36, 37, 38, 39] rfl rfl (by decide) (by decide) (fun k H locs hk hP hD hS => ?_)
  refine lv_astore_n (lv' := [(2, .ref q_2), (1, .ref (r 0)), (0, .ref b)]) hx hb dL_law_15 rfl hl (by decide) rfl (fun ls hl => ?_)
  rw [← hk] at hl
  have hP : va_P E.1 vwCl (CZ E r z v0 f0 ++ MW E k mv0 mf0 (fun _ => 0) (fun _ => 0)) H := hP
  have hD : va_D A (CZ E r z v0 f0 ++ MW E k mv0 mf0 (fun _ => 0) (fun _ => 0)) := hD
  generalize mv0 = V0 at hP hD hCI
  generalize mf0 = F9 at hP hD hCI
  refine lv_iconst (v := 1) hx hb dL_law_16 (by decide) ?_
  refine va_newa (atype := .long) (a0 := (1, .inr (.inl (fun _ => 0)))) (ty := .long) (N' := 1) hx hb (ht2 _ (List.mem_of_getElem? (i := 6) rfl)) rfl hK.1 hP hD hS hA (fun _ => rfl) (by decide) (by decide) (by decide) (by show _ ≤ 601024; omega) (by show _ ≤ 7293034; omega) dL_law_17 (fun q3 cA H hK1 hP hD hS => ?_)
  have e1 : s.vm.findClass ("[" ++ FieldType.long.toString) = some cA := (hK1.2 4 (cA, .long) rfl).2
  have e2 : s.vm.findClass ("[" ++ FieldType.long.toString) = some (E.2 3) := (hK1.2 3 (E.2 3, .long) rfl).2
  have e3 : cA = E.2 3 := Option.some.inj (e1.symm.trans e2)
  subst e3
  rw [List.append_assoc] at hP hD
  refine lv_astore_n (lv' := [(3, .ref q3), (2, .ref (k 0)), (1, .ref (r 0)), (0, .ref b)]) hx hb dL_law_19 rfl hl (by decide) rfl (fun ls hl => ?_)
  refine lv_iconst (v := 0) hx hb dL_law_20 (by decide) ?_
  refine w_top nI_0.symm ?_
  refine lv_istore (lv' := [(4, .int (nI 0)), (3, .ref q3), (2, .ref (k 0)), (1, .ref (r 0)), (0, .ref b)]) hx hb dL_law_21 hl (by decide) rfl (fun ls hl => ?_)
  refine W.widen (k := 60 + 26 * 0) (n := 44000 + 631 * 0) (by omega) (by omega) ?_
  exact law_loop X hr hlocks 512 0 rfl H locs ls ⟨r, z, v0, f0, k, V0, F9, (fun _ => 0), (fun _ => 0), q3, (fun _ => 0), 0, 0, 20, 20, 0, 0, hP, hD, hS, lv_sub hl [4, 3, 2, 1, 0] rfl, hCI⟩
