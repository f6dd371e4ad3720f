set_option maxRecDepth 40000 in
theorem nestF_in : ∀ w ∈ nestF.map (fun q => Cond.fieldLinkNest q.1 q.2.1 q.2.2.1 q.2.2.2.1 q.2.2.2.2 "TwoLakes"), w ∈ lw_tbl := mem_at [75, 77, 79, 80, 82, 83, 85, 87, 89, 90, 92, 93, 95, 96, 124, 126, 128, 130, 132, 133, 135, 137, 139, 168, 169, 171, 172, 174, 176, 178, 180, 211, 213, 215, 218] rfl
set_option maxRecDepth 40000 in
theorem nestM_in : ∀ w ∈ nestM.map (fun q => Cond.methodLinkNest q.1 q.2.1 q.2.2 "TwoLakes"), w ∈ lw_tbl := mem_at [70, 119, 160, 203, 346, 354, 358, 366, 373, 377, 389, 393, 405, 409, 412, 415, 431, 445, 450, 467, 492] rfl
theorem arr_of {args : Array Value} {s : State} {t : FieldType} (h : (Cond.arrayClass t).before args s = true) : ∃ cA, ArrOfT s cA t ∧ s.vm.findClass ("[" ++ t.toString) = some cA := by
  obtain ⟨cA, kA, comp, h1, h2, h3⟩ := Cond.arrayClass_spec (show (Cond.arrayClass t).holds args s none s [] = true from h)
  exact ⟨cA, fun n z => ⟨fun k h => (by cases h), kA, h2, comp, h3⟩, h1⟩
theorem arr_ofO {args : Array Value} {s : State} {C : String} (h : (Cond.arrayOver (.object C)).before args s = true) : ∃ cA, ArrOfT s cA (.object C) ∧ va_RA s cA (.object C) := by
  obtain ⟨comp, cA, kA, h1, -, h3, h4, h5⟩ := Cond.arrayOver_spec (show (Cond.arrayOver (.object C)).holds args s none s [] = true from h)
  exact ⟨cA, fun n z => ⟨fun k h => (by cases h), kA, h3, comp, h4⟩, kA, comp, h3, h4, h1, h5⟩
theorem law_E {s : State} {args : Array Value} (hts : ∀ w ∈ lw_tbl, w.before args s = true) : ∃ E : GG, CK E s := by
  obtain ⟨c0, i0, k0⟩ := u_known (C := RX0) (T := TX0) (N := 9) (n := 9) hts in_wsX00 (hts (.instantiable RX0 9) (by decide +kernel))
  obtain ⟨c1, i1, k1⟩ := u_known (C := RX1) (T := TX1) (N := 9) (n := 9) hts in_wsX10 (hts (.instantiable RX1 9) (by decide +kernel))
  obtain ⟨c2, i2, k2⟩ := u_known (C := RX2) (T := TX2) (N := 8) (n := 8) hts in_wsX20 (hts (.instantiable RX2 8) (by decide +kernel))
  obtain ⟨c3, i3, k3⟩ := u_known (C := RX3) (T := TX3) (N := 5) (n := 5) hts in_wsX30 (hts (.instantiable RX3 5) (by decide +kernel))
  obtain ⟨c4, i4, k4⟩ := u_known (C := RX4) (T := TX4) (N := 13) (n := 13) hts in_wsX40 (hts (.instantiable RX4 13) (by decide +kernel))
  obtain ⟨c5, i5, k5⟩ := u_known (C := RX5) (T := TX5) (N := 26) (n := 26) hts in_wsX50 (hts (.instantiable RX5 26) (by decide +kernel))
  obtain ⟨aI, hI, gI⟩ := arr_of (hts (.arrayClass .int) (by decide +kernel))
  obtain ⟨aZ, hZ, gZ⟩ := arr_of (hts (.arrayClass .boolean) (by decide +kernel))
  obtain ⟨aL, hL, gL⟩ := arr_of (hts (.arrayClass .long) (by decide +kernel))
  obtain ⟨aO, hO, gO⟩ := arr_ofO (hts (.arrayOver (.object "TwoLakes$Outlook")) (by decide +kernel))
  refine ⟨((fun k => match k with | 0 => c0 | 1 => c1 | 2 => c2 | 3 => c3 | 4 => c4 | _ => c5, fun k => match k with | 0 => i0 | 1 => i1 | 2 => i2 | 3 => i3 | 4 => i4 | _ => i5), fun k => match k with | 0 => aI | 1 => aZ | 2 => aO | _ => aL), ⟨fun k q hq => ?_, fun k q hq => ?_⟩, fun q hq => ?_, fun q hq => ?_⟩
  · match k, hq with
    | 0, hq => cases hq; exact k0
    | 1, hq => cases hq; exact k1
    | 2, hq => cases hq; exact k2
    | 3, hq => cases hq; exact k3
    | 4, hq => cases hq; exact k4
    | 5, hq => cases hq; exact k5
    | k + 6, hq => simp [vwCl] at hq
  · match k, hq with
    | 0, hq => cases hq; exact ⟨hI, gI⟩
    | 1, hq => cases hq; exact ⟨hZ, gZ⟩
    | 2, hq => cases hq; exact ⟨hO, gO⟩
    | 3, hq => cases hq; exact ⟨hL, gL⟩
    | k + 4, hq => simp [T4] at hq
  · exact va_Nw.of rfl (hts _ (nestF_in _ (List.mem_map.mpr ⟨q, hq, rfl⟩)))
  · exact va_Nw.of rfl (hts _ (nestM_in _ (List.mem_map.mpr ⟨q, hq, rfl⟩)))
theorem law_X {s : State} {args : Array Value} (hts : ∀ w ∈ lw_tbl, w.before args s = true) (hgv : (Jvm.Cond.and given_1 narrow_1).before args s = true) : DXs s := by
  have hs := flat_of_before _ hgv
  obtain ⟨a, -, -, -, ha, -⟩ := Cond.exactly_spec (show (Cond.exactly (.string "TwoLakes" 166) "java/lang/String").holds args s none s [] = true from hs _ (by decide +kernel))
  obtain ⟨b, -, -, -, hb, -⟩ := Cond.exactly_spec (show (Cond.exactly (.string "TwoLakes" 171) "java/lang/String").holds args s none s [] = true from hs _ (by decide +kernel))
  exact ⟨⟨va_Nw.of rfl (hts _ (by decide +kernel)), va_Nw.of rfl (hts _ (by decide +kernel)), va_Nw.of rfl (hts _ (by decide +kernel)), va_Nw.of rfl (hts _ (by decide +kernel))⟩, ⟨a, vk_R.of (hts (.stringRef RX4 166 "no such modes, no such world, or the day is over") (by decide +kernel)) ha⟩, b, vk_R.of (hts (.stringRef RX4 171 "this doing is not legal") (by decide +kernel)) hb⟩
theorem law_Z {s : State} {args : Array Value} (hts : ∀ w ∈ lw_tbl, w.before args s = true) (hgv : (Jvm.Cond.and given_1 narrow_1).before args s = true) : DXz (fun q : Nat => s.heap.size ≤ q) s s.heap := by
  have hs := flat_of_before _ hgv
  exact ⟨vx_Zqof (hts (.laysStatic Bundle.tN "UNASSIGNED_STACK" Bundle.steD) (by decide +kernel)) (hts (.initialized Bundle.tN) (by decide +kernel)) (hs (.isRef (.static Bundle.tN "UNASSIGNED_STACK" Bundle.steD)) (by decide +kernel)) (fun a h => Nat.not_le.mpr h), vx_Zqof (hts (.laysStatic Bundle.tN "SUPPRESSED_SENTINEL" Bundle.listD) (by decide +kernel)) (hts (.initialized Bundle.tN) (by decide +kernel)) (hs (.isRef (.static Bundle.tN "SUPPRESSED_SENTINEL" Bundle.listD)) (by decide +kernel)) (fun a h => Nat.not_le.mpr h)⟩
