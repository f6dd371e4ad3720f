/-- what a throw of done needs of the tables and of the statics -/
def xB : List Cond := [.castable "java/util/NoSuchElementException" "java/util/NoSuchElementException", .declares (Bundle.initS "java/lang/RuntimeException"), .declares (Bundle.initS "java/lang/Exception"), .declares (Bundle.initS "java/lang/Throwable")]
def DXs (U : State) : Prop := (va_Nw (.castable "java/util/NoSuchElementException" "java/util/NoSuchElementException") U ∧ va_Nw (.declares (Bundle.initS "java/lang/RuntimeException")) U ∧ va_Nw (.declares (Bundle.initS "java/lang/Exception")) U ∧ va_Nw (.declares (Bundle.initS "java/lang/Throwable")) U) ∧ (∃ a, vk_R RX4 166 "no such modes, no such world, or the day is over" a U) ∧ ∃ a, vk_R RX4 171 "this doing is not legal" a U
def DXz (A : Nat → Prop) (U : State) (H : Heap) : Prop := vx_Zq Bundle.tN "UNASSIGNED_STACK" Bundle.steD A U H ∧ vx_Zq Bundle.tN "SUPPRESSED_SENTINEL" Bundle.listD A U H
theorem DXs.warm {s U : State} (hW : s.WarmedH U.vm) (h : DXs s) : DXs U := by
  obtain ⟨⟨h1, h2, h3, h4⟩, ⟨a, h5⟩, b, h6⟩ := h
  exact ⟨⟨va_Nw.warmC hW h1, va_Nw.warmD hW h2, va_Nw.warmD hW h3, va_Nw.warmD hW h4⟩, ⟨a, h5.warm hW⟩, b, h6.warm hW⟩
theorem DXs.calling {U : State} {g : JFrame} {mk : MethodId} {a : Array Value} (h : DXs U) : DXs (U.calling g mk a) := by
  obtain ⟨⟨h1, h2, h3, h4⟩, ⟨a, h5⟩, b, h6⟩ := h
  exact ⟨⟨va_Nw.same rfl rfl h1, va_Nw.same rfl rfl h2, va_Nw.same rfl rfl h3, va_Nw.same rfl rfl h4⟩, ⟨a, vk_R.same rfl h5⟩, b, vk_R.same rfl h6⟩
theorem DXz.moved {A : Nat → Prop} {u U : State} {H : Heap} (hvm : u.vm.Alike U.vm) (h : DXz A u H) : DXz A U H := ⟨vx_Zq.moved hvm h.1, vx_Zq.moved hvm h.2⟩
theorem DXz.kept {A : Nat → Prop} {U : State} {H H1 : Heap} (h : DXz A U H) (hq : ∀ a : Nat, a < H.size → ¬ A a → H1[a]? = H[a]?) : DXz A U H1 := ⟨h.1.kept hq, h.2.kept hq⟩
theorem DXz.narrow {A B : Nat → Prop} {U : State} {H : Heap} (h : DXz A U H) (hAB : ∀ q, B q → A q) : DXz B U H := ⟨h.1.narrow hAB, h.2.narrow hAB⟩
theorem DXs.at {s : State} {args : Array Value} (h : DXs s) (hg : ∀ w ∈ nsGood, w.before args s = true) : ∀ w ∈ nsAt, w.before args s = true :=
  vx_hat (B := xB) hg (by decide +kernel) (vx_c (va_Nw.use rfl h.1.1) (vx_c (va_Nw.use rfl h.1.2.1) (vx_c (va_Nw.use rfl h.1.2.2.1) (vx_c (va_Nw.use rfl h.1.2.2.2) vx_n))))
theorem x_good : ∀ w ∈ Cond.classLink RX4 164 "java/util/NoSuchElementException" :: Cond.initialized "java/util/NoSuchElementException" :: nsAt, vx_ot w = true := by decide +kernel
def pMd (E : GG) (av : List Value) (ws wa : va_W) (sz : Nat) : Array Value → State → Prop := va_Pc av (fun U => U.heap.size = sz ∧ va_P E.1 vwCl ws U.heap ∧ CK E U ∧ va_D (fun _ => True) ws ∧ DXs U ∧ DXz (va_A wa sz) U U.heap)
theorem pMd.blind {E : GG} {av : List Value} {ws wa : va_W} {sz : Nat} : FrameBlind (pMd E av ws wa sz) := fun _ _ _ _ q => ⟨q.1, q.2.1, q.2.2.1, q.2.2.2.1.calling, q.2.2.2.2.1, q.2.2.2.2.2.1.calling, DXz.moved (Vm.Alike.refl _) q.2.2.2.2.2.2⟩
theorem ofX {l : Launch} {E : GG} {y : MethodName} {ws ws' : List Cond} {rm : Room} {w : va_W} {sz : Nat} {cc : ByteArray} {maxL : Nat} {ret : Option FieldType} {av : List Value} {Qc : Array Value → State → Outcome → State → Prop} {XC : String → State → State → Prop} {mc ms : Nat} (hy : plainName y.cls = true) (hw : ws = Cond.code y cc maxL ret :: ws') (hlen : (lg_sl av).length ≤ maxL)
    (body : ∀ (p : Program) (e : Env) (s : State) (m : MethodId) (below : List Frame) (meth : Method) (c : Code) (A : Nat → Prop), DXs s → DXz A s s.heap → (∀ x ∈ c.exceptionTable.toList, False) → p.tables.exec = Jvm.exec → c.code = cc → meth.sig.returnType = ret → meth.locks = false → c.maxLocals = maxL → s.vm.findClass y.cls = some m.cls → (∀ w ∈ ws, w.before av.toArray s = true) → CK E s → va_P E.1 vwCl w s.heap → va_D A w → va_S A s.heap s.heap [] → (∀ q : Nat, s.heap.size ≤ q → A q) → s.heap.size = sz → A = va_A w sz → ∀ ls : Array Slot, lv_has ls maxL (lv_args 0 av) →
      W p l e rm s m av.toArray below meth c s.heap [] 0 0 (vx_MQ below Qc XC av.toArray s mc ms (va_A w sz)) (F0 m 0 ls [])) : vx_Met l y ws rm (pMd E av w w sz) Qc XC mc ms (va_A w sz) := by
  refine vx_ofW (cc := cc) (maxL := maxL) (ret := ret) hy hw ?_
  intro p e s m args below meth c s₁ B hml htab hv
  obtain ⟨rfl, hsz, hP, hK, hD0, hX, hZ⟩ := hv
  have hl := lv_entry av (n := maxL) hlen
  rw [lg_entry_eq]
  exact body p e s m below meth c (va_A w sz) hX hZ htab B.exec B.bytes B.returns B.notSynchronized hml (findClass_of_methodNamed B.named) (atoms_spec (ws := ws) B.pre) hK hP (by rw [← hsz]; exact hD0.self) va_S.rf (fun q h => Or.inr (by rw [← hsz]; exact h)) hsz rfl _ hl
/-- what done answers, and where it throws -/
def dnP (V : Nat → Int32) (F : Nat → Nat → Int32) (nw : Nat) (a b w : Int32) : Int32 → CS → Prop := fun x u => ok_done V F nw a b w ∧ x = m_money F w.toNatClampNeg nw (F 21 0) (F 21 1) a b ∧ ∃ nw' rv' up' lo' m0' m1' : Nat, CI u.2.1 u.2.2 (d_v V F nw w.toNatClampNeg a b) (d_f F a b) nw' rv' up' lo' m0' m1'
def dnX (V : Nat → Int32) (F : Nat → Nat → Int32) (nw rv up lo m0 m1 : Nat) (a b w : Int32) : CS → Prop := fun u => ¬ ok_done V F nw a b w ∧ CI u.2.1 u.2.2 V F nw rv up lo m0 m1
abbrev dnB (E : GG) (r : Nat → Nat) (A : Nat → Prop) : String → CS → State → Prop := fun X u t => X = "java/util/NoSuchElementException" ∧ va_P E.1 vwCl (CZ E r u.1 u.2.1 u.2.2) t.heap ∧ va_D A (CZ E r u.1 u.2.1 u.2.2)
theorem thrown_X {E : GG} {r : Nat → Nat} {A : Nat → Prop} {s t : State} {H : Heap} {locs : List Loc} {px : CS → Prop} (u : CS) (hu : px u) (hP : va_P E.1 vwCl (CZ E r u.1 u.2.1 u.2.2) H) (hD : va_D A (CZ E r u.1 u.2.1 u.2.2)) (hS : va_S A s.heap H locs) (h1 : H.size ≤ t.heap.size) (h2 : ∀ q : Nat, q < H.size → t.heap[q]? = H[q]?) : vx_X px (dnB E r A) A "java/util/NoSuchElementException" s t :=
  ⟨u, hu, ⟨rfl, hP.kept (fun k q hk => h2 q.1 (hP k q hk).lt), hD⟩, Nat.le_trans hS.1 h1, fun q hq hn => (h2 q (Nat.lt_of_lt_of_le hq hS.1)).trans (hS.2.1 q hq hn)⟩
set_option maxHeartbeats 4000000 in
set_option maxRecDepth 100000 in
theorem c_X4_done (l : Launch) (hlt : l.stackTraces = false) (E : GG) (r z : Nat → Nat) (v : Nat → Int32) (f : Nat → Nat → Int32) (sz : Nat) (a b w : Int32) (V : Nat → Int32) (F : Nat → Nat → Int32) (nw rv up lo m0 m1 : Nat) (hC : CI v f V F nw rv up lo m0 m1) : vx_Met l yX4_done wsX4_done (Rm 6 1 6) (pMd E [.ref (r 0), .int a, .int b, .int w] (CZ E r z v f) (CZ E r z v f) sz) (va_Qi (dnP V F nw a b w) (bM E (va_A (CZ E r z v f) sz) (fun (u : CS) => CZ E r u.1 u.2.1 u.2.2)) (va_A (CZ E r z v f) sz)) (vx_X (dnX V F nw rv up lo m0 m1 a b w) (dnB E r (va_A (CZ E r z v f) sz)) (va_A (CZ E r z v f) sz)) 1 6 (va_A (CZ E r z v f) sz) := by
  refine ofX (by decide) rfl (Nat.le_of_ble_eq_true rfl) ?_
  intro p e s m below meth c A hX hZ htab hx hb hr hlocks hml hown hts hK hP hD hS hA hsz hAe ls hl
  rw [← hAe]
  have hl : lv_has ls 5 [(0, .ref (r 0)), (1, .int a), (2, .int b), (3, .int w)] := hl
  obtain ⟨hnw, hn24, hrv, hr24, hup, hup40, hlo, hlo40, hm0, h03, hm1, h13⟩ := CI_nat hC
  refine lv_iload_n hx hb dX4_done_0 rfl (lv_at hl 1 rfl) ?_
  refine cR_S ⟨hx, hb, hml, hown, hts⟩ (c_X4_isMode l E a) (va_cwS 1 hts gX4_done_X4_isMode rfl rfl rfl (by decide +kernel) ⟨Nat.le_of_ble_eq_true rfl, Nat.le_of_ble_eq_true rfl⟩) hK nilP rfl hl.1 rfl (Nat.le_of_ble_eq_true rfl) dX4_done_1 ⟨Nat.le_of_ble_eq_true rfl, Nat.le_of_ble_eq_true rfl⟩ ?_
  refine b_if_eq (q := (m_in a 0 2)) (tgt := 30) hx hb dX4_done_4 (by decide) (fun c_1 => ?_) (fun c_1 => ?_)
  · skip
    obtain ⟨sa9, hst9⟩ := hX.2.1
    exact ns_throw (text := "no such modes, no such world, or the day is over") (is := 166) (sa := sa9) (A := A) hx hb hlt hown (hts _ (List.mem_of_getElem? (i := 1) rfl)) (hts _ (List.mem_of_getElem? (i := 2) rfl)) hst9 (hX.at (fun w h => hts w (List.mem_cons_of_mem _ (List.mem_append_right _ h)))) x_good hZ.1 hZ.2 hS (hl.1.trans hml.symm) dX4_done_30 dX4_done_33 dX4_done_34 dX4_done_36 dX4_done_39 (fun x h => (htab x h).elim) (by decide) (by decide) (by decide) (by decide) hlocks (fun t _ h1 h2 => thrown_X ((z, v, f) : CS) ⟨fun q => c_1 q.1.1, hC⟩ hP hD hS h1 h2) hS.2.2 (by decide) (by decide)
  · skip
    refine lv_iload_n hx hb dX4_done_7 rfl (lv_at hl 2 rfl) ?_
    refine cR_S ⟨hx, hb, hml, hown, hts⟩ (c_X4_isMode l E b) (va_cwS 1 hts gX4_done_X4_isMode rfl rfl rfl (by decide +kernel) ⟨Nat.le_of_ble_eq_true rfl, Nat.le_of_ble_eq_true rfl⟩) hK nilP rfl hl.1 rfl (Nat.le_of_ble_eq_true rfl) dX4_done_8 ⟨Nat.le_of_ble_eq_true rfl, Nat.le_of_ble_eq_true rfl⟩ ?_
    refine b_if_eq (q := (m_in b 0 2)) (tgt := 30) hx hb dX4_done_11 (by decide) (fun c_2 => ?_) (fun c_2 => ?_)
    · skip
      obtain ⟨sa9, hst9⟩ := hX.2.1
      exact ns_throw (text := "no such modes, no such world, or the day is over") (is := 166) (sa := sa9) (A := A) hx hb hlt hown (hts _ (List.mem_of_getElem? (i := 1) rfl)) (hts _ (List.mem_of_getElem? (i := 2) rfl)) hst9 (hX.at (fun w h => hts w (List.mem_cons_of_mem _ (List.mem_append_right _ h)))) x_good hZ.1 hZ.2 hS (hl.1.trans hml.symm) dX4_done_30 dX4_done_33 dX4_done_34 dX4_done_36 dX4_done_39 (fun x h => (htab x h).elim) (by decide) (by decide) (by decide) (by decide) hlocks (fun t _ h1 h2 => thrown_X ((z, v, f) : CS) ⟨fun q => c_2 q.1.2, hC⟩ hP hD hS h1 h2) hS.2.2 (by decide) (by decide)
    · skip
      refine lv_iload_n hx hb dX4_done_14 rfl (lv_at hl 3 rfl) ?_
      refine cR_S ⟨hx, hb, hml, hown, hts⟩ (c_X4_isWorld l E w) (va_cwS 1 hts gX4_done_X4_isWorld rfl rfl rfl (by decide +kernel) ⟨Nat.le_of_ble_eq_true rfl, Nat.le_of_ble_eq_true rfl⟩) hK nilP rfl hl.1 rfl (Nat.le_of_ble_eq_true rfl) dX4_done_15 ⟨Nat.le_of_ble_eq_true rfl, Nat.le_of_ble_eq_true rfl⟩ ?_
      refine b_if_eq (q := (m_in w 0 2)) (tgt := 30) hx hb dX4_done_18 (by decide) (fun c_3 => ?_) (fun c_3 => ?_)
      · skip
        obtain ⟨sa9, hst9⟩ := hX.2.1
        exact ns_throw (text := "no such modes, no such world, or the day is over") (is := 166) (sa := sa9) (A := A) hx hb hlt hown (hts _ (List.mem_of_getElem? (i := 1) rfl)) (hts _ (List.mem_of_getElem? (i := 2) rfl)) hst9 (hX.at (fun w h => hts w (List.mem_cons_of_mem _ (List.mem_append_right _ h)))) x_good hZ.1 hZ.2 hS (hl.1.trans hml.symm) dX4_done_30 dX4_done_33 dX4_done_34 dX4_done_36 dX4_done_39 (fun x h => (htab x h).elim) (by decide) (by decide) (by decide) (by decide) hlocks (fun t _ h1 h2 => thrown_X ((z, v, f) : CS) ⟨fun q => c_3 q.2.1, hC⟩ hP hD hS h1 h2) hS.2.2 (by decide) (by decide)
      · skip
        refine lv_aload_n hx hb dX4_done_21 rfl (lv_at hl 0 rfl) ?_
        refine va_get (D := E.1) (ci := 4) (v := .int (v 32)) (C := RX4) (T := TX4) (N := 13) hx hb hts (fun _ h => (List.mem_cons_of_mem _ (List.mem_append_left _ (List.mem_append_left _ (List.mem_append_left _ (List.mem_append_left _ (List.mem_append_left _ (List.mem_append_right _ h)))))))) hown hK.1 hP 15 rfl rfl 11 (by decide) (hts _ (List.mem_of_getElem? (i := 3) rfl)) (fun _ h9 => h9) rfl dX4_done_22 ?_
        refine w_top (show (v 32) = nI nw from hnw) ?_
        refine lv_bipush (v := 24) hx hb dX4_done_25 (by decide) ?_
        refine n_icmp_lt (tgt := 40) (a := nw) (b := 24) hx hb dX4_done_27 (by decide) (by omega) (by omega) (fun c_4 => ?_) (fun c_4 => ?_)
        · skip
          obtain ⟨an, han, ean⟩ : ∃ j : Nat, j ≤ 2 ∧ a = nI j := ⟨_, (inN c_1 2 (by decide) (by decide)).2, (inN c_1 2 (by decide) (by decide)).1⟩
          subst ean
          obtain ⟨bn, hbn, ebn⟩ : ∃ j : Nat, j ≤ 2 ∧ b = nI j := ⟨_, (inN c_2 2 (by decide) (by decide)).2, (inN c_2 2 (by decide) (by decide)).1⟩
          subst ebn
          refine lv_iload_n hx hb dX4_done_40 rfl (lv_at hl 1 rfl) ?_
          refine lv_iconst (v := 3) hx hb dX4_done_41 (by decide) ?_
          refine lv_imul hx hb dX4_done_42 ?_
          refine w_top (show ((nI an) * 3) = (nI (an * 3)) from pk_mul _ _) ?_
          refine lv_iload_n hx hb dX4_done_43 rfl (lv_at hl 2 rfl) ?_
          refine lv_iadd hx hb dX4_done_44 ?_
          refine w_top (show ((nI (an * 3)) + (nI bn)) = (nI ((an * 3) + bn)) from nI_add _ _) ?_
          refine lv_istore (lv' := [(4, .int (nI ((an * 3) + bn))), (0, .ref (r 0)), (1, .int (nI an)), (2, .int (nI bn)), (3, .int w)]) hx hb dX4_done_45 hl (by decide) rfl (fun ls hl => ?_)
          refine lv_aload_n hx hb dX4_done_47 rfl (lv_at hl 1 rfl) ?_
          refine lv_iload hx hb dX4_done_48 (lv_at hl 0 rfl) ?_
          refine cM_i (As := [.ref (r 0), .int (nI ((an * 3) + bn))]) (wr := []) (rM_V ⟨hx, hb, hml, hown, hts⟩ (c_X4_isLegalNow l E r z v f s.heap.size ((an * 3) + bn) nw m0 m1 hnw (by omega) hm0 h03 hm1 h13 (by omega)) (cwV 1 hts gX4_done_X4_isLegalNow rfl rfl rfl (by decide +kernel) ⟨Nat.le_of_ble_eq_true rfl, Nat.le_of_ble_eq_true rfl⟩) hK hP hD 4 15 rfl rfl rfl hl.1 rfl (Nat.le_of_ble_eq_true rfl) dX4_done_50 ⟨Nat.le_of_ble_eq_true rfl, Nat.le_of_ble_eq_true rfl⟩) hP hD hS hA [0, 1, 2, 3, 4, 5, 6, 7, 8, 9, 10, 11, 12, 13, 14, 15, 16, 17, 18, 19, 20, 21, 22, 23, 24, 25, 26, 27, 28, 29, 30, 31, 32, 33, 34, 35, 36, 37, 38, 39] [] rfl rfl (by decide) (by decide) (fun x_5 u_5 H locs hq_5 hP hD hS => ?_)
          obtain ⟨rfl, rfl⟩ := hq_5
          have hP : va_P E.1 vwCl (CZ E r z v (lookF v f nw (v 4 + v 5) 9)) H := hP
          have hD : va_D A (CZ E r z v (lookF v f nw (v 4 + v 5) 9)) := hD
          refine b_if_ne (q := (cLegal v f nw (m0 * 3 + m1) ((an * 3) + bn))) (tgt := 66) hx hb dX4_done_53 (by decide) (fun c_6 => ?_) (fun c_6 => ?_)
          · skip
            have hlg := (CI_legal (d := an * 3 + bn) hC (by omega)).mp c_6
            have hC1 : CI v (lookF v f nw (v 4 + v 5) 9) V F nw rv up lo m0 m1 := CI_look hC
            rcases in012 c_3 with rfl | rfl | rfl
            · skip
              refine lv_aload_n hx hb dX4_done_66 rfl (lv_at hl 1 rfl) ?_
              refine lv_iload hx hb dX4_done_67 (lv_at hl 0 rfl) ?_
              refine lv_iload_n hx hb dX4_done_69 rfl (lv_at hl 4 rfl) ?_
              refine cM_i (As := [.ref (r 0), .int (nI ((an * 3) + bn)), .int 0]) (wr := []) (rM_V ⟨hx, hb, hml, hown, hts⟩ (c_X4_carryOut0 l E r z v (lookF v f nw (v 4 + v 5) 9) H.size ((an * 3) + bn) nw m0 m1 hnw (by omega) hm0 h03 hm1 h13 (by omega)) (cwV 2 hts gX4_done_X4_carryOut rfl rfl rfl (by decide +kernel) ⟨Nat.le_of_ble_eq_true rfl, Nat.le_of_ble_eq_true rfl⟩) hK hP hD 4 15 rfl rfl rfl hl.1 rfl (Nat.le_of_ble_eq_true rfl) dX4_done_70 ⟨Nat.le_of_ble_eq_true rfl, Nat.le_of_ble_eq_true rfl⟩) hP hD hS hA [0, 1, 2, 3, 4, 5, 6, 7, 8, 9, 10, 11, 12, 13, 14, 15, 16, 17, 18, 19, 20, 21, 22, 23, 24, 25, 26, 27, 28, 29, 30, 31, 32, 33, 34, 35, 36, 37, 38, 39] [] rfl rfl (by decide) (by decide) (fun x_7 u_7 H locs hq_7 hP hD hS => ?_)
              obtain ⟨rfl, rfl⟩ := hq_7
              have hP : va_P E.1 vwCl (CZ E r z (cDoV v (lookF v f nw (v 4 + v 5) 9) 0 nw (m0 * 3 + m1) ((an * 3) + bn)) (chg (lookF v (lookF v f nw (v 4 + v 5) 9) nw (v 4 + v 5) 9))) H := hP
              have hD : va_D A (CZ E r z (cDoV v (lookF v f nw (v 4 + v 5) 9) 0 nw (m0 * 3 + m1) ((an * 3) + bn)) (chg (lookF v (lookF v f nw (v 4 + v 5) 9) nw (v 4 + v 5) 9))) := hD
              obtain ⟨emo, up2, lo2, hC2⟩ := CI_does hC1 (by omega) (w := 0) (by decide) (d := an * 3 + bn) (by omega) hlg (v 4 + v 5)
              rw [show (an * 3 + bn) / 3 = an by omega, show (an * 3 + bn) % 3 = bn by omega] at hlg emo hC2
              refine W.widen (k := 1) (n := 6) (Nat.le_of_ble_eq_true rfl) (Nat.le_of_ble_eq_true rfl) ?_
              exact vx_ret (q_ret ((z, (cDoV v (lookF v f nw (v 4 + v 5) 9) 0 nw (m0 * 3 + m1) ((an * 3) + bn)), (chg (lookF v (lookF v f nw (v 4 + v 5) 9) nw (v 4 + v 5) 9))) : CS) hx hb hr hlocks ⟨⟨⟨c_1, c_2⟩, c_3, by omega, hlg⟩, emo, _, _, _, _, _, _, hC2⟩ hP hD hS dX4_done_73)
            · skip
              refine lv_aload_n hx hb dX4_done_66 rfl (lv_at hl 1 rfl) ?_
              refine lv_iload hx hb dX4_done_67 (lv_at hl 0 rfl) ?_
              refine lv_iload_n hx hb dX4_done_69 rfl (lv_at hl 4 rfl) ?_
              refine cM_i (As := [.ref (r 0), .int (nI ((an * 3) + bn)), .int 1]) (wr := []) (rM_V ⟨hx, hb, hml, hown, hts⟩ (c_X4_carryOut1 l E r z v (lookF v f nw (v 4 + v 5) 9) H.size ((an * 3) + bn) nw m0 m1 hnw (by omega) hm0 h03 hm1 h13 (by omega)) (cwV 2 hts gX4_done_X4_carryOut rfl rfl rfl (by decide +kernel) ⟨Nat.le_of_ble_eq_true rfl, Nat.le_of_ble_eq_true rfl⟩) hK hP hD 4 15 rfl rfl rfl hl.1 rfl (Nat.le_of_ble_eq_true rfl) dX4_done_70 ⟨Nat.le_of_ble_eq_true rfl, Nat.le_of_ble_eq_true rfl⟩) hP hD hS hA [0, 1, 2, 3, 4, 5, 6, 7, 8, 9, 10, 11, 12, 13, 14, 15, 16, 17, 18, 19, 20, 21, 22, 23, 24, 25, 26, 27, 28, 29, 30, 31, 32, 33, 34, 35, 36, 37, 38, 39] [] rfl rfl (by decide) (by decide) (fun x_8 u_8 H locs hq_8 hP hD hS => ?_)
              obtain ⟨rfl, rfl⟩ := hq_8
              have hP : va_P E.1 vwCl (CZ E r z (cDoV v (lookF v f nw (v 4 + v 5) 9) 1 nw (m0 * 3 + m1) ((an * 3) + bn)) (chg (lookF v (lookF v f nw (v 4 + v 5) 9) nw (v 4 + v 5) 9))) H := hP
              have hD : va_D A (CZ E r z (cDoV v (lookF v f nw (v 4 + v 5) 9) 1 nw (m0 * 3 + m1) ((an * 3) + bn)) (chg (lookF v (lookF v f nw (v 4 + v 5) 9) nw (v 4 + v 5) 9))) := hD
              obtain ⟨emo, up2, lo2, hC2⟩ := CI_does hC1 (by omega) (w := 1) (by decide) (d := an * 3 + bn) (by omega) hlg (v 4 + v 5)
              rw [show (an * 3 + bn) / 3 = an by omega, show (an * 3 + bn) % 3 = bn by omega] at hlg emo hC2
              refine W.widen (k := 1) (n := 6) (Nat.le_of_ble_eq_true rfl) (Nat.le_of_ble_eq_true rfl) ?_
              exact vx_ret (q_ret ((z, (cDoV v (lookF v f nw (v 4 + v 5) 9) 1 nw (m0 * 3 + m1) ((an * 3) + bn)), (chg (lookF v (lookF v f nw (v 4 + v 5) 9) nw (v 4 + v 5) 9))) : CS) hx hb hr hlocks ⟨⟨⟨c_1, c_2⟩, c_3, by omega, hlg⟩, emo, _, _, _, _, _, _, hC2⟩ hP hD hS dX4_done_73)
            · skip
              refine lv_aload_n hx hb dX4_done_66 rfl (lv_at hl 1 rfl) ?_
              refine lv_iload hx hb dX4_done_67 (lv_at hl 0 rfl) ?_
              refine lv_iload_n hx hb dX4_done_69 rfl (lv_at hl 4 rfl) ?_
              refine cM_i (As := [.ref (r 0), .int (nI ((an * 3) + bn)), .int 2]) (wr := []) (rM_V ⟨hx, hb, hml, hown, hts⟩ (c_X4_carryOut2 l E r z v (lookF v f nw (v 4 + v 5) 9) H.size ((an * 3) + bn) nw m0 m1 hnw (by omega) hm0 h03 hm1 h13 (by omega)) (cwV 2 hts gX4_done_X4_carryOut rfl rfl rfl (by decide +kernel) ⟨Nat.le_of_ble_eq_true rfl, Nat.le_of_ble_eq_true rfl⟩) hK hP hD 4 15 rfl rfl rfl hl.1 rfl (Nat.le_of_ble_eq_true rfl) dX4_done_70 ⟨Nat.le_of_ble_eq_true rfl, Nat.le_of_ble_eq_true rfl⟩) hP hD hS hA [0, 1, 2, 3, 4, 5, 6, 7, 8, 9, 10, 11, 12, 13, 14, 15, 16, 17, 18, 19, 20, 21, 22, 23, 24, 25, 26, 27, 28, 29, 30, 31, 32, 33, 34, 35, 36, 37, 38, 39] [] rfl rfl (by decide) (by decide) (fun x_9 u_9 H locs hq_9 hP hD hS => ?_)
              obtain ⟨rfl, rfl⟩ := hq_9
              have hP : va_P E.1 vwCl (CZ E r z (cDoV v (lookF v f nw (v 4 + v 5) 9) 2 nw (m0 * 3 + m1) ((an * 3) + bn)) (chg (lookF v (lookF v f nw (v 4 + v 5) 9) nw (v 4 + v 5) 9))) H := hP
              have hD : va_D A (CZ E r z (cDoV v (lookF v f nw (v 4 + v 5) 9) 2 nw (m0 * 3 + m1) ((an * 3) + bn)) (chg (lookF v (lookF v f nw (v 4 + v 5) 9) nw (v 4 + v 5) 9))) := hD
              obtain ⟨emo, up2, lo2, hC2⟩ := CI_does hC1 (by omega) (w := 2) (by decide) (d := an * 3 + bn) (by omega) hlg (v 4 + v 5)
              rw [show (an * 3 + bn) / 3 = an by omega, show (an * 3 + bn) % 3 = bn by omega] at hlg emo hC2
              refine W.widen (k := 1) (n := 6) (Nat.le_of_ble_eq_true rfl) (Nat.le_of_ble_eq_true rfl) ?_
              exact vx_ret (q_ret ((z, (cDoV v (lookF v f nw (v 4 + v 5) 9) 2 nw (m0 * 3 + m1) ((an * 3) + bn)), (chg (lookF v (lookF v f nw (v 4 + v 5) 9) nw (v 4 + v 5) 9))) : CS) hx hb hr hlocks ⟨⟨⟨c_1, c_2⟩, c_3, by omega, hlg⟩, emo, _, _, _, _, _, _, hC2⟩ hP hD hS dX4_done_73)
          · skip
            have elg := CI_legal (d := an * 3 + bn) hC (by omega)
            rw [show (an * 3 + bn) / 3 = an by omega, show (an * 3 + bn) % 3 = bn by omega] at elg
            obtain ⟨sa9, hst9⟩ := hX.2.2
            exact ns_throw (text := "this doing is not legal") (is := 171) (sa := sa9) (A := A) hx hb hlt hown (hts _ (List.mem_of_getElem? (i := 1) rfl)) (hts _ (List.mem_of_getElem? (i := 2) rfl)) hst9 (hX.at (fun w h => hts w (List.mem_cons_of_mem _ (List.mem_append_right _ h)))) x_good hZ.1 hZ.2 hS (hl.1.trans hml.symm) dX4_done_56 dX4_done_59 dX4_done_60 dX4_done_62 dX4_done_65 (fun x h => (htab x h).elim) (by decide) (by decide) (by decide) (by decide) hlocks (fun t _ h1 h2 => thrown_X ((z, v, (lookF v f nw (v 4 + v 5) 9)) : CS) ⟨fun q => c_6 (elg.mpr q.2.2.2), CI_look hC⟩ hP hD hS h1 h2) hS.2.2 (by decide) (by decide)
        · skip
          obtain ⟨sa9, hst9⟩ := hX.2.1
          exact ns_throw (text := "no such modes, no such world, or the day is over") (is := 166) (sa := sa9) (A := A) hx hb hlt hown (hts _ (List.mem_of_getElem? (i := 1) rfl)) (hts _ (List.mem_of_getElem? (i := 2) rfl)) hst9 (hX.at (fun w h => hts w (List.mem_cons_of_mem _ (List.mem_append_right _ h)))) x_good hZ.1 hZ.2 hS (hl.1.trans hml.symm) dX4_done_30 dX4_done_33 dX4_done_34 dX4_done_36 dX4_done_39 (fun x h => (htab x h).elim) (by decide) (by decide) (by decide) (by decide) hlocks (fun t _ h1 h2 => thrown_X ((z, v, f) : CS) ⟨fun q => q.2.2.1 (by omega), hC⟩ hP hD hS h1 h2) hS.2.2 (by decide) (by decide)
