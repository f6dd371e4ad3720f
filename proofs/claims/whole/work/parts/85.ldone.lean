theorem ofMW {l : Launch} {E : GG} {y : MethodName} {ws ws' : List Cond} {rm : Room} {w : va_W} {sz : Nat} {cc : ByteArray} {maxL : Nat} {ret : Option FieldType} {hh : List (Nat × Nat × Nat × Nat)} {av : List Value} {Qc : Array Value → State → Outcome → State → Prop} {mc ms : Nat} (hy : plainName y.cls = true) (hw : ws = Cond.codeWith y cc maxL ret hh :: ws') (hlen : (lg_sl av).length ≤ maxL)
    (body : ∀ (p : Program) (e : Env) (s : State) (m : MethodId) (below : List Frame) (meth : Method) (c : Code) (A : Nat → Prop), DXs s → DXz A s s.heap → c.exceptionTable.toList = tableOf hh → p.tables.exec = Jvm.exec → c.code = cc → meth.sig.returnType = ret → meth.locks = false → c.maxLocals = maxL → s.vm.findClass y.cls = some m.cls → (∀ w ∈ ws, w.before av.toArray s = true) → CK E s → va_P E.1 vwCl w s.heap → va_D A w → va_S A s.heap s.heap [] → (∀ q : Nat, s.heap.size ≤ q → A q) → s.heap.size = sz → A = va_A w sz → ∀ ls : Array Slot, lv_has ls maxL (lv_args 0 av) →
      W p l e rm s m av.toArray below meth c s.heap [] 0 0 (MQ below Qc av.toArray s mc ms (va_A w sz)) (F0 m 0 ls [])) : Met l y ws rm (pMd E av w w sz) Qc mc ms (va_A w sz) := by
  refine va_MetW (cc := cc) (maxL := maxL) (ret := ret) (hh := hh) hy hw ?_
  intro p e s m args below meth c s₁ B hml hv
  obtain ⟨rfl, hsz, hP, hK, hD0, hX, hZ⟩ := hv
  have hts := atoms_spec (ws := ws) B.pre
  have hl := lv_entry av (n := maxL) hlen
  rw [lg_entry_eq]
  exact body p e s m below meth c (va_A w sz) hX hZ (vx_table (x := y) B (hts _ (by rw [hw]; exact List.mem_cons_self))) B.exec B.bytes B.returns B.notSynchronized hml (findClass_of_methodNamed B.named) hts hK hP (by rw [← hsz]; exact hD0.self) va_S.rf (fun q h => Or.inr (by rw [← hsz]; exact h)) hsz rfl _ hl
section RMXX
variable {p : Program} {l : Launch} {e : Env} {R : Room} {s : State} {m : MethodId} {args : Array Value} {below : List Frame} {meth : Method} {c : Code} {H H0 : Heap} {locs : List Loc} {cells slots mc ms : Nat} {Q : State → Prop}
variable {cc : ByteArray} {pc nL index n maxL : Nat} {ls : Array Slot} {rest As st0 : List Value} {E : GG} {y : MethodName} {ws Ts : List Cond} {rm : Room} {w wl wr : va_W} {own C : String} {bytes : ByteArray} {ret : Option FieldType} {b : Nat} {A : Nat → Prop}
variable {Qc : Array Value → State → Outcome → State → Prop} {XC : String → State → State → Prop} {free : Addr → Prop}
theorem rX_V (S : CallFix p m c cc nL s args Ts own) (hM : vx_Met l y ws rm (pMd E (.ref b :: As) w w H.size) Qc XC mc ms free) (cw : CallW R s args own C index y bytes maxL ret ws rm mc ms n) (hK : CK E s) (hX : DXs s) (hZ : DXz (va_A w H.size) s H) (hP : va_P E.1 vwCl w H) (hD : va_D A w) (ci q0 : Nat) {T : u_T} {N : Nat} {fs : List Value} (hc : vwCl[ci]? = some (C, T, N)) (he : w[q0]? = some (b, .inr (ci, fs)))
    (hn : As.length = n) (hsize : ls.size = nL) (hst : st0 = As.reverse ++ .ref b :: rest) (hW : (rest.map fun v => v.category).sum ≤ 8) (hdg : decode cc pc = .ok (.invokevirtual index, 3)) (hf : cells + mc ≤ R.cells ∧ slots + ms ≤ R.slots) : vx_Run p l e R s m args below meth c H locs cells slots mc ms (F0 m pc ls st0) rest (Qc (Value.ref b :: As).toArray) XC free := by
  subst hst
  exact vx_runV S hM cw ⟨pMd.blind, va_recv hK.1 hP hc he, fun U hU hW => ⟨rfl, by rw [hU], by rw [hU]; exact hP, hK.warm hW, hD.weaken (fun _ _ _ _ => trivial), hX.warm hW, by rw [hU]; exact DXz.moved hW.alike hZ⟩⟩ rfl hn hsize rfl (lv_room hW) hdg hf
theorem rM_SW {hh : List (Nat × Nat × Nat × Nat)} (S : CallFix p m c cc nL s args Ts own) (hM : Met l y ws rm (pMd E As w w H.size) Qc mc ms free) (cw : vx_CSW R s args own index y bytes maxL ret hh ws rm mc ms n) (hK : CK E s) (hX : DXs s) (hZ : DXz (va_A w H.size) s H) (hP : va_P E.1 vwCl w H) (hD : va_D A w)
    (hn : As.length = n) (hsize : ls.size = nL) (hst : st0 = As.reverse ++ rest) (hW : (rest.map fun v => v.category).sum ≤ 8) (hdg : decode cc pc = .ok (.invokestatic index, 3)) (hf : cells + mc ≤ R.cells ∧ slots + ms ≤ R.slots) : va_Run p l e R s m args below meth c H locs cells slots mc ms (F0 m pc ls st0) rest (Qc As.toArray) free := by
  subst hst
  exact vx_runSW S hM cw ⟨pMd.blind, fun U hU hW => ⟨rfl, by rw [hU], by rw [hU]; exact hP, hK.warm hW, hD.weaken (fun _ _ _ _ => trivial), hX.warm hW, by rw [hU]; exact DXz.moved hW.alike hZ⟩⟩ rfl hn hsize rfl (lv_room hW) hdg hf
theorem cX_i {St : Type} {post : Int32 → St → Prop} {wf : St → va_W} {r : Nat → Nat} {px : CS → Prop} (hr : vx_Run p l e R s m args below meth c H locs cells slots mc ms (F0 m pc ls st0) rest (va_Qi post (bM E (va_A w H.size) wf) (va_A w H.size) As.toArray) (vx_X px (dnB E r (va_A w H.size)) (va_A w H.size)) (va_A w H.size)) (hP : va_P E.1 vwCl wl H) (hD : va_D A wl) (hS : va_S A H0 H locs) (hA : ∀ q, H0.size ≤ q → A q)
    (isC isR : List Nat) (hC : isC.map (fun i => wl[i]?) = w.map some) (hR : isR.map (fun i => wl[i]?) = wr.map some) (hn : va_nd isR = true) (hdis : ∀ i ∈ isR, i ∉ isC)
    (kx : ∀ (ce : Cell) (q9 : Addr) (u : CS) (H1 : Heap) (locs1 : List Loc), px u → va_P E.1 vwCl (wr ++ CZ E r u.1 u.2.1 u.2.2) H1 → va_D A (wr ++ CZ E r u.1 u.2.1 u.2.2) → va_S A H0 H1 locs1 → H1[q9]? = some ce → ce.vm = .none → s.vm.findClass "java/util/NoSuchElementException" = some ce.cls → vx_W p l e R s m args below meth c H1 locs1 (cells + mc) (slots + ms) Q (F0 m pc ls rest) q9)
    (kk : ∀ (x : Int32) (u : St) (H1 : Heap) (locs1 : List Loc), post x u → va_P E.1 vwCl (wr ++ wf u) H1 → va_D A (wr ++ wf u) → va_S A H0 H1 locs1 → W p l e R s m args below meth c H1 locs1 (cells + mc) (slots + ms) Q (F0 m (pc + 3) ls (.int x :: rest))) : W p l e R s m args below meth c H locs cells slots Q (F0 m pc ls st0) := by
  have hF := va_free (wc := w) hD hS hA isC hC
  refine vx_calli hr hS (fun q _ h => hF q h) hF (fun q _ h => hF q h) (fun X ce q9 u t H1 locs1 ht hvm hq hB hz hk hS1 h9 hv hcl => ?_) (fun x u t H1 locs1 ht hvm hq hB hz hk hS1 => ?_)
  · obtain ⟨rfl, hP1, hD1⟩ := hB
    rw [ht] at hP1
    obtain ⟨hP2, hD2⟩ := va_join hP hD isC isR hC hR hn hdis hk hF hP1 hD1
    exact kx ce q9 u H1 locs1 hq hP2 hD2 hS1 h9 hv hcl
  · obtain ⟨hP1, hD1⟩ := hB
    rw [ht] at hP1
    obtain ⟨hP2, hD2⟩ := va_join hP hD isC isR hC hR hn hdis hk hF hP1 hD1
    exact kk x u H1 locs1 hq hP2 hD2 hS1
end RMXX
/-- what the law's done leaves -/
def ldP (V : Nat → Int32) (F : Nat → Nat → Int32) (nw rv up lo m0 m1 : Nat) (a b w : Int32) : Int32 → CS × (Nat → Int64) → Prop := fun x u => (ok_done V F nw a b w → x = 0 ∧ u.2 0 = (m_money F w.toNatClampNeg nw (F 21 0) (F 21 1) a b).toInt64 ∧ ∃ nw' rv' up' lo' m0' m1' : Nat, CI u.1.2.1 u.1.2.2 (d_v V F nw w.toNatClampNeg a b) (d_f F a b) nw' rv' up' lo' m0' m1') ∧ (¬ ok_done V F nw a b w → x = 1 ∧ CI u.1.2.1 u.1.2.2 V F nw rv up lo m0 m1)
abbrev LDW (E : GG) (r : Nat → Nat) (q3 : Nat) (u : CS × (Nat → Int64)) : va_W := CZ E r u.1.1 u.1.2.1 u.1.2.2 ++ [(q3, .inl (E.2 3, 1, .inr (.inl u.2)))]
set_option maxHeartbeats 4000000 in
set_option maxRecDepth 100000 in
theorem c_L_done (l : Launch) (hlt : l.stackTraces = false) (E : GG) (r z : Nat → Nat) (v : Nat → Int32) (f : Nat → Nat → Int32) (q3 : Nat) (g : Nat → Int64) (sz : Nat) (a b w : Int32) (V : Nat → Int32) (F : Nat → Nat → Int32) (nw rv up lo m0 m1 : Nat) (hC : CI v f V F nw rv up lo m0 m1) : Met l yL_done wsL_done (Rm 7 1 6) (pMd E [.ref (r 0), .int a, .int b, .int w, .ref q3] (LDW E r q3 ((z, v, f), g)) (LDW E r q3 ((z, v, f), g)) sz) (va_Qi (ldP V F nw rv up lo m0 m1 a b w) (bM E (va_A (LDW E r q3 ((z, v, f), g)) sz) (LDW E r q3)) (va_A (LDW E r q3 ((z, v, f), g)) sz)) 1 6 (va_A (LDW E r q3 ((z, v, f), g)) sz) := by
  refine ofMW (by decide) rfl (Nat.le_of_ble_eq_true rfl) ?_
  intro p e s m below meth c A hX hZ htab hx hb hr hlocks hml hown hts hK hP hD hS hA hsz hAe ls hl
  rw [← hAe]
  have hl : lv_has ls 6 [(0, .ref (r 0)), (1, .int a), (2, .int b), (3, .int w), (4, .ref q3)] := hl
  refine lv_aload hx hb dL_done_0 (lv_at hl 4 rfl) ?_
  refine lv_iconst (v := 0) hx hb dL_done_2 (by decide) ?_
  refine lv_aload_n hx hb dL_done_3 rfl (lv_at hl 0 rfl) ?_
  refine lv_iload_n hx hb dL_done_4 rfl (lv_at hl 1 rfl) ?_
  refine lv_iload_n hx hb dL_done_5 rfl (lv_at hl 2 rfl) ?_
  refine lv_iload_n hx hb dL_done_6 rfl (lv_at hl 3 rfl) ?_
  have hsub := hP.sub (ws' := CZ E r z v f) [0, 1, 2, 3, 4, 5, 6, 7, 8, 9, 10, 11, 12, 13, 14, 15, 16, 17, 18, 19, 20, 21, 22, 23, 24, 25, 26, 27, 28, 29, 30, 31, 32, 33, 34, 35, 36, 37, 38, 39] rfl
  have hdub := hD.sub (ws' := CZ E r z v f) [0, 1, 2, 3, 4, 5, 6, 7, 8, 9, 10, 11, 12, 13, 14, 15, 16, 17, 18, 19, 20, 21, 22, 23, 24, 25, 26, 27, 28, 29, 30, 31, 32, 33, 34, 35, 36, 37, 38, 39] (by decide) rfl
  refine cX_i (As := [.ref (r 0), .int a, .int b, .int w]) (wr := [(q3, .inl (E.2 3, 1, .inr (.inl g)))]) (rX_V ⟨hx, hb, hml, hown, hts⟩ (c_X4_done l hlt E r z v f s.heap.size a b w V F nw rv up lo m0 m1 hC) (cwV 3 hts gL_done_X4_done rfl rfl rfl (by decide +kernel) ⟨Nat.le_of_ble_eq_true rfl, Nat.le_of_ble_eq_true rfl⟩) hK hX (hZ.narrow (va_free (wc := CZ E r z v f) hD hS hA [0, 1, 2, 3, 4, 5, 6, 7, 8, 9, 10, 11, 12, 13, 14, 15, 16, 17, 18, 19, 20, 21, 22, 23, 24, 25, 26, 27, 28, 29, 30, 31, 32, 33, 34, 35, 36, 37, 38, 39] rfl)) hsub hdub 4 15 rfl rfl rfl hl.1 rfl (Nat.le_of_ble_eq_true rfl) dL_done_7 ⟨Nat.le_of_ble_eq_true rfl, Nat.le_of_ble_eq_true rfl⟩) hP hD hS hA [0, 1, 2, 3, 4, 5, 6, 7, 8, 9, 10, 11, 12, 13, 14, 15, 16, 17, 18, 19, 20, 21, 22, 23, 24, 25, 26, 27, 28, 29, 30, 31, 32, 33, 34, 35, 36, 37, 38, 39] [40] rfl rfl (by decide) (by decide) ?_ ?_
  · intro ce q9 u H locs hq hP hD hS h9 hv9 hcl9
    refine cx_catch (x := ⟨0, 12, 15, 13⟩) (own := RL) (name := "java/util/NoSuchElementException") hown htab (by decide) (by decide) (hts _ (List.mem_of_getElem? (i := 1) rfl)) (va_Nw.use rfl hX.1.1) h9 hv9 hcl9 ?_
    refine lv_astore (lv' := [(5, .ref q9), (0, .ref (r 0)), (1, .int a), (2, .int b), (3, .int w), (4, .ref q3)]) hx hb dL_done_15 hl (by decide) rfl (fun ls hl => ?_)
    refine lv_iconst (v := 1) hx hb dL_done_17 (by decide) ?_
    exact q_ret (u, g) hx hb hr hlocks ⟨fun z => absurd z hq.1, fun _ => ⟨rfl, hq.2⟩⟩ (hP.sub (ws' := LDW E r q3 (u, g)) [1, 2, 3, 4, 5, 6, 7, 8, 9, 10, 11, 12, 13, 14, 15, 16, 17, 18, 19, 20, 21, 22, 23, 24, 25, 26, 27, 28, 29, 30, 31, 32, 33, 34, 35, 36, 37, 38, 39, 40, 0] rfl) (hD.sub (ws' := LDW E r q3 (u, g)) [1, 2, 3, 4, 5, 6, 7, 8, 9, 10, 11, 12, 13, 14, 15, 16, 17, 18, 19, 20, 21, 22, 23, 24, 25, 26, 27, 28, 29, 30, 31, 32, 33, 34, 35, 36, 37, 38, 39, 40, 0] (by decide) rfl) hS dL_done_18
  · intro x u H locs hq hP hD hS
    refine lv_i2l hx hb dL_done_10 rfl ?_
    have hP := hP.sub (ws' := LDW E r q3 (u, g)) [1, 2, 3, 4, 5, 6, 7, 8, 9, 10, 11, 12, 13, 14, 15, 16, 17, 18, 19, 20, 21, 22, 23, 24, 25, 26, 27, 28, 29, 30, 31, 32, 33, 34, 35, 36, 37, 38, 39, 40, 0] rfl
    have hD := hD.sub (ws' := LDW E r q3 (u, g)) [1, 2, 3, 4, 5, 6, 7, 8, 9, 10, 11, 12, 13, 14, 15, 16, 17, 18, 19, 20, 21, 22, 23, 24, 25, 26, 27, 28, 29, 30, 31, 32, 33, 34, 35, 36, 37, 38, 39, 40, 0] (by decide) rfl
    refine va_last (i := 0) (f := g) hx hb hK.1 hP hD hS 40 3 rfl rfl (show ¬ ((0 : Int32) < 0 ∨ 1 ≤ (0 : Int32).toNatClampNeg) by decide) dL_done_11 (fun H locs hP hD hS => ?_)
    have hP : va_P E.1 vwCl (LDW E r q3 (u, vp_updL g 0 x.toInt64)) H := hP
    have hD : va_D A (LDW E r q3 (u, vp_updL g 0 x.toInt64)) := hD
    refine lv_goto (tgt := 19) hx hb dL_done_12 (by decide) ?_
    refine lv_iconst (v := 0) hx hb dL_done_19 (by decide) ?_
    exact q_ret (u, vp_updL g 0 x.toInt64) hx hb hr hlocks ⟨fun _ => ⟨rfl, by rw [← hq.2.1]; rfl, hq.2.2⟩, fun z => absurd hq.1 z⟩ hP hD hS dL_done_20
