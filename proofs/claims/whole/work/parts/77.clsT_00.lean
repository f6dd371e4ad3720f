/-- a start that may write, with a word more that the tables keep -/
def pMx (E : GG) (X : State → Prop) (av : List Value) (ws : va_W) (sz : Nat) : Array Value → State → Prop := va_Pc av (fun U => U.heap.size = sz ∧ va_P E.1 vwCl ws U.heap ∧ CK E U ∧ va_D (fun _ => True) ws ∧ X U)
def AOx : State → Prop := va_AO "TwoLakes$Outlook"
theorem AOx.calling {U : State} {g : JFrame} {mk : MethodId} {a : Array Value} (h : AOx U) : AOx (U.calling g mk a) := va_AO.moved (u := U) (U := U.calling g mk a) (Vm.Alike.refl U.vm) h
theorem pMx.blind {E : GG} {av : List Value} {ws : va_W} {sz : Nat} : FrameBlind (pMx E AOx av ws sz) := fun _ _ _ _ q => ⟨q.1, q.2.1, q.2.2.1, q.2.2.2.1.calling, q.2.2.2.2.1, q.2.2.2.2.2.calling⟩
theorem ofMx {l : Launch} {E : GG} {y : MethodName} {ws ws' : List Cond} {rm : Room} {w : va_W} {sz : Nat} {cc : ByteArray} {maxL : Nat} {ret : Option FieldType} {av : List Value} {Qc : Array Value → State → Outcome → State → Prop} {mc ms : Nat} (hy : plainName y.cls = true) (hw : ws = Cond.code y cc maxL ret :: ws') (hlen : (lg_sl av).length ≤ maxL)
    (body : ∀ (p : Program) (e : Env) (s : State) (m : MethodId) (below : List Frame) (meth : Method) (c : Code) (A : Nat → Prop), AOx s → p.tables.exec = Jvm.exec → c.code = cc → meth.sig.returnType = ret → meth.locks = false → c.maxLocals = maxL → s.vm.findClass y.cls = some m.cls → (y.name = "<init>" → meth.name = "<init>") → (∀ w ∈ ws, w.before av.toArray s = true) → CK E s → va_P E.1 vwCl w s.heap → va_D A w → va_S A s.heap s.heap [] → (∀ q : Nat, s.heap.size ≤ q → A q) → s.heap.size = sz → A = va_A w sz → ∀ ls : Array Slot, lv_has ls maxL (lv_args 0 av) →
      W p l e rm s m av.toArray below meth c s.heap [] 0 0 (MQ below Qc av.toArray s mc ms (va_A w sz)) (F0 m 0 ls [])) : Met l y ws rm (pMx E AOx av w sz) Qc mc ms (va_A w sz) := by
  refine Met.ofW (cc := cc) (maxL := maxL) (ret := ret) hy hw ?_
  intro p e s m args below meth c s₁ B hml hv
  obtain ⟨rfl, hsz, hP, hK, hD0, hX⟩ := hv
  have hl := lv_entry av (n := maxL) hlen
  rw [lg_entry_eq]
  exact body p e s m below meth c (va_A w sz) hX B.exec B.bytes B.returns B.notSynchronized hml (findClass_of_methodNamed B.named) (fun h => (name_of_methodNamed B.named B.method).1.trans h) (atoms_spec (ws := ws) B.pre) hK hP (by rw [← hsz]; exact hD0.self) va_S.rf (fun q h => Or.inr (by rw [← hsz]; exact h)) hsz rfl _ hl
section RMX
variable {p : Program} {l : Launch} {e : Env} {R : Room} {s : State} {m : MethodId} {args : Array Value} {below : List Frame} {meth : Method} {c : Code} {H H0 : Heap} {locs : List Loc} {cells slots mc ms : Nat} {Q : State → Prop}
variable {cc : ByteArray} {pc nL index n maxL : Nat} {ls : Array Slot} {rest As st0 : List Value} {E : GG} {y : MethodName} {ws Ts : List Cond} {rm : Room} {w : va_W} {own C host : String} {bytes : ByteArray} {ret : Option FieldType} {b : Nat} {A : Nat → Prop}
variable {Qc : Array Value → State → Outcome → State → Prop} {free : Addr → Prop}
theorem rM_Ix (S : CallFix p m c cc nL s args Ts own) (hM : Met l y ws rm (pMx E AOx (.ref b :: As) w H.size) Qc mc ms free) (cw : CallB R s args own index y bytes maxL none ws rm mc ms n ∧ y.name = "<init>" ∧ (Cond.instanceMethod y).before args s = true) (hX : AOx s) (hK : CK E s) (hP : va_P E.1 vwCl w H) (hD : va_D A w)
    (hn : As.length = n) (hsize : ls.size = nL) (hst : st0 = As.reverse ++ .ref b :: rest) (hW : (rest.map fun v => v.category).sum ≤ 8) (hdg : decode cc pc = .ok (.invokespecial index, 3)) (hf : cells + mc ≤ R.cells ∧ slots + ms ≤ R.slots) : va_Run p l e R s m args below meth c H locs cells slots mc ms (F0 m pc ls st0) rest (Qc (Value.ref b :: As).toArray) free := by
  subst hst
  exact va_runI S hM cw ⟨pMx.blind, fun U hU hW => ⟨rfl, by rw [hU], by rw [hU]; exact hP, hK.warm hW, hD.weaken (fun _ _ _ _ => trivial), va_AO.moved hW.alike hX⟩⟩ rfl hn hsize rfl (lv_room hW) hdg hf
/-- a new array of outlooks -/
theorem n_newO (hx : p.tables.exec = Jvm.exec) (hb : c.code = cc) (hown : s.vm.findClass own = some m.cls) (hcl : (Cond.classLink own index "TwoLakes$Outlook").before args s = true) (hX : AOx s) (hK : CK E s) (hP : va_P E.1 vwCl w H) (hD : va_D A w) (hS : va_S A H0 H locs) (hA : ∀ q, H0.size ≤ q → A q) {k : Int32} {N : Nat} (hn : ¬ k < 0) (hN : k.toNatClampNeg = N) (hby : N * 4 ≤ 536870912) (hcells : cells + 1 ≤ R.cells) (hslots : slots + N ≤ R.slots) (hdg : decode cc pc = .ok (.anewarray index, 3))
    (kk : ∀ (q : Nat) (H1 : Heap), va_P E.1 vwCl (w ++ [(q, .inl (E.2 2, N, .inr (.inr (.inr (.inr (fun _ => none))))))]) H1 → va_D A (w ++ [(q, .inl (E.2 2, N, .inr (.inr (.inr (.inr (fun _ => none))))))]) → va_S A H0 H1 locs → W p l e R s m args below meth c H1 locs (cells + 1) (slots + N) Q (F0 m (pc + 3) ls (.ref q :: rest))) : W p l e R s m args below meth c H locs cells slots Q (F0 m pc ls (.int k :: rest)) := by
  refine va_newq hx hb hown hcl hX hK.1 hP hD hS hA hn hN hby hcells hslots hdg (fun q cA H1 hK1 hP1 hD1 hS1 => ?_)
  obtain ⟨kA, comp, -, -, -, e1⟩ := (hK1.2 4 (cA, .object "TwoLakes$Outlook") rfl).2
  obtain ⟨kB, comq, -, -, -, e2⟩ := (hK1.2 2 (E.2 2, .object "TwoLakes$Outlook") rfl).2
  have e3 : cA = E.2 2 := Option.some.inj (e1.symm.trans e2)
  subst e3
  exact kk q H1 hP1 hD1 hS1
end RMX
set_option maxHeartbeats 4000000 in
set_option maxRecDepth 100000 in
theorem c_X1_init (l : Launch) (E : GG) (h0 : Nat) (sz : Nat)   : Met l yX1_init wsX1_init (Rm 1 3 72) (pM E [.ref h0] ([(h0, .inr (1, [.int 0, .int 0, .int 0, .int 0, .int 0, .int 0, .null, .null, .null]))]) sz) (va_Qv (fun (_ : Nat → Nat) => True) (bM E (va_A ([(h0, .inr (1, [.int 0, .int 0, .int 0, .int 0, .int 0, .int 0, .null, .null, .null]))]) sz) (fun (u : Nat → Nat) => [(h0, .inr (1, [.int 40, .int 40, .int 40, .int 40, .int 20, .int 20, .ref (u 0), .ref (u 1), .ref (u 2)])), (u 0, .inl (E.2 0, 24, .inl (fun _ => 0))), (u 1, .inl (E.2 0, 24, .inl (fun _ => 0))), (u 2, .inl (E.2 0, 24, .inl (fun _ => 0)))])) (va_A ([(h0, .inr (1, [.int 0, .int 0, .int 0, .int 0, .int 0, .int 0, .null, .null, .null]))]) sz)) 3 72 (va_A ([(h0, .inr (1, [.int 0, .int 0, .int 0, .int 0, .int 0, .int 0, .null, .null, .null]))]) sz) := by
  refine ofM (by decide) rfl (Nat.le_of_ble_eq_true rfl) ?_
  intro p e s m below meth c A hx hb hr hlocks hml hown hin hts hK hP hD hS hA hsz hAe ls hl
  rw [← hAe]
  have hin := hin rfl
  have hl : lv_has ls 1 [(0, .ref h0)] := hl
  refine lv_aload_n hx hb dX1_init_0 rfl (lv_at hl 0 rfl) ?_
  refine W.objInit hx hb hown (hts _ (List.mem_of_getElem? (i := 1) rfl)) (hts _ (List.mem_of_getElem? (i := 2) rfl)) (hts _ (List.mem_of_getElem? (i := 3) rfl)) rfl (by rw [hml]; exact hl.1) rfl dX1_init_1 (Nat.le_of_ble_eq_true rfl) (Nat.le_of_ble_eq_true rfl) ?_
  refine W.eq (g2 := F0 m 4 ls []) rfl ?_
  refine lv_aload_n hx hb dX1_init_4 rfl (lv_at hl 0 rfl) ?_
  refine lv_bipush (v := 40) hx hb dX1_init_5 (by decide) ?_
  refine va_put (D := E.1) (ci := 1) (v := .int 40) (ty := .int) (C := RX1) (T := TX1) (N := 9) hx hb hts (fun _ h => (List.mem_cons_of_mem _ (List.mem_append_right _ h))) tyX1 tyX1_ok nmX1 hown hK.1 hP hD hS 0 rfl rfl 0 (by decide) (hts _ (List.mem_of_getElem? (i := 4) rfl)) (fun _ h9 => h9) rfl (by decide +kernel) rfl rfl (Nat.le_of_ble_eq_true rfl) dX1_init_7 (fun H locs hP hD hS => ?_)
  have hP : va_P E.1 vwCl [(h0, .inr (1, [.int 40, .int 0, .int 0, .int 0, .int 0, .int 0, .null, .null, .null]))] H := hP
  have hD : va_D A [(h0, .inr (1, [.int 40, .int 0, .int 0, .int 0, .int 0, .int 0, .null, .null, .null]))] := hD
  refine lv_aload_n hx hb dX1_init_10 rfl (lv_at hl 0 rfl) ?_
  refine lv_bipush (v := 40) hx hb dX1_init_11 (by decide) ?_
  refine va_put (D := E.1) (ci := 1) (v := .int 40) (ty := .int) (C := RX1) (T := TX1) (N := 9) hx hb hts (fun _ h => (List.mem_cons_of_mem _ (List.mem_append_right _ h))) tyX1 tyX1_ok nmX1 hown hK.1 hP hD hS 0 rfl rfl 1 (by decide) (hts _ (List.mem_of_getElem? (i := 5) rfl)) (fun _ h9 => h9) rfl (by decide +kernel) rfl rfl (Nat.le_of_ble_eq_true rfl) dX1_init_13 (fun H locs hP hD hS => ?_)
  have hP : va_P E.1 vwCl [(h0, .inr (1, [.int 40, .int 40, .int 0, .int 0, .int 0, .int 0, .null, .null, .null]))] H := hP
  have hD : va_D A [(h0, .inr (1, [.int 40, .int 40, .int 0, .int 0, .int 0, .int 0, .null, .null, .null]))] := hD
  refine lv_aload_n hx hb dX1_init_16 rfl (lv_at hl 0 rfl) ?_
  refine lv_bipush (v := 40) hx hb dX1_init_17 (by decide) ?_
  refine va_put (D := E.1) (ci := 1) (v := .int 40) (ty := .int) (C := RX1) (T := TX1) (N := 9) hx hb hts (fun _ h => (List.mem_cons_of_mem _ (List.mem_append_right _ h))) tyX1 tyX1_ok nmX1 hown hK.1 hP hD hS 0 rfl rfl 2 (by decide) (hts _ (List.mem_of_getElem? (i := 6) rfl)) (fun _ h9 => h9) rfl (by decide +kernel) rfl rfl (Nat.le_of_ble_eq_true rfl) dX1_init_19 (fun H locs hP hD hS => ?_)
  have hP : va_P E.1 vwCl [(h0, .inr (1, [.int 40, .int 40, .int 40, .int 0, .int 0, .int 0, .null, .null, .null]))] H := hP
  have hD : va_D A [(h0, .inr (1, [.int 40, .int 40, .int 40, .int 0, .int 0, .int 0, .null, .null, .null]))] := hD
  refine lv_aload_n hx hb dX1_init_22 rfl (lv_at hl 0 rfl) ?_
  refine lv_bipush (v := 40) hx hb dX1_init_23 (by decide) ?_
  refine va_put (D := E.1) (ci := 1) (v := .int 40) (ty := .int) (C := RX1) (T := TX1) (N := 9) hx hb hts (fun _ h => (List.mem_cons_of_mem _ (List.mem_append_right _ h))) tyX1 tyX1_ok nmX1 hown hK.1 hP hD hS 0 rfl rfl 3 (by decide) (hts _ (List.mem_of_getElem? (i := 7) rfl)) (fun _ h9 => h9) rfl (by decide +kernel) rfl rfl (Nat.le_of_ble_eq_true rfl) dX1_init_25 (fun H locs hP hD hS => ?_)
  have hP : va_P E.1 vwCl [(h0, .inr (1, [.int 40, .int 40, .int 40, .int 40, .int 0, .int 0, .null, .null, .null]))] H := hP
  have hD : va_D A [(h0, .inr (1, [.int 40, .int 40, .int 40, .int 40, .int 0, .int 0, .null, .null, .null]))] := hD
  refine lv_aload_n hx hb dX1_init_28 rfl (lv_at hl 0 rfl) ?_
  refine lv_bipush (v := 20) hx hb dX1_init_29 (by decide) ?_
  refine va_put (D := E.1) (ci := 1) (v := .int 20) (ty := .int) (C := RX1) (T := TX1) (N := 9) hx hb hts (fun _ h => (List.mem_cons_of_mem _ (List.mem_append_right _ h))) tyX1 tyX1_ok nmX1 hown hK.1 hP hD hS 0 rfl rfl 4 (by decide) (hts _ (List.mem_of_getElem? (i := 8) rfl)) (fun _ h9 => h9) rfl (by decide +kernel) rfl rfl (Nat.le_of_ble_eq_true rfl) dX1_init_31 (fun H locs hP hD hS => ?_)
  have hP : va_P E.1 vwCl [(h0, .inr (1, [.int 40, .int 40, .int 40, .int 40, .int 20, .int 0, .null, .null, .null]))] H := hP
  have hD : va_D A [(h0, .inr (1, [.int 40, .int 40, .int 40, .int 40, .int 20, .int 0, .null, .null, .null]))] := hD
  refine lv_aload_n hx hb dX1_init_34 rfl (lv_at hl 0 rfl) ?_
  refine lv_bipush (v := 20) hx hb dX1_init_35 (by decide) ?_
  refine va_put (D := E.1) (ci := 1) (v := .int 20) (ty := .int) (C := RX1) (T := TX1) (N := 9) hx hb hts (fun _ h => (List.mem_cons_of_mem _ (List.mem_append_right _ h))) tyX1 tyX1_ok nmX1 hown hK.1 hP hD hS 0 rfl rfl 5 (by decide) (hts _ (List.mem_of_getElem? (i := 9) rfl)) (fun _ h9 => h9) rfl (by decide +kernel) rfl rfl (Nat.le_of_ble_eq_true rfl) dX1_init_37 (fun H locs hP hD hS => ?_)
  have hP : va_P E.1 vwCl [(h0, .inr (1, [.int 40, .int 40, .int 40, .int 40, .int 20, .int 20, .null, .null, .null]))] H := hP
  have hD : va_D A [(h0, .inr (1, [.int 40, .int 40, .int 40, .int 40, .int 20, .int 20, .null, .null, .null]))] := hD
  refine lv_aload_n hx hb dX1_init_40 rfl (lv_at hl 0 rfl) ?_
  refine lv_bipush (v := 24) hx hb dX1_init_41 (by decide) ?_
  refine n_newI (N := 24) hx hb (hts _ (List.mem_of_getElem? (i := 10) rfl)) hK hP hD hS hA (by decide) (by decide) (by decide) (Nat.le_of_ble_eq_true rfl) (Nat.le_of_ble_eq_true rfl) dX1_init_43 (fun q_1 H hP hD hS => ?_)
  have hP : va_P E.1 vwCl [(h0, .inr (1, [.int 40, .int 40, .int 40, .int 40, .int 20, .int 20, .null, .null, .null])), (q_1, .inl (E.2 0, 24, .inl (fun _ => 0)))] H := hP
  have hD : va_D A [(h0, .inr (1, [.int 40, .int 40, .int 40, .int 40, .int 20, .int 20, .null, .null, .null])), (q_1, .inl (E.2 0, 24, .inl (fun _ => 0)))] := hD
  refine va_putF (D := E.1) (ci := 1) (v := .ref q_1) (ty := .array .int) (C := RX1) (T := TX1) (N := 9) hx hb hts (fun _ h => (List.mem_cons_of_mem _ (List.mem_append_right _ h))) tyX1 tyX1_ok nmX1 hown hK.1 hP hD hS 0 rfl rfl 6 (by decide) (hts _ (List.mem_of_getElem? (i := 11) rfl)) (fun _ h9 => h9) rfl hin rfl (by decide +kernel) rfl rfl (Nat.le_of_ble_eq_true rfl) dX1_init_45 (fun H locs hP hD hS => ?_)
  have hP : va_P E.1 vwCl [(h0, .inr (1, [.int 40, .int 40, .int 40, .int 40, .int 20, .int 20, .ref q_1, .null, .null])), (q_1, .inl (E.2 0, 24, .inl (fun _ => 0)))] H := hP
  have hD : va_D A [(h0, .inr (1, [.int 40, .int 40, .int 40, .int 40, .int 20, .int 20, .ref q_1, .null, .null])), (q_1, .inl (E.2 0, 24, .inl (fun _ => 0)))] := hD
  refine lv_aload_n hx hb dX1_init_48 rfl (lv_at hl 0 rfl) ?_
  refine lv_bipush (v := 24) hx hb dX1_init_49 (by decide) ?_
  refine n_newI (N := 24) hx hb (hts _ (List.mem_of_getElem? (i := 10) rfl)) hK hP hD hS hA (by decide) (by decide) (by decide) (Nat.le_of_ble_eq_true rfl) (Nat.le_of_ble_eq_true rfl) dX1_init_51 (fun q_2 H hP hD hS => ?_)
  have hP : va_P E.1 vwCl [(h0, .inr (1, [.int 40, .int 40, .int 40, .int 40, .int 20, .int 20, .ref q_1, .null, .null])), (q_1, .inl (E.2 0, 24, .inl (fun _ => 0))), (q_2, .inl (E.2 0, 24, .inl (fun _ => 0)))] H := hP
  have hD : va_D A [(h0, .inr (1, [.int 40, .int 40, .int 40, .int 40, .int 20, .int 20, .ref q_1, .null, .null])), (q_1, .inl (E.2 0, 24, .inl (fun _ => 0))), (q_2, .inl (E.2 0, 24, .inl (fun _ => 0)))] := hD
  refine va_putF (D := E.1) (ci := 1) (v := .ref q_2) (ty := .array .int) (C := RX1) (T := TX1) (N := 9) hx hb hts (fun _ h => (List.mem_cons_of_mem _ (List.mem_append_right _ h))) tyX1 tyX1_ok nmX1 hown hK.1 hP hD hS 0 rfl rfl 7 (by decide) (hts _ (List.mem_of_getElem? (i := 12) rfl)) (fun _ h9 => h9) rfl hin rfl (by decide +kernel) rfl rfl (Nat.le_of_ble_eq_true rfl) dX1_init_53 (fun H locs hP hD hS => ?_)
  have hP : va_P E.1 vwCl [(h0, .inr (1, [.int 40, .int 40, .int 40, .int 40, .int 20, .int 20, .ref q_1, .ref q_2, .null])), (q_1, .inl (E.2 0, 24, .inl (fun _ => 0))), (q_2, .inl (E.2 0, 24, .inl (fun _ => 0)))] H := hP
  have hD : va_D A [(h0, .inr (1, [.int 40, .int 40, .int 40, .int 40, .int 20, .int 20, .ref q_1, .ref q_2, .null])), (q_1, .inl (E.2 0, 24, .inl (fun _ => 0))), (q_2, .inl (E.2 0, 24, .inl (fun _ => 0)))] := hD
  refine lv_aload_n hx hb dX1_init_56 rfl (lv_at hl 0 rfl) ?_
  refine lv_bipush (v := 24) hx hb dX1_init_57 (by decide) ?_
  refine n_newI (N := 24) hx hb (hts _ (List.mem_of_getElem? (i := 10) rfl)) hK hP hD hS hA (by decide) (by decide) (by decide) (Nat.le_of_ble_eq_true rfl) (Nat.le_of_ble_eq_true rfl) dX1_init_59 (fun q_3 H hP hD hS => ?_)
  have hP : va_P E.1 vwCl [(h0, .inr (1, [.int 40, .int 40, .int 40, .int 40, .int 20, .int 20, .ref q_1, .ref q_2, .null])), (q_1, .inl (E.2 0, 24, .inl (fun _ => 0))), (q_2, .inl (E.2 0, 24, .inl (fun _ => 0))), (q_3, .inl (E.2 0, 24, .inl (fun _ => 0)))] H := hP
  have hD : va_D A [(h0, .inr (1, [.int 40, .int 40, .int 40, .int 40, .int 20, .int 20, .ref q_1, .ref q_2, .null])), (q_1, .inl (E.2 0, 24, .inl (fun _ => 0))), (q_2, .inl (E.2 0, 24, .inl (fun _ => 0))), (q_3, .inl (E.2 0, 24, .inl (fun _ => 0)))] := hD
  refine va_putF (D := E.1) (ci := 1) (v := .ref q_3) (ty := .array .int) (C := RX1) (T := TX1) (N := 9) hx hb hts (fun _ h => (List.mem_cons_of_mem _ (List.mem_append_right _ h))) tyX1 tyX1_ok nmX1 hown hK.1 hP hD hS 0 rfl rfl 8 (by decide) (hts _ (List.mem_of_getElem? (i := 13) rfl)) (fun _ h9 => h9) rfl hin rfl (by decide +kernel) rfl rfl (Nat.le_of_ble_eq_true rfl) dX1_init_61 (fun H locs hP hD hS => ?_)
  have hP : va_P E.1 vwCl [(h0, .inr (1, [.int 40, .int 40, .int 40, .int 40, .int 20, .int 20, .ref q_1, .ref q_2, .ref q_3])), (q_1, .inl (E.2 0, 24, .inl (fun _ => 0))), (q_2, .inl (E.2 0, 24, .inl (fun _ => 0))), (q_3, .inl (E.2 0, 24, .inl (fun _ => 0)))] H := hP
  have hD : va_D A [(h0, .inr (1, [.int 40, .int 40, .int 40, .int 40, .int 20, .int 20, .ref q_1, .ref q_2, .ref q_3])), (q_1, .inl (E.2 0, 24, .inl (fun _ => 0))), (q_2, .inl (E.2 0, 24, .inl (fun _ => 0))), (q_3, .inl (E.2 0, 24, .inl (fun _ => 0)))] := hD
  refine W.widen (k := 3) (n := 72) (Nat.le_of_ble_eq_true rfl) (Nat.le_of_ble_eq_true rfl) ?_
  exact qv_ret ((fun k => match k with | 0 => q_1 | 1 => q_2 | _ => q_3) : Nat → Nat) hx hb hr hlocks trivial hP hD hS dX1_init_64
