/-- a method that only reads, whatever its end says -/
theorem ofRg {l : Launch} {E : GG} {y : MethodName} {ws ws' : List Cond} {rm : Room} {w : va_W} {cc : ByteArray} {maxL : Nat} {ret : Option FieldType} {av : List Value} {Qc : Array Value → State → Outcome → State → Prop} (hy : plainName y.cls = true) (hw : ws = Cond.code y cc maxL ret :: ws') (hlen : (lg_sl av).length ≤ maxL)
    (body : ∀ (p : Program) (e : Env) (s : State) (m : MethodId) (below : List Frame) (meth : Method) (c : Code), p.tables.exec = Jvm.exec → c.code = cc → meth.sig.returnType = ret → meth.locks = false → c.maxLocals = maxL → s.vm.findClass y.cls = some m.cls → (∀ w ∈ ws, w.before av.toArray s = true) → CK E s → va_P E.1 vwCl w s.heap → ∀ ls : Array Slot, lv_has ls maxL (lv_args 0 av) →
      W p l e rm s m av.toArray below meth c s.heap [] 0 0 (MQ below Qc av.toArray s 0 0 (fun _ => False)) (F0 m 0 ls [])) : Met l y ws rm (pR E av w) Qc 0 0 (fun _ => False) := by
  refine Met.ofW (cc := cc) (maxL := maxL) (ret := ret) hy hw ?_
  intro p e s m args below meth c s₁ B hml hv
  obtain ⟨rfl, hP, hK⟩ := hv
  have hl := lv_entry av (n := maxL) hlen
  rw [lg_entry_eq]
  exact body p e s m below meth c B.exec B.bytes B.returns B.notSynchronized hml (findClass_of_methodNamed B.named) (atoms_spec (ws := ws) B.pre) hK hP _ hl
section RREF
variable {p : Program} {l : Launch} {e : Env} {R : Room} {s : State} {m : MethodId} {args : Array Value} {below : List Frame} {meth : Method} {c : Code} {H : Heap} {locs : List Loc} {cells slots : Nat} {Q : State → Prop}
variable {cc : ByteArray} {pc nL index n maxL : Nat} {ls : Array Slot} {rest As st0 : List Value} {E : GG} {y : MethodName} {ws Ts : List Cond} {rm : Room} {w : va_W} {own C host : String} {bytes : ByteArray} {ret : Option FieldType} {b : Nat}
/-- a call of a method that only reads and answers an object -/
theorem cQ_V {a : Nat} (S : CallFix p m c cc nL s args Ts own) (hM : Met l y ws rm (pR E (.ref b :: As) w) (va_Sr (fun k => k = a) Value.ref) 0 0 (fun _ => False)) (cw : CallW R s args own C index y bytes maxL ret ws rm 0 0 n) (hK : CK E s) (hP : va_P E.1 vwCl w H) (ci q0 : Nat) {T : u_T} {N : Nat} {fs : List Value} (hc : vwCl[ci]? = some (C, T, N)) (he : w[q0]? = some (b, .inr (ci, fs)))
    (hn : As.length = n) (hsize : ls.size = nL) (hst : st0 = As.reverse ++ .ref b :: rest) (hW : (rest.map fun v => v.category).sum ≤ 8) (hdg : decode cc pc = .ok (.invokevirtual index, 3)) (hf : cells ≤ R.cells ∧ slots ≤ R.slots)
    (kk : W p l e R s m args below meth c H locs cells slots Q (F0 m (pc + 3) ls (.ref a :: rest))) : W p l e R s m args below meth c H locs cells slots Q (F0 m pc ls st0) := by
  subst hst
  refine va_csr (W.runV S hM cw ⟨pR.blind, va_recv hK.1 hP hc he, fun U hU hW => ⟨rfl, by rw [hU]; exact hP, hK.warm hW⟩⟩ rfl hn hsize rfl (lv_room hW) hdg hf) (fun k hk => ?_)
  subst hk
  exact kk
theorem a_ret {a : Nat} {C : String} {F : Addr → Prop} {args : Array Value} (hx : p.tables.exec = Jvm.exec) (hb : c.code = cc) (hr : meth.sig.returnType = some (.object C)) (hlocks : meth.locks = false) (hdg : decode cc pc = .ok (.areturn, 1)) : W p l e R s m args below meth c s.heap [] 0 0 (MQ below (va_Sr (fun k => k = a) Value.ref) args s 0 0 F) (F0 m pc ls [.ref a]) :=
  W.aret hx hb hr (Or.inl ⟨C, rfl⟩) (Or.inr ⟨a, rfl⟩) (fun _ ht _ => ⟨a, rfl, rfl, ht⟩) (fun _ hq => absurd hq List.not_mem_nil) hdg hlocks
end RREF
theorem in01 {x : Int32} (h : m_in x 0 1) : x = 0 ∨ x = 1 := by
  obtain ⟨e, h1⟩ := inN h 1 (by decide) (by decide)
  rcases (show x.toNatClampNeg = 0 ∨ x.toNatClampNeg = 1 by omega) with q | q
  · rw [q] at e; exact Or.inl e
  · rw [q] at e; exact Or.inr e
theorem in012 {x : Int32} (h : m_in x 0 2) : x = 0 ∨ x = 1 ∨ x = 2 := by
  obtain ⟨e, h1⟩ := inN h 2 (by decide) (by decide)
  rcases (show x.toNatClampNeg = 0 ∨ x.toNatClampNeg = 1 ∨ x.toNatClampNeg = 2 by omega) with q | q | q
  · rw [q] at e; exact Or.inl e
  · rw [q] at e; exact Or.inr (Or.inl e)
  · rw [q] at e; exact Or.inr (Or.inr e)
set_option maxHeartbeats 4000000 in
set_option maxRecDepth 100000 in
theorem c_X4_machineOf0 (l : Launch) (E : GG) (r : Nat → Nat) (v : Nat → Int32) : Met l yX4_machineOf wsX4_machineOf (Rm 0 0 0) (pR E [.ref (r 0), .int 0] [((r 0), .inr (4, [.ref (r 1), .ref (r 2), .ref (r 3), .ref (r 4), .ref (r 9), .ref (r 8), .ref (r 10), .ref (r 11), .ref (r 12), .int (v 30), .int (v 31), .int (v 32), .int (v 33)]))]) (va_Sr (fun k => k = r 2) Value.ref) 0 0 (fun _ => False) := by
  refine ofRg (by decide) rfl (Nat.le_of_ble_eq_true rfl) ?_
  intro p e s m below meth c hx hb hr hlocks hml hown hts hK hP ls hl
  have hl : lv_has ls 2 [(0, .ref (r 0)), (1, .int 0)] := hl
  refine lv_iload_n hx hb dX4_machineOf_0 rfl (lv_at hl 1 rfl) ?_
  refine n_if_ne (tgt := 11) (a := 0) hx hb dX4_machineOf_1 (by decide) (by omega) (fun c_1 => ?_) (fun c_1 => ?_)
  · skip
    exact absurd c_1 (by decide)
  · skip
    refine lv_aload_n hx hb dX4_machineOf_4 rfl (lv_at hl 0 rfl) ?_
    refine va_get (D := E.1) (ci := 4) (v := .ref (r 2)) (C := RX4) (T := TX4) (N := 13) hx hb hts (fun _ h => (List.mem_cons_of_mem _ (List.mem_append_right _ h))) hown hK.1 hP 0 rfl rfl 1 (by decide) (hts _ (List.mem_of_getElem? (i := 1) rfl)) (fun _ h9 => h9) rfl dX4_machineOf_5 ?_
    refine lv_goto (tgt := 15) hx hb dX4_machineOf_8 (by decide) ?_
    exact a_ret hx hb hr hlocks dX4_machineOf_15
set_option maxHeartbeats 4000000 in
set_option maxRecDepth 100000 in
theorem c_X4_machineOf1 (l : Launch) (E : GG) (r : Nat → Nat) (v : Nat → Int32) : Met l yX4_machineOf wsX4_machineOf (Rm 0 0 0) (pR E [.ref (r 0), .int 1] [((r 0), .inr (4, [.ref (r 1), .ref (r 2), .ref (r 3), .ref (r 4), .ref (r 9), .ref (r 8), .ref (r 10), .ref (r 11), .ref (r 12), .int (v 30), .int (v 31), .int (v 32), .int (v 33)]))]) (va_Sr (fun k => k = r 3) Value.ref) 0 0 (fun _ => False) := by
  refine ofRg (by decide) rfl (Nat.le_of_ble_eq_true rfl) ?_
  intro p e s m below meth c hx hb hr hlocks hml hown hts hK hP ls hl
  have hl : lv_has ls 2 [(0, .ref (r 0)), (1, .int 1)] := hl
  refine lv_iload_n hx hb dX4_machineOf_0 rfl (lv_at hl 1 rfl) ?_
  refine n_if_ne (tgt := 11) (a := 1) hx hb dX4_machineOf_1 (by decide) (by omega) (fun c_1 => ?_) (fun c_1 => ?_)
  · skip
    refine lv_aload_n hx hb dX4_machineOf_11 rfl (lv_at hl 0 rfl) ?_
    refine va_get (D := E.1) (ci := 4) (v := .ref (r 3)) (C := RX4) (T := TX4) (N := 13) hx hb hts (fun _ h => (List.mem_cons_of_mem _ (List.mem_append_right _ h))) hown hK.1 hP 0 rfl rfl 2 (by decide) (hts _ (List.mem_of_getElem? (i := 2) rfl)) (fun _ h9 => h9) rfl dX4_machineOf_12 ?_
    exact a_ret hx hb hr hlocks dX4_machineOf_15
  · skip
    exact absurd c_1 (by decide)
noncomputable def t_lakes (v : Nat → Int32) (f : Nat → Nat → Int32) (a : Int32) (b : Int32) (u1 : Int32) (l1 : Int32) : AN := cI (v 32 = 0 ∧ m_in a 1 40 ∧ m_in b 1 40 ∧ m_in u1 0 a ∧ m_in l1 0 b) (1, upd (upd (upd (upd v 0 a) 1 b) 4 u1) 5 l1, chg (f)) (0, v, f)
