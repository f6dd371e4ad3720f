/-- the law's world: the class, the reference, the law's own row -/
abbrev LWd (E : GG) (r z : Nat → Nat) (v : Nat → Int32) (f : Nat → Nat → Int32) (k : Nat → Nat) (V : Nat → Int32) (F : Nat → Nat → Int32) (B C : Nat → Int32) (q3 : Nat) (g : Nat → Int64) : va_W := CZ E r z v f ++ (MW E k V F B C ++ [(q3, .inl (E.2 3, 1, .inr (.inl g)))])
/-- what stands throughout the law -/
def LawC (p : Program) (l : Launch) (s : State) (m : MethodId) (c : Code) (b L : Nat) (xs : Nat → Int32) (E : GG) (A : Nat → Prop) : Prop := p.tables.exec = Jvm.exec ∧ c.code = cL_law ∧ c.maxLocals = 7 ∧ s.vm.findClass RL = some m.cls ∧ (∀ w ∈ wsL_law, w.before #[Value.ref b] s = true) ∧ va_X b L xs s s.heap ∧ b < s.heap.size ∧ CK E s ∧ DXs s ∧ DXz A s s.heap ∧ l.stackTraces = false ∧ L ≤ 3584 ∧ (∀ q : Nat, s.heap.size ≤ q → A q) ∧ (∀ q : Nat, A q → s.heap.size ≤ q)
/-- how it stands at the loop's head -/
def LawS (s : State) (b : Nat) (E : GG) (A : Nat → Prop) (i : Nat) (H : Heap) (locs : List Loc) (ls : Array Slot) : Prop := ∃ (r z : Nat → Nat) (v : Nat → Int32) (f : Nat → Nat → Int32) (k : Nat → Nat) (V : Nat → Int32) (F : Nat → Nat → Int32) (B C : Nat → Int32) (q3 : Nat) (g : Nat → Int64) (nw rv up lo m0 m1 : Nat), va_P E.1 vwCl (LWd E r z v f k V F B C q3 g) H ∧ va_D A (LWd E r z v f k V F B C q3 g) ∧ va_S A s.heap H locs ∧ lv_has ls 7 [(0, .ref b), (1, .ref (r 0)), (2, .ref (k 0)), (3, .ref q3), (4, .int (nI i))] ∧ CI v f V F nw rv up lo m0 m1
def LawN (p : Program) (l : Launch) (e : Env) (s : State) (m : MethodId) (below : List Frame) (meth : Method) (c : Code) (b : Nat) (E : GG) (A : Nat → Prop) (Q : State → Prop) (i j : Nat) : Prop := ∀ (H : Heap) (locs : List Loc) (ls : Array Slot), LawS s b E A i H locs ls → W p l e room_1 s m #[Value.ref b] below meth c H locs (60 + 26 * j) (44000 + 631 * j) Q (F0 m 23 ls [])
theorem L_next {p : Program} {l : Launch} {e : Env} {s : State} {m : MethodId} {below : List Frame} {meth : Method} {c : Code} {b L : Nat} {xs : Nat → Int32} {E : GG} {A : Nat → Prop} {Q : State → Prop} (X : LawC p l s m c b L xs E A) {i j : Nat} (ih : LawN p l e s m below meth c b E A Q (i + 7) (j + 1)) {H : Heap} {locs : List Loc} {ls : Array Slot} {cells slots : Nat} (h1 : cells ≤ 60 + 26 * (j + 1)) (h2 : slots ≤ 44000 + 631 * (j + 1))
    {r z : Nat → Nat} {v : Nat → Int32} {f : Nat → Nat → Int32} {k : Nat → Nat} {V : Nat → Int32} {F : Nat → Nat → Int32} {B C : Nat → Int32} {q3 : Nat} {g : Nat → Int64} {nw rv up lo m0 m1 : Nat} (hP : va_P E.1 vwCl (LWd E r z v f k V F B C q3 g) H) (hD : va_D A (LWd E r z v f k V F B C q3 g)) (hS : va_S A s.heap H locs) (hl : lv_has ls 7 [(0, .ref b), (1, .ref (r 0)), (2, .ref (k 0)), (3, .ref q3), (4, .int (nI i))]) (hC : CI v f V F nw rv up lo m0 m1) :
    W p l e room_1 s m #[Value.ref b] below meth c H locs cells slots Q (F0 m 874 ls []) := by
  obtain ⟨hx, hb, -⟩ := X
  refine lv_iinc (v := nI (i + 7)) (lv' := [(4, .int (nI (i + 7))), (0, .ref b), (1, .ref (r 0)), (2, .ref (k 0)), (3, .ref q3)]) hx hb dL_law_874 hl (k := 4) rfl (nI_add i 7) (by decide) rfl (fun ls hl => ?_)
  refine lv_goto (tgt := 23) hx hb dL_law_877 (by decide) ?_
  refine W.widen (k := 60 + 26 * (j + 1)) (n := 44000 + 631 * (j + 1)) h1 h2 ?_
  exact ih H locs ls ⟨r, z, v, f, k, V, F, B, C, q3, g, nw, rv, up, lo, m0, m1, hP, hD, hS, lv_sub hl [1, 2, 3, 4, 0] rfl, hC⟩
def yb (x : Int32) : Int32 := if x = 0 then 0 else 1
theorem yb_nar (x : Int32) : vp_nar .boolean (yb x) = yb x := by
  unfold yb
  by_cases h : x = 0
  · rw [if_pos h]; rfl
  · rw [if_neg h]; rfl
theorem CI_01 {v : Nat → Int32} {f : Nat → Nat → Int32} {V : Nat → Int32} {F : Nat → Nat → Int32} {nw rv up lo m0 m1 : Nat} (h : CI v f (upd V 0 0) F nw rv up lo m0 m1) : CI v f (upd V 0 1) F nw rv up lo m0 m1 := by
  have k := CI_0 h 1
  have e : upd (upd V 0 0) 0 1 = upd V 0 1 := by
    funext j
    show (if j = 0 then 1 else if j = 0 then 0 else V j) = if j = 0 then 1 else V j
    by_cases q : j = 0
    · rw [if_pos q, if_pos q]
    · rw [if_neg q, if_neg q, if_neg q]
  rw [e] at k
  exact k
