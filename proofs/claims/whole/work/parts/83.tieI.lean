section TIEI
variable {v v' : Nat → Int32} {f f' : Nat → Nat → Int32} {V V' : Nat → Int32} {F F' : Nat → Nat → Int32} {nw rv up lo m0 m1 : Nat}
theorem CI_set (hR : Rel v' f' V' F') (hB : RB V' F') (hI : mInv V' F' nw rv up lo m0 m1) (hA : (up : Int) ≤ (V' 2).toInt) (hL : (lo : Int) ≤ (V' 3).toInt) (h1 : f' 11 = fun _ => unk) (h2 : f' 12 = fun _ => unk) : CI v' f' V' F' nw rv up lo m0 m1 := by
  refine ⟨hR, hB, hI, hA, hL, ?_, ?_⟩
  · rw [h1]; exact fun _ _ _ => Or.inl rfl
  · rw [h2]; exact ⟨fun _ => Or.inl rfl, fun _ _ _ _ => Or.inl rfl⟩
theorem upd_c {g g' : Nat → Int32} {k j : Nat} {x : Int32} (h : g j = g' j) : upd g k x j = upd g' k x j := by
  show (if j = k then x else g j) = if j = k then x else g' j
  rw [h]
theorem upd_b {g : Nat → Int32} {k j : Nat} {x : Int32} {a b : Int} (h : bd (g j) a b) (hx : bd x a b) : bd (upd g k x j) a b := by
  show bd (if j = k then x else g j) a b
  exact bd_if hx h
theorem m_bd {x lo hi : Int32} (h : m_in x lo hi) : bd x lo.toInt hi.toInt := t_in.mp h
theorem rel6 {G : Nat → Nat → Int32} (hG : ∀ k, 24 ≤ k → k < 27 → G k = f k) (r6 : ∀ w h, w < 3 → h < 24 → f (24 + w) h = F 18 (24 * w + h)) : ∀ w h, w < 3 → h < 24 → chg G (24 + w) h = F 18 (24 * w + h) := by
  intro w h hw hh
  unfold chg
  rw [up_ne (by omega), up_ne (by omega), hG _ (by omega) (by omega)]
  exact r6 w h hw hh
/-- a setter's answer and state: class and reference alike -/
abbrev STo (c m : AN) : Prop := c.1 = m.1 ∧ ∃ nw rv up lo m0 m1 : Nat, CI c.2.1 c.2.2 m.2.1 m.2.2 nw rv up lo m0 m1
theorem STo_no (h : CI v f V F nw rv up lo m0 m1) : STo (0, v, f) (0, upd V 0 0, F) := ⟨rfl, nw, rv, up, lo, m0, m1, CI_0 h 0⟩
theorem S_lakes (h : CI v f V F nw rv up lo m0 m1) (a b u1 l1 : Int32) : STo (t_lakes v f a b u1 l1) (s_lakes V F a b u1 l1) := by
  have e32 := (CI_nat h).1
  have hn24 := (CI_nat h).2.1
  have ev := h.2.2.1.1
  have c1 : v 32 = 0 ↔ ¬ 0 < V 1 := by
    rw [e32, ev, t_nlt, nI_toInt (by omega), t_0, show (0 : Int32) = nI 0 from rfl, nI_eq (by omega) (by decide)]
    omega
  unfold t_lakes s_lakes
  by_cases q : v 32 = 0 ∧ m_in a 1 40 ∧ m_in b 1 40 ∧ m_in u1 0 a ∧ m_in l1 0 b
  · rw [cI_t q, cI_t ⟨c1.mp q.1, q.2⟩]
    obtain ⟨q1, qa, qb, qu, ql⟩ := q
    have ba := m_bd qa; have bb := m_bd qb; have bu := m_bd qu; have bl := m_bd ql
    obtain ⟨a1, a2⟩ := ba; obtain ⟨b1, b2⟩ := bb; obtain ⟨u2, u3⟩ := bu; obtain ⟨l2, l3⟩ := bl
    have e1 : (1 : Int32).toInt = 1 := rfl
    have e40 : (40 : Int32).toInt = 40 := rfl
    rw [e1] at a1 b1; rw [e40] at a2 b2
    obtain ⟨eu, hu⟩ := in_nat qu (by omega)
    obtain ⟨el, hl⟩ := in_nat ql (by omega)
    obtain ⟨hR, hB, hI, -⟩ := h
    obtain ⟨⟨r0, r1, r2, r3, r4, r5, r30, r31, r32, r33⟩, r2x, r3x, r4x, r5x, r6x, r7x⟩ := hR
    obtain ⟨i1, i2, i3, i4, i5, i6, i7, i8, i9, i10, i11, i12, i13, i14⟩ := hI
    refine ⟨rfl, nw, rv, u1.toNatClampNeg, l1.toNatClampNeg, m0, m1, CI_set ⟨⟨rfl, rfl, r2, r3, rfl, rfl, r30, r31, r32, r33⟩, r2x, r3x, r4x, r5x, rel6 (fun _ _ _ => rfl) r6x, r7x⟩ ⟨⟨by show 0 ≤ a.toInt; omega, by show a.toInt ≤ 40; omega⟩, ⟨by show 0 ≤ b.toInt; omega, by show b.toInt ≤ 40; omega⟩, hB.2.2⟩ ⟨i1, i2, i3, i4, by show a.toInt ≤ 40; omega, by show b.toInt ≤ 40; omega, eu, hu, el, hl, i11, i12, i13, i14⟩ ?_ ?_ rfl rfl⟩
    · show (u1.toNatClampNeg : Int) ≤ a.toInt
      rw [eu, nI_toInt (by omega)] at u3; exact u3
    · show (l1.toNatClampNeg : Int) ≤ b.toInt
      rw [el, nI_toInt (by omega)] at l3; exact l3
  · rw [cI_f q, cI_f (fun z => q ⟨c1.mpr z.1, z.2⟩)]
    exact STo_no h
theorem S_speeds (h : CI v f V F nw rv up lo m0 m1) (u1 l1 : Int32) : STo (t_speeds v f u1 l1) (s_speeds V F u1 l1) := by
  unfold t_speeds s_speeds
  by_cases q : m_in u1 1 40 ∧ m_in l1 1 40
  · rw [cI_t q, cI_t q]
    obtain ⟨hR, hB, hI, hA, hL, -⟩ := h
    obtain ⟨⟨r0, r1, r2, r3, r4, r5, r30, r31, r32, r33⟩, r2x, r3x, r4x, r5x, r6x, r7x⟩ := hR
    exact ⟨rfl, nw, rv, up, lo, m0, m1, CI_set ⟨⟨r0, r1, rfl, rfl, r4, r5, r30, r31, r32, r33⟩, r2x, r3x, r4x, r5x, rel6 (fun _ _ _ => rfl) r6x, r7x⟩ hB hI hA hL rfl rfl⟩
  · rw [cI_f q, cI_f q]; exact STo_no h
theorem S_reveal (h : CI v f V F nw rv up lo m0 m1) (x : Int32) : STo (t_reveal v f x) (s_reveal V F x) := by
  unfold t_reveal s_reveal
  by_cases q : m_in x 0 24
  · rw [cI_t q, cI_t q]
    obtain ⟨ex, hx⟩ := inN q 24 (by decide) (by decide)
    obtain ⟨hR, hB, hI, hA, hL, -⟩ := h
    obtain ⟨⟨r0, r1, r2, r3, r4, r5, r30, r31, r32, r33⟩, r2x, r3x, r4x, r5x, r6x, r7x⟩ := hR
    obtain ⟨i1, i2, i3, i4, i5⟩ := hI
    exact ⟨rfl, nw, x.toNatClampNeg, up, lo, m0, m1, CI_set ⟨⟨r0, r1, r2, r3, r4, r5, rfl, r31, r32, r33⟩, r2x, r3x, r4x, r5x, rel6 (fun _ _ _ => rfl) r6x, r7x⟩ hB ⟨i1, i2, ex, hx, i5⟩ hA hL rfl rfl⟩
  · rw [cI_f q, cI_f q]; exact STo_no h
theorem S_end (h : CI v f V F nw rv up lo m0 m1) (x : Int32) : STo (t_end v f x) (s_end V F x) := by
  unfold t_end s_end
  by_cases q : m_in x 0 999
  · rw [cI_t q, cI_t q]
    obtain ⟨hR, hB, hI, hA, hL, -⟩ := h
    obtain ⟨⟨r0, r1, r2, r3, r4, r5, r30, r31, r32, r33⟩, r2x, r3x, r4x, r5x, r6x, r7x⟩ := hR
    obtain ⟨w1, w2, w3, w4, w5, w6, w7, w8⟩ := hB
    exact ⟨rfl, nw, rv, up, lo, m0, m1, CI_set ⟨⟨r0, r1, r2, r3, r4, r5, r30, rfl, r32, r33⟩, r2x, r3x, r4x, r5x, rel6 (fun _ _ _ => rfl) r6x, r7x⟩ ⟨w1, w2, w3, w4, w5, w6, w7, m_bd q⟩ hI hA hL rfl rfl⟩
  · rw [cI_f q, cI_f q]; exact STo_no h
theorem S_flows (h : CI v f V F nw rv up lo m0 m1) (x i1 o1 : Int32) : STo (t_flows v f x i1 o1) (s_flows V F x i1 o1) := by
  unfold t_flows s_flows
  by_cases q : m_in x 0 23 ∧ m_in i1 0 9 ∧ m_in o1 0 9
  · rw [cI_t q, cI_t q]
    obtain ⟨hR, hB, hI, hA, hL, -⟩ := h
    obtain ⟨r1, r2, r3, r4, r5, r6, r7⟩ := hR
    obtain ⟨w1, w2, w3, w4⟩ := hB
    refine ⟨rfl, nw, rv, up, lo, m0, m1, CI_set ⟨r1, r2, r3, fun h' hh => ?_, r5, rel6 (fun k h1 h2 => by rw [up_ne (by omega), up_ne (by omega)]) r6, r7⟩ ⟨w1, w2, fun h' hh => ?_, w4⟩ hI hA hL rfl rfl⟩
    · obtain ⟨k1, k2, k3⟩ := r4 h' hh
      exact ⟨upd_c k1, upd_c k2, k3⟩
    · obtain ⟨k1, k2, k3⟩ := w3 h' hh
      exact ⟨upd_b k1 (m_bd q.2.1), upd_b k2 (m_bd q.2.2), k3⟩
  · rw [cI_f q, cI_f q]; exact STo_no h
theorem S_reserve (h : CI v f V F nw rv up lo m0 m1) (x n1 : Int32) : STo (t_reserve v f x n1) (s_reserve V F x n1) := by
  unfold t_reserve s_reserve
  by_cases q : m_in x 0 23 ∧ m_in n1 0 99
  · rw [cI_t q, cI_t q]
    obtain ⟨hR, hB, hI, hA, hL, -⟩ := h
    obtain ⟨r1, r2, r3, r4, r5, r6, r7⟩ := hR
    obtain ⟨w1, w2, w3, w4⟩ := hB
    refine ⟨rfl, nw, rv, up, lo, m0, m1, CI_set ⟨r1, r2, r3, fun h' hh => ?_, r5, rel6 (fun k h1 h2 => by rw [up_ne (by omega)]) r6, r7⟩ ⟨w1, w2, fun h' hh => ?_, w4⟩ hI hA hL rfl rfl⟩
    · obtain ⟨k1, k2, k3, k4⟩ := r4 h' hh
      exact ⟨k1, k2, upd_c k3, k4⟩
    · obtain ⟨k1, k2, k3⟩ := w3 h' hh
      exact ⟨k1, k2, upd_b k3 (m_bd q.2)⟩
  · rw [cI_f q, cI_f q]; exact STo_no h
theorem S_weights (h : CI v f V F nw rv up lo m0 m1) (a b c1 : Int32) : STo (t_weights v f a b c1) (s_weights V F a b c1) := by
  unfold t_weights s_weights
  by_cases q : m_in a 0 9 ∧ m_in b 0 9 ∧ m_in c1 0 9 ∧ ¬ a + b + c1 = 0
  · rw [cI_t q, cI_t q]
    obtain ⟨hR, hB, hI, hA, hL, -⟩ := h
    obtain ⟨r1, r2, r3, r4, r5, r6, r7⟩ := hR
    obtain ⟨w1, w2, w3, w4, w5, w6, w7, w8⟩ := hB
    have ba := m_bd q.1; have bb := m_bd q.2.1; have bc := m_bd q.2.2.1
    obtain ⟨a1, a2⟩ := ba; obtain ⟨b1, b2⟩ := bb; obtain ⟨c2, c3⟩ := bc
    have e9 : (9 : Int32).toInt = 9 := rfl
    rw [t_0] at a1 b1 c2; rw [e9] at a2 b2 c3
    refine ⟨rfl, nw, rv, up, lo, m0, m1, CI_set ⟨r1, r2, r3, r4, fun w hw => upd_c (upd_c (upd_c (r5 w hw))), rel6 (fun k h1 h2 => by rw [up_ne (by omega), up_ne (by omega), up_ne (by omega)]) r6, r7⟩ ⟨w1, w2, w3, w4, w5, fun w hw => upd_b (upd_b (upd_b (w6 w hw) (m_bd q.1)) (m_bd q.2.1)) (m_bd q.2.2.1), ?_, w8⟩ hI hA hL rfl rfl⟩
    by_cases za : 0 < a.toInt
    · exact ⟨0, by decide, za⟩
    by_cases zb : 0 < b.toInt
    · exact ⟨1, by decide, zb⟩
    by_cases zc : 0 < c1.toInt
    · exact ⟨2, by decide, zc⟩
    refine absurd ?_ q.2.2.2
    have ea : a = 0 := Int32.toInt_inj.mp (by rw [t_0]; omega)
    have eb : b = 0 := Int32.toInt_inj.mp (by rw [t_0]; omega)
    have ec : c1 = 0 := Int32.toInt_inj.mp (by rw [t_0]; omega)
    rw [ea, eb, ec]; rfl
  · rw [cI_f q, cI_f q]; exact STo_no h
theorem S_price (h : CI v f V F nw rv up lo m0 m1) (w x n1 : Int32) : STo (t_price v f w x n1) (s_price V F w x n1) := by
  unfold t_price s_price
  by_cases q : m_in w 0 2 ∧ m_in x 0 23 ∧ m_in n1 (-99) 999
  · rw [cI_t q, cI_t q]
    obtain ⟨ew, hw2⟩ := inN q.1 2 (by decide) (by decide)
    obtain ⟨ex, hx23⟩ := inN q.2.1 23 (by decide) (by decide)
    obtain ⟨hR, hB, hI, hA, hL, -⟩ := h
    obtain ⟨r1, r2, r3, r4, r5, r6, r7⟩ := hR
    obtain ⟨w1, w2, w3, w4, w5, w6⟩ := hB
    have hk : ∀ k, ¬ k = 24 + w.toNatClampNeg → ¬ k = 11 → ¬ k = 12 → chg (va_up f (24 + w.toNatClampNeg) (upd (f (24 + w.toNatClampNeg)) x.toNatClampNeg n1)) k = f k := by
      intro k h1 h2 h3
      unfold chg
      rw [up_ne h3, up_ne h2, up_ne h1]
    refine ⟨rfl, nw, rv, up, lo, m0, m1, CI_set ⟨r1, r2, r3, fun h' hh => ?_, fun w' hw' => ?_, fun w' h' hw' hh' => ?_, r7⟩ ⟨w1, w2, w3, w4, fun j hj => upd_b (w5 j hj) (m_bd q.2.2), w6⟩ hI hA hL rfl rfl⟩
    · dsimp only
      rw [hk 13 (by omega) (by decide) (by decide), hk 14 (by omega) (by decide) (by decide), hk 15 (by omega) (by decide) (by decide), hk 16 (by omega) (by decide) (by decide), hk 17 (by omega) (by decide) (by decide)]
      exact r4 h' hh
    · dsimp only
      rw [hk 10 (by omega) (by decide) (by decide)]
      exact r5 w' hw'
    · show chg (va_up f (24 + w.toNatClampNeg) (upd (f (24 + w.toNatClampNeg)) x.toNatClampNeg n1)) (24 + w') h' = upd (F 18) (24 * w.toNatClampNeg + x.toNatClampNeg) n1 (24 * w' + h')
      by_cases ew' : w' = w.toNatClampNeg
      · subst ew'
        unfold chg
        rw [up_ne (by omega), up_ne (by omega)]
        show (if 24 + w.toNatClampNeg = 24 + w.toNatClampNeg then upd (f (24 + w.toNatClampNeg)) x.toNatClampNeg n1 else _) h' = _
        rw [if_pos rfl]
        show (if h' = x.toNatClampNeg then n1 else f (24 + w.toNatClampNeg) h') = (if 24 * w.toNatClampNeg + h' = 24 * w.toNatClampNeg + x.toNatClampNeg then n1 else F 18 (24 * w.toNatClampNeg + h'))
        by_cases e : h' = x.toNatClampNeg
        · rw [if_pos e, if_pos (by omega)]
        · rw [if_neg e, if_neg (by omega)]; exact r6 _ h' hw' hh'
      · rw [hk (24 + w') (by omega) (by omega) (by omega)]
        show _ = (if 24 * w' + h' = 24 * w.toNatClampNeg + x.toNatClampNeg then n1 else F 18 (24 * w' + h'))
        rw [if_neg (by omega)]; exact r6 w' h' hw' hh'
  · rw [cI_f q, cI_f q]; exact STo_no h
theorem S_machine (h : CI v f V F nw rv up lo m0 m1) (k d1 g1 u1 t1 s1 : Int32) : STo (t_machine v f k d1 g1 u1 t1 s1) (s_machine V F k d1 g1 u1 t1 s1) := by
  unfold t_machine s_machine
  by_cases q : m_in k 0 1 ∧ m_in d1 0 99 ∧ m_in g1 0 99 ∧ m_in u1 0 99 ∧ m_in t1 0 99 ∧ m_in s1 0 99
  · rw [cI_t q, cI_t q]
    obtain ⟨qk, q1, q2, q3, q4, q5⟩ := q
    obtain ⟨hR, hB, hI, hA, hL, -⟩ := h
    obtain ⟨r1, ⟨a0, a1, a2, a3, a4, a5, a6⟩, ⟨b0, b1, b2, b3, b4, b5, b6⟩, r4, r5, r6, r7⟩ := hR
    obtain ⟨w1, w2, w3, w4, w5⟩ := hB
    have wk : ∀ (n : Nat) (j : Nat), j < 2 → bd (upd (F 11) n d1 j) 0 99 ∧ bd (upd (F 12) n g1 j) 0 99 ∧ bd (upd (F 13) n u1 j) 0 99 ∧ bd (upd (F 14) n t1 j) 0 99 ∧ bd (upd (F 15) n s1 j) 0 99 := by
      intro n j hj
      obtain ⟨k1, k2, k3, k4, k5⟩ := w4 j hj
      exact ⟨upd_b k1 (m_bd q1), upd_b k2 (m_bd q2), upd_b k3 (m_bd q3), upd_b k4 (m_bd q4), upd_b k5 (m_bd q5)⟩
    rcases in01 qk with rfl | rfl
    · rw [if_pos rfl]
      exact ⟨rfl, nw, rv, up, lo, m0, m1, CI_set ⟨r1, ⟨rfl, rfl, rfl, rfl, rfl, a5, a6⟩, ⟨b0, b1, b2, b3, b4, b5, b6⟩, r4, r5, rel6 (fun _ _ _ => rfl) r6, r7⟩ ⟨w1, w2, w3, wk 0, w5⟩ hI hA hL rfl rfl⟩
    · rw [if_neg (by decide)]
      exact ⟨rfl, nw, rv, up, lo, m0, m1, CI_set ⟨r1, ⟨a0, a1, a2, a3, a4, a5, a6⟩, ⟨rfl, rfl, rfl, rfl, rfl, b5, b6⟩, r4, r5, rel6 (fun _ _ _ => rfl) r6, r7⟩ ⟨w1, w2, w3, wk 1, w5⟩ hI hA hL rfl rfl⟩
  · rw [cI_f q, cI_f q]; exact STo_no h
theorem rowF_c {g g' : Nat → Int32} {a b c j : Nat} {y : Int32} (h : g j = g' (c + j)) : rowF g a b y j = rowF g' (c + a) (c + b) y (c + j) := by
  show (if a ≤ j ∧ j < b then y else g j) = if c + a ≤ c + j ∧ c + j < c + b then y else g' (c + j)
  by_cases q : a ≤ j ∧ j < b
  · rw [if_pos q, if_pos (by omega)]
  · rw [if_neg q, if_neg (by omega)]; exact h
theorem S_out (h : CI v f V F nw rv up lo m0 m1) (k fr to y : Int32) : STo (t_out v f k fr to y) (s_out V F k fr to y) := by
  unfold t_out s_out
  by_cases q : m_in k 0 1 ∧ m_in fr 0 23 ∧ m_in to 0 23 ∧ fr ≤ to
  · rw [cI_t q, cI_t q]
    obtain ⟨qk, q1, q2, q3⟩ := q
    obtain ⟨ef, hf⟩ := inN q1 23 (by decide) (by decide)
    obtain ⟨et, ht⟩ := inN q2 23 (by decide) (by decide)
    obtain ⟨hR, hB, hI, hA, hL, -⟩ := h
    obtain ⟨r1, r2, r3, r4, r5, r6, r7⟩ := hR
    rcases in01 qk with rfl | rfl
    · rw [if_pos rfl]
      refine ⟨rfl, nw, rv, up, lo, m0, m1, CI_set ⟨r1, r2, r3, fun h' hh => ?_, r5, rel6 (fun k h1 h2 => by rw [up_ne (by omega)]) r6, r7⟩ hB hI hA hL rfl rfl⟩
      obtain ⟨k1, k2, k3, k4, k5⟩ := r4 h' hh
      refine ⟨k1, k2, k3, ?_, ?_⟩
      · show rowF (f 16) fr.toNatClampNeg (to.toNatClampNeg + 1) y h' = rowF (F 16) (24 * 0 + fr.toNatClampNeg) (24 * 0 + to.toNatClampNeg + 1) y h'
        have k := rowF_c (g := f 16) (g' := F 16) (a := fr.toNatClampNeg) (b := to.toNatClampNeg + 1) (c := 0) (j := h') (y := y) (by rw [Nat.zero_add]; exact k4)
        rw [Nat.zero_add, Nat.zero_add, Nat.zero_add] at k
        rw [show 24 * 0 + fr.toNatClampNeg = fr.toNatClampNeg by omega, show 24 * 0 + to.toNatClampNeg + 1 = to.toNatClampNeg + 1 by omega]
        exact k
      · show f 17 h' = rowF (F 16) (24 * 0 + fr.toNatClampNeg) (24 * 0 + to.toNatClampNeg + 1) y (24 + h')
        rw [rowF, if_neg (by omega)]; exact k5
    · rw [if_neg (by decide)]
      refine ⟨rfl, nw, rv, up, lo, m0, m1, CI_set ⟨r1, r2, r3, fun h' hh => ?_, r5, rel6 (fun k h1 h2 => by rw [up_ne (by omega)]) r6, r7⟩ hB hI hA hL rfl rfl⟩
      obtain ⟨k1, k2, k3, k4, k5⟩ := r4 h' hh
      refine ⟨k1, k2, k3, ?_, ?_⟩
      · show f 16 h' = rowF (F 16) (24 * 1 + fr.toNatClampNeg) (24 * 1 + to.toNatClampNeg + 1) y h'
        rw [rowF, if_neg (by omega)]; exact k4
      · show rowF (f 17) fr.toNatClampNeg (to.toNatClampNeg + 1) y h' = rowF (F 16) (24 * 1 + fr.toNatClampNeg) (24 * 1 + to.toNatClampNeg + 1) y (24 + h')
        exact rowF_c (c := 24) k5
  · rw [cI_f q, cI_f q]; exact STo_no h
/-- count -/
theorem S_count (h : CI v f V F nw rv up lo m0 m1) (x : Int32) : n_count (c_cnt v) x = n_count (m_cnt V F) x := by
  obtain ⟨⟨⟨r0, r1, r2, r3, r4, r5, r30, r31, r32, r33⟩, ⟨a0, a1, a2, a3, a4, a5, a6⟩, ⟨b0, b1, b2, b3, b4, b5, b6⟩, -⟩, -⟩ := h
  rcases sw8 x with q | rfl | rfl | rfl | rfl | rfl | rfl | rfl | rfl | rfl
  · rw [n_count, n_count, if_pos q, if_pos q]
  · exact r32
  · exact r4
  · exact r5
  · exact a5
  · exact b5
  · exact r33
  · exact a6
  · exact b6
  · exact r30
/-- at first -/
theorem bd_l {x : Int32} {a c : Int} (h1 : a ≤ x.toInt) (h2 : x.toInt ≤ c) : bd x a c := ⟨h1, h2⟩
theorem CI_first : CI cv0 cf0 mv0 mf0 0 0 20 20 0 0 := by
  have z9 : bd (0 : Int32) 0 9 := bd_l (by decide) (by decide)
  have z99 : bd (0 : Int32) 0 99 := bd_l (by decide) (by decide)
  refine CI_set ⟨⟨rfl, rfl, rfl, rfl, rfl, rfl, rfl, rfl, rfl, rfl⟩, ⟨rfl, rfl, rfl, rfl, rfl, rfl, rfl⟩, ⟨rfl, rfl, rfl, rfl, rfl, rfl, rfl⟩, fun h hh => ⟨rfl, rfl, rfl, rfl, rfl⟩, fun w hw => rfl, fun w h hw hh => ?_, rfl, rfl, rfl⟩ ⟨bd_l (by decide) (by decide), bd_l (by decide) (by decide), fun h hh => ⟨z9, z9, z99⟩, fun k hk => ?_, fun j hj => ?_, fun w hw => ?_, ⟨0, by decide, by decide⟩, bd_l (by decide) (by decide)⟩ ⟨rfl, by decide, rfl, by decide, by decide, by decide, rfl, by decide, rfl, by decide, rfl, by decide, rfl, by decide⟩ (by decide) (by decide) rfl rfl
  · rcases (show w = 0 ∨ w = 1 ∨ w = 2 by omega) with rfl | rfl | rfl
    · show (10 : Int32) = rowF (fun _ => 0) 0 72 10 (24 * 0 + h); rw [rowF_all _ (by omega)]
    · show (10 : Int32) = rowF (fun _ => 0) 0 72 10 (24 * 1 + h); rw [rowF_all _ (by omega)]
    · show (10 : Int32) = rowF (fun _ => 0) 0 72 10 (24 * 2 + h); rw [rowF_all _ (by omega)]
  · rcases (show k = 0 ∨ k = 1 by omega) with rfl | rfl
    · exact ⟨bd_l (by decide) (by decide), bd_l (by decide) (by decide), bd_l (by decide) (by decide), bd_l (by decide) (by decide), bd_l (by decide) (by decide)⟩
    · exact ⟨bd_l (by decide) (by decide), bd_l (by decide) (by decide), bd_l (by decide) (by decide), bd_l (by decide) (by decide), bd_l (by decide) (by decide)⟩
  · show bd (rowF (fun _ => 0) 0 72 10 j) (-99) 999
    rw [rowF_all _ hj]; exact bd_l (by decide) (by decide)
  · rcases (show w = 0 ∨ w = 1 ∨ w = 2 by omega) with rfl | rfl | rfl
    · exact bd_l (by decide) (by decide)
    · exact bd_l (by decide) (by decide)
    · exact bd_l (by decide) (by decide)
end TIEI
