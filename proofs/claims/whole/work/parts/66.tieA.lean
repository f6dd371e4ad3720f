/-- numbers as integers -/
theorem t_add {a b : Int32} (h1 : -2147483648 ≤ a.toInt + b.toInt) (h2 : a.toInt + b.toInt ≤ 2147483647) : (a + b).toInt = a.toInt + b.toInt := by
  rw [Int32.toInt_add]; exact Int.bmod_eq_of_le (by omega) (by omega)
theorem t_sub {a b : Int32} (h1 : -2147483648 ≤ a.toInt - b.toInt) (h2 : a.toInt - b.toInt ≤ 2147483647) : (a - b).toInt = a.toInt - b.toInt := by
  rw [Int32.toInt_sub]; exact Int.bmod_eq_of_le (by omega) (by omega)
theorem t_neg {a : Int32} (h1 : -2147483647 ≤ a.toInt) (h2 : a.toInt ≤ 2147483647) : (-a).toInt = -a.toInt := by
  rw [Int32.toInt_neg]; exact Int.bmod_eq_of_le (by omega) (by omega)
theorem t_mul {a b : Int32} (h1 : -2147483648 ≤ a.toInt * b.toInt) (h2 : a.toInt * b.toInt ≤ 2147483647) : (a * b).toInt = a.toInt * b.toInt := by
  rw [Int32.toInt_mul]; exact Int.bmod_eq_of_le (by omega) (by omega)
theorem t_0 : (0 : Int32).toInt = 0 := rfl
theorem t_1 : (1 : Int32).toInt = 1 := rfl
theorem t_lt {a b : Int32} : a < b ↔ a.toInt < b.toInt := Int32.lt_iff_toInt_lt
theorem t_le {a b : Int32} : a ≤ b ↔ a.toInt ≤ b.toInt := Int32.le_iff_toInt_le
theorem t_max (x y : Int32) : (i_max x y).toInt = max x.toInt y.toInt := by
  unfold i_max
  by_cases h : x < y
  · rw [if_pos h]; have := t_lt.mp h; omega
  · rw [if_neg h]; have := Int32_ge h; omega
theorem t_min (x y : Int32) : (i_min x y).toInt = min x.toInt y.toInt := by
  unfold i_min
  by_cases h : y < x
  · rw [if_pos h]; have := t_lt.mp h; omega
  · rw [if_neg h]; have := Int32_ge h; omega
theorem t_abs {x : Int32} (h1 : -2147483647 ≤ x.toInt) (h2 : x.toInt ≤ 2147483647) : (i_abs x).toInt = max x.toInt (-x.toInt) := by
  unfold i_abs
  by_cases h : 0 ≤ x
  · rw [if_pos h]; have := t_le.mp h; rw [t_0] at this; omega
  · have k : x.toInt < 0 := by
      rcases Int.lt_or_le x.toInt 0 with q | q
      · exact q
      · exact absurd (t_le.mpr (by rw [t_0]; exact q)) h
    rw [if_neg h, t_sub (by rw [t_0]; omega) (by rw [t_0]; omega), t_0]; omega
theorem t_far {x y : Int32} (h1 : -2147483647 ≤ x.toInt - y.toInt) (h2 : x.toInt - y.toInt ≤ 2147483647) : (m_far x y).toInt = max (x.toInt - y.toInt) (y.toInt - x.toInt) := by
  unfold m_far
  by_cases h : x ≤ y
  · have := t_le.mp h
    rw [if_pos h, t_sub (by omega) (by omega)]; omega
  · have := t_lt.mp (lt_of_nle h)
    rw [if_neg h, t_sub (by omega) (by omega)]; omega
theorem t_in {x lo hi : Int32} : m_in x lo hi ↔ lo.toInt ≤ x.toInt ∧ x.toInt ≤ hi.toInt := by
  unfold m_in
  constructor
  · intro h; exact ⟨Int32_ge h.1, Int32_ge h.2⟩
  · intro h
    exact ⟨fun z => by have := t_lt.mp z; omega, fun z => by have := t_lt.mp z; omega⟩
theorem t_nlt {a b : Int32} : ¬ a < b ↔ b.toInt ≤ a.toInt := ⟨fun h => Int32_ge h, fun h z => by have := t_lt.mp z; omega⟩
/-- between two numbers -/
def bd (x : Int32) (lo hi : Int) : Prop := lo ≤ x.toInt ∧ x.toInt ≤ hi
/-- the reference's numbers are such as the setters let in -/
def RB (V : Nat → Int32) (F : Nat → Nat → Int32) : Prop := bd (V 2) 0 40 ∧ bd (V 3) 0 40 ∧ (∀ h, h < 24 → bd (F 8 h) 0 9 ∧ bd (F 9 h) 0 9 ∧ bd (F 10 h) 0 99) ∧ (∀ k, k < 2 → bd (F 11 k) 0 99 ∧ bd (F 12 k) 0 99 ∧ bd (F 13 k) 0 99 ∧ bd (F 14 k) 0 99 ∧ bd (F 15 k) 0 99) ∧ (∀ j, j < 72 → bd (F 18 j) (-99) 999) ∧ (∀ w, w < 3 → bd (F 17 w) 0 9) ∧ (∃ w, w < 3 ∧ 0 < (F 17 w).toInt) ∧ bd (V 20) 0 999
/-- the class's numbers are the reference's -/
def Rel (v : Nat → Int32) (f : Nat → Nat → Int32) (V : Nat → Int32) (F : Nat → Nat → Int32) : Prop := (v 0 = V 2 ∧ v 1 = V 3 ∧ v 2 = V 6 ∧ v 3 = V 7 ∧ v 4 = V 4 ∧ v 5 = V 5 ∧ v 30 = V 19 ∧ v 31 = V 20 ∧ v 32 = V 1 ∧ v 33 = V 23) ∧ (v 10 = F 11 0 ∧ v 11 = F 12 0 ∧ v 12 = F 13 0 ∧ v 13 = F 14 0 ∧ v 14 = F 15 0 ∧ v 15 = F 21 0 ∧ v 16 = F 22 0) ∧ (v 20 = F 11 1 ∧ v 21 = F 12 1 ∧ v 22 = F 13 1 ∧ v 23 = F 14 1 ∧ v 24 = F 15 1 ∧ v 25 = F 21 1 ∧ v 26 = F 22 1) ∧ (∀ h, h < 24 → f 13 h = F 8 h ∧ f 14 h = F 9 h ∧ f 15 h = F 10 h ∧ f 16 h = F 16 h ∧ f 17 h = F 16 (24 + h)) ∧ (∀ w, w < 3 → f 10 w = F 17 w) ∧ (∀ w h, w < 3 → h < 24 → f (24 + w) h = F 18 (24 * w + h)) ∧ (v 40 = 1 ∧ v 41 = 1 ∧ v 42 = 1)
section TIE
variable {v : Nat → Int32} {f : Nat → Nat → Int32} {V : Nat → Int32} {F : Nat → Nat → Int32}
theorem tie_drop (hR : Rel v f V F) (d : Nat) : d_drop v d = m_loses F (nI (d / 3)) (nI (d % 3)) := by
  obtain ⟨-, ⟨e10, e11, e12, e13, e14, -⟩, ⟨e20, e21, e22, e23, e24, -⟩, -⟩ := hR
  show (if nI (d / 3) = 1 then v 10 else if nI (d / 3) = 2 then -(v 12) else 0) + (if nI (d % 3) = 1 then v 20 else if nI (d % 3) = 2 then -(v 22) else 0) = _
  rw [e10, e12, e20, e22]; rfl
theorem tie_en (hR : Rel v f V F) (d : Nat) : d_en v d = m_energy F 0 (nI (d / 3)) + m_energy F 1 (nI (d % 3)) := by
  obtain ⟨-, ⟨e10, e11, e12, e13, e14, -⟩, ⟨e20, e21, e22, e23, e24, -⟩, -⟩ := hR
  show (if nI (d / 3) = 1 then v 11 else if nI (d / 3) = 2 then -(v 13) else 0) + (if nI (d % 3) = 1 then v 21 else if nI (d % 3) = 2 then -(v 23) else 0) = _
  rw [e11, e13, e21, e23]; rfl
theorem i20 {a : Int32} (h : a = 2) : ¬ a = 0 := by rw [h]; decide
theorem tie_pw0 (hR : Rel v f V F) {h : Nat} (hh : h < 24) (a : Int32) : k_backup (fun k => v (10 + k)) (f 16) a h = m_power F 0 h a := by
  obtain ⟨-, ⟨e10, e11, e12, e13, e14, -⟩, -, eh, -⟩ := hR
  obtain ⟨-, -, -, e16, e17⟩ := eh h hh
  show (if a = 2 then v 13 else if a = 0 ∧ f 16 h = 0 then v 11 else 0) = (if a = 0 ∧ F 16 (24 * 0 + h) = 0 then F 12 0 else if a = 2 then F 14 0 else 0)
  rw [e11, e13, e16, show 24 * 0 + h = h by omega]
  by_cases q : a = 2
  · rw [if_pos q, if_neg (fun z => i20 q z.1), if_pos q]
  · rw [if_neg q, if_neg q]
theorem tie_pw1 (hR : Rel v f V F) {h : Nat} (hh : h < 24) (a : Int32) : k_backup (fun k => v (20 + k)) (f 17) a h = m_power F 1 h a := by
  obtain ⟨-, -, ⟨e10, e11, e12, e13, e14, -⟩, eh, -⟩ := hR
  obtain ⟨-, -, -, e16, e17⟩ := eh h hh
  show (if a = 2 then v 23 else if a = 0 ∧ f 17 h = 0 then v 21 else 0) = (if a = 0 ∧ F 16 (24 * 1 + h) = 0 then F 12 1 else if a = 2 then F 14 1 else 0)
  rw [e11, e13, e17, show 24 * 1 + h = 24 + h by omega]
  by_cases q : a = 2
  · rw [if_pos q, if_neg (fun z => i20 q z.1), if_pos q]
  · rw [if_neg q, if_neg q]
theorem tie_un0 (hR : Rel v f V F) {h : Nat} (hh : h < 24) (a : Int32) : k_units (fun k => v (10 + k)) (f 16) a h = m_units F 0 h a := by
  obtain ⟨-, ⟨e10, e11, e12, e13, e14, -⟩, -, eh, -⟩ := hR
  obtain ⟨-, -, -, e16, e17⟩ := eh h hh
  show (if a = 1 ∨ (a = 0 ∧ f 16 h = 0) then v 10 else 0) = (if (a = 0 ∧ F 16 (24 * 0 + h) = 0) ∨ a = 1 then F 11 0 else 0)
  rw [e10, e16, show 24 * 0 + h = h by omega]
  by_cases q : a = 1 ∨ (a = 0 ∧ F 16 h = 0)
  · rw [if_pos q, if_pos q.symm]
  · rw [if_neg q, if_neg (fun z => q z.symm)]
theorem tie_un1 (hR : Rel v f V F) {h : Nat} (hh : h < 24) (a : Int32) : k_units (fun k => v (20 + k)) (f 17) a h = m_units F 1 h a := by
  obtain ⟨-, -, ⟨e10, e11, e12, e13, e14, -⟩, eh, -⟩ := hR
  obtain ⟨-, -, -, e16, e17⟩ := eh h hh
  show (if a = 1 ∨ (a = 0 ∧ f 17 h = 0) then v 20 else 0) = (if (a = 0 ∧ F 16 (24 * 1 + h) = 0) ∨ a = 1 then F 11 1 else 0)
  rw [e10, e17, show 24 * 1 + h = 24 + h by omega]
  by_cases q : a = 1 ∨ (a = 0 ∧ F 16 (24 + h) = 0)
  · rw [if_pos q, if_pos q.symm]
  · rw [if_neg q, if_neg (fun z => q z.symm)]
/-- may go: not out, and the modes follow -/
abbrev kFol (m d : Nat) : Prop := k_follow (nI (m / 3)) (nI (d / 3)) ∧ k_follow (nI (m % 3)) (nI (d % 3))
abbrev mSt (F : Nat → Nat → Int32) (m d : Nat) : Int32 := m_start F 0 (nI (m / 3)) (nI (d / 3)) + m_start F 1 (nI (m % 3)) (nI (d % 3))
theorem tie_cost (hR : Rel v f V F) {m d : Nat} (hf : kFol m d) : d_cost v m d = mSt F m d := by
  obtain ⟨-, ⟨-, -, -, -, e14, -⟩, ⟨-, -, -, -, e24, -⟩, -⟩ := hR
  rw [d_cost, cI_t hf, d_c0, e14, e24]
  show _ = (if nI (m / 3) = 0 ∧ ¬ nI (d / 3) = 0 then F 15 0 else 0) + (if nI (m % 3) = 0 ∧ ¬ nI (d % 3) = 0 then F 15 1 else 0)
  have q1 : cI (k_start (nI (m / 3)) (nI (d / 3))) (F 15 0) 0 = (if nI (m / 3) = 0 ∧ ¬ nI (d / 3) = 0 then F 15 0 else 0) := by
    by_cases h : nI (m / 3) = 0 ∧ ¬ nI (d / 3) = 0
    · rw [if_pos h, cI_t (show k_start (nI (m / 3)) (nI (d / 3)) from h)]
    · rw [if_neg h, cI_f (show ¬ k_start (nI (m / 3)) (nI (d / 3)) from h)]
  rw [q1]
  by_cases h : nI (m % 3) = 0 ∧ ¬ nI (d % 3) = 0
  · rw [if_pos h, cI_t (show k_start (nI (m % 3)) (nI (d % 3)) from h)]
  · rw [if_neg h, cI_f (show ¬ k_start (nI (m % 3)) (nI (d % 3)) from h), Int32.add_zero]
theorem tie_noc {m d : Nat} (hf : ¬ kFol m d) : d_cost v m d = -1 := by rw [d_cost, cI_f hf]
theorem bd_if {q : Prop} [Decidable q] {x y : Int32} {lo hi : Int} (h1 : bd x lo hi) (h2 : bd y lo hi) : bd (if q then x else y) lo hi := by
  by_cases h : q
  · rw [if_pos h]; exact h1
  · rw [if_neg h]; exact h2
theorem bd_0 {lo hi : Int} (h1 : lo ≤ 0) (h2 : 0 ≤ hi) : bd 0 lo hi := by unfold bd; rw [t_0]; exact ⟨h1, h2⟩
theorem bd_w {x : Int32} {lo hi lo' hi' : Int} (h : bd x lo hi) (h1 : lo' ≤ lo) (h2 : hi ≤ hi') : bd x lo' hi' := ⟨by have := h.1; omega, by have := h.2; omega⟩
theorem bd_neg {x : Int32} {hi : Int} (h : bd x 0 hi) (hh : hi ≤ 99) : bd (-x) (-hi) hi := by
  have h1 := h.1; have h2 := h.2
  unfold bd; rw [t_neg (by omega) (by omega)]; omega
theorem bd_add {x y : Int32} {a b c d : Int} (h : bd x a b) (h' : bd y c d) (k1 : -2147483648 ≤ a + c) (k2 : b + d ≤ 2147483647) : bd (x + y) (a + c) (b + d) := by
  have h1 := h.1; have h2 := h.2; have h3 := h'.1; have h4 := h'.2
  unfold bd; rw [t_add (by omega) (by omega)]; omega
theorem b_loses (hB : RB V F) (a b : Int32) : bd (m_loses F a b) (-198) 198 := by
  obtain ⟨-, -, -, hk, -⟩ := hB
  obtain ⟨h1, -, h2, -⟩ := hk 0 (by decide)
  obtain ⟨g1, -, g2, -⟩ := hk 1 (by decide)
  exact bd_add (bd_if (bd_w h1 (by decide) (by decide)) (bd_if (bd_neg h2 (by decide)) (bd_0 (by decide) (by decide)))) (bd_if (bd_w g1 (by decide) (by decide)) (bd_if (bd_neg g2 (by decide)) (bd_0 (by decide) (by decide)))) (by decide) (by decide)
theorem b_energy (hB : RB V F) {k : Nat} (hk2 : k < 2) (a : Int32) : bd (m_energy F k a) (-99) 99 := by
  obtain ⟨-, -, -, hk, -⟩ := hB
  obtain ⟨-, h1, -, h2, -⟩ := hk k hk2
  exact bd_if (bd_w h1 (by decide) (by decide)) (bd_if (bd_neg h2 (by decide)) (bd_0 (by decide) (by decide)))
theorem b_power (hB : RB V F) {k h : Nat} (hk2 : k < 2) (a : Int32) : bd (m_power F k h a) 0 99 := by
  obtain ⟨-, -, -, hk, -⟩ := hB
  obtain ⟨-, h1, -, h2, -⟩ := hk k hk2
  exact bd_if h1 (bd_if h2 (bd_0 (by decide) (by decide)))
theorem b_units (hB : RB V F) {k h : Nat} (hk2 : k < 2) (a : Int32) : bd (m_units F k h a) 0 99 := by
  obtain ⟨-, -, -, hk, -⟩ := hB
  exact bd_if (hk k hk2).1 (bd_0 (by decide) (by decide))
theorem b_start (hB : RB V F) {k : Nat} (hk2 : k < 2) (p a : Int32) : bd (m_start F k p a) 0 99 := by
  obtain ⟨-, -, -, hk, -⟩ := hB
  exact bd_if (hk k hk2).2.2.2.2 (bd_0 (by decide) (by decide))
theorem b_st (hB : RB V F) (m d : Nat) : bd (mSt F m d) 0 198 := bd_add (b_start hB (by decide) _ _) (b_start hB (by decide) _ _) (by decide) (by decide)
theorem cost_iff (hR : Rel v f V F) (hB : RB V F) {m d : Nat} : ¬ d_cost v m d = -1 ↔ kFol m d := by
  constructor
  · intro h
    exact Classical.byContradiction fun q => h (tie_noc q)
  · intro h e
    rw [tie_cost hR h] at e
    have b := b_st hB m d
    rw [e] at b
    exact absurd b.1 (by decide)
/-- nothing forbids the doing whatever the levels are -/
def stat (V : Nat → Int32) (F : Nat → Nat → Int32) (h d : Nat) : Prop := ((nI (d / 3) = 0 ∨ F 16 h = 0) ∧ (nI (d % 3) = 0 ∨ F 16 (24 + h) = 0)) ∧ max ((F 8 h).toInt - (m_loses F (nI (d / 3)) (nI (d % 3))).toInt) ((m_loses F (nI (d / 3)) (nI (d % 3))).toInt - (F 8 h).toInt) ≤ (V 6).toInt ∧ max ((m_loses F (nI (d / 3)) (nI (d % 3))).toInt - (F 9 h).toInt) ((F 9 h).toInt - (m_loses F (nI (d / 3)) (nI (d % 3))).toInt) ≤ (V 7).toInt ∧ (F 10 h).toInt ≤ (m_power F 0 h (nI (d / 3))).toInt + (m_power F 1 h (nI (d % 3))).toInt
theorem tie_sh (hR : Rel v f V F) (hB : RB V F) {h d : Nat} (hh : h < 24) : (d_sh v f h d).toInt = (F 8 h).toInt - (m_loses F (nI (d / 3)) (nI (d % 3))).toInt := by
  obtain ⟨b1, b2, b3⟩ := hB.2.2.1 h hh
  have n := b_loses hB (nI (d / 3)) (nI (d % 3))
  obtain ⟨e8, e9, -⟩ := hR.2.2.2.1 h hh
  obtain ⟨b11, b12⟩ := b1; obtain ⟨n1, n2⟩ := n
  rw [d_sh, tie_drop hR, e8, t_sub (by omega) (by omega)]
theorem tie_sl (hR : Rel v f V F) (hB : RB V F) {h d : Nat} (hh : h < 24) : (d_sl v f h d).toInt = (m_loses F (nI (d / 3)) (nI (d % 3))).toInt - (F 9 h).toInt := by
  obtain ⟨b1, b2, b3⟩ := hB.2.2.1 h hh
  have n := b_loses hB (nI (d / 3)) (nI (d % 3))
  obtain ⟨e8, e9, -⟩ := hR.2.2.2.1 h hh
  obtain ⟨b11, b12⟩ := b2; obtain ⟨n1, n2⟩ := n
  rw [d_sl, tie_drop hR, e9, t_sub (by omega) (by omega)]
theorem tie_fb (hR : Rel v f V F) (hB : RB V F) {h d : Nat} (hh : h < 24) : d_fb v f h d (d_sh v f h d) (d_sl v f h d) ↔ ¬ stat V F h d := by
  obtain ⟨b1, b2, b3⟩ := hB.2.2.1 h hh
  have n := b_loses hB (nI (d / 3)) (nI (d % 3))
  have p0 := b_power hB (k := 0) (h := h) (by decide) (nI (d / 3))
  have p1 := b_power hB (k := 1) (h := h) (by decide) (nI (d % 3))
  have es := tie_sh hR hB (d := d) hh
  have el := tie_sl hR hB (d := d) hh
  have w0 := tie_pw0 hR hh (nI (d / 3))
  have w1 := tie_pw1 hR hh (nI (d % 3))
  obtain ⟨-, -, e10, e16, e17⟩ := hR.2.2.2.1 h hh
  have v2 := hR.1.2.2.1
  have v3 := hR.1.2.2.2.1
  obtain ⟨b11, b12⟩ := b1; obtain ⟨b21, b22⟩ := b2; obtain ⟨n1, n2⟩ := n; obtain ⟨p01, p02⟩ := p0; obtain ⟨p11, p12⟩ := p1
  unfold d_fb k_canBe
  rw [w0, w1, e10, e16, e17, v2, v3, t_lt, t_le, t_le, t_abs (by omega) (by omega), t_abs (by omega) (by omega), t_add (by omega) (by omega), es, el]
  unfold stat
  constructor
  · rintro (q | (q | q) | q) ⟨z1, z2, z3, z4⟩
    · exact q z1
    · omega
    · omega
    · omega
  · intro q
    by_cases z1 : (nI (d / 3) = 0 ∨ F 16 h = 0) ∧ (nI (d % 3) = 0 ∨ F 16 (24 + h) = 0)
    · exact Or.inr (Classical.byContradiction fun c => q ⟨z1, by omega, by omega, by omega⟩)
    · exact Or.inl z1
/-- the bounds of the levels -/
abbrev unI (F : Nat → Nat → Int32) (h d : Nat) : Int := if F 10 h = 0 then 0 else (m_units F 0 h (nI (d / 3))).toInt + (m_units F 1 h (nI (d % 3))).toInt
theorem tie_units (hR : Rel v f V F) (hB : RB V F) {h d : Nat} (hh : h < 24) : (d_units v f h d).toInt = unI F h d ∧ 0 ≤ unI F h d ∧ unI F h d ≤ 198 := by
  have p0 := b_units hB (k := 0) (h := h) (by decide) (nI (d / 3))
  have p1 := b_units hB (k := 1) (h := h) (by decide) (nI (d % 3))
  obtain ⟨-, -, e10, e16, e17⟩ := hR.2.2.2.1 h hh
  obtain ⟨p01, p02⟩ := p0; obtain ⟨p11, p12⟩ := p1
  unfold d_units unI
  rw [tie_un0 hR hh, tie_un1 hR hh, e10]
  by_cases q : F 10 h = 0
  · rw [if_pos q, if_pos q, t_0]; omega
  · rw [if_neg q, if_neg q, t_add (by omega) (by omega)]; omega
theorem tie_lo (hR : Rel v f V F) (hB : RB V F) {h d : Nat} {t : Int32} (hh : h < 24) (ht : bd t (-300) 400) (hs : stat V F h d) : (d_lo v f h t d).toInt = max (max (max 0 (t.toInt - (V 3).toInt)) (max 0 (t.toInt + (F 8 h).toInt - (F 9 h).toInt - (V 3).toInt) - ((F 8 h).toInt - (m_loses F (nI (d / 3)) (nI (d % 3))).toInt))) (unI F h d) := by
  obtain ⟨b1, b2, b3⟩ := hB.2.2.1 h hh
  have n := b_loses hB (nI (d / 3)) (nI (d % 3))
  have es := tie_sh hR hB (d := d) hh
  obtain ⟨e8, e9, -⟩ := hR.2.2.2.1 h hh
  have v1 := hR.1.2.1
  obtain ⟨eu, u1, u2⟩ := tie_units hR hB (d := d) hh
  have bB := hB.2.1
  obtain ⟨b11, b12⟩ := b1; obtain ⟨b21, b22⟩ := b2; obtain ⟨n1, n2⟩ := n; obtain ⟨t1, t2⟩ := ht; obtain ⟨B1, B2⟩ := bB
  have k1 : (t - V 3).toInt = t.toInt - (V 3).toInt := t_sub (by omega) (by omega)
  have k2 : (t + F 8 h).toInt = t.toInt + (F 8 h).toInt := t_add (by omega) (by omega)
  have k3 : (t + F 8 h - F 9 h).toInt = t.toInt + (F 8 h).toInt - (F 9 h).toInt := by rw [t_sub (by omega) (by omega), k2]
  have k4 : (t + F 8 h - F 9 h - V 3).toInt = t.toInt + (F 8 h).toInt - (F 9 h).toInt - (V 3).toInt := by rw [t_sub (by omega) (by omega), k3]
  have k5 : (i_max 0 (t + F 8 h - F 9 h - V 3) - d_sh v f h d).toInt = max 0 (t.toInt + (F 8 h).toInt - (F 9 h).toInt - (V 3).toInt) - ((F 8 h).toInt - (m_loses F (nI (d / 3)) (nI (d % 3))).toInt) := by
    rw [t_sub (by rw [t_max, k4, t_0, es]; omega) (by rw [t_max, k4, t_0, es]; omega), t_max, k4, t_0, es]
  rw [d_lo, cI_f (fun z => (tie_fb hR hB hh).mp z hs), t_max, t_max, t_max, eu, v1, e8, e9, k5, k1, t_0]
theorem tie_hi (hR : Rel v f V F) (hB : RB V F) {h d : Nat} {t : Int32} (hh : h < 24) (ht : bd t (-300) 400) (hs : stat V F h d) : (d_hi v f h t d).toInt = min (min (V 2).toInt t.toInt) (min (V 2).toInt (t.toInt + (F 8 h).toInt - (F 9 h).toInt) - ((F 8 h).toInt - (m_loses F (nI (d / 3)) (nI (d % 3))).toInt)) := by
  obtain ⟨b1, b2, b3⟩ := hB.2.2.1 h hh
  have n := b_loses hB (nI (d / 3)) (nI (d % 3))
  have es := tie_sh hR hB (d := d) hh
  obtain ⟨e8, e9, -⟩ := hR.2.2.2.1 h hh
  have v0 := hR.1.1
  have bA := hB.1
  obtain ⟨b11, b12⟩ := b1; obtain ⟨b21, b22⟩ := b2; obtain ⟨n1, n2⟩ := n; obtain ⟨t1, t2⟩ := ht; obtain ⟨A1, A2⟩ := bA
  have k2 : (t + F 8 h).toInt = t.toInt + (F 8 h).toInt := t_add (by omega) (by omega)
  have k3 : (t + F 8 h - F 9 h).toInt = t.toInt + (F 8 h).toInt - (F 9 h).toInt := by rw [t_sub (by omega) (by omega), k2]
  have k5 : (i_min (V 2) (t + F 8 h - F 9 h) - d_sh v f h d).toInt = min (V 2).toInt (t.toInt + (F 8 h).toInt - (F 9 h).toInt) - ((F 8 h).toInt - (m_loses F (nI (d / 3)) (nI (d % 3))).toInt) := by
    rw [t_sub (by rw [t_min, k3, es]; omega) (by rw [t_min, k3, es]; omega), t_min, k3, es]
  rw [d_hi, cI_f (fun z => (tie_fb hR hB hh).mp z hs), t_min, t_min, v0, e8, e9, k5]
theorem lo_fb (hR : Rel v f V F) (hB : RB V F) {h d : Nat} {t : Int32} (hh : h < 24) (hs : ¬ stat V F h d) : d_lo v f h t d = 1 := by rw [d_lo, cI_t ((tie_fb hR hB hh).mpr hs)]
theorem hi_fb (hR : Rel v f V F) (hB : RB V F) {h d : Nat} {t : Int32} (hh : h < 24) (hs : ¬ stat V F h d) : d_hi v f h t d = 0 := by rw [d_hi, cI_t ((tie_fb hR hB hh).mpr hs)]
end TIE
