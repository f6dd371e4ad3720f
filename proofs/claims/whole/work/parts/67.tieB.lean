section TIEB
variable {v : Nat → Int32} {f : Nat → Nat → Int32} {V : Nat → Int32} {F : Nat → Nat → Int32}
/-- a level that is a level, what both hold together being t -/
def vld (V : Nat → Int32) (t : Int32) (u : Nat) : Prop := u ≤ 40 ∧ (u : Int) ≤ (V 2).toInt ∧ (u : Int) ≤ t.toInt ∧ t.toInt - u ≤ (V 3).toInt
theorem fits_iff (hB : RB V F) {h u d : Nat} {t : Int32} (hh : h < 24) (ht : bd t (-300) 400) (hu : u ≤ 40) : m_fits V F h (nI u) (t - nI u) (nI (d / 3)) (nI (d % 3)) ↔ ((0 ≤ (u : Int) + (F 8 h).toInt - (m_loses F (nI (d / 3)) (nI (d % 3))).toInt ∧ (u : Int) + (F 8 h).toInt - (m_loses F (nI (d / 3)) (nI (d % 3))).toInt ≤ (V 2).toInt) ∧ (0 ≤ t.toInt - u + (m_loses F (nI (d / 3)) (nI (d % 3))).toInt - (F 9 h).toInt ∧ t.toInt - u + (m_loses F (nI (d / 3)) (nI (d % 3))).toInt - (F 9 h).toInt ≤ (V 3).toInt) ∧ max ((F 8 h).toInt - (m_loses F (nI (d / 3)) (nI (d % 3))).toInt) ((m_loses F (nI (d / 3)) (nI (d % 3))).toInt - (F 8 h).toInt) ≤ (V 6).toInt ∧ max ((m_loses F (nI (d / 3)) (nI (d % 3))).toInt - (F 9 h).toInt) ((F 9 h).toInt - (m_loses F (nI (d / 3)) (nI (d % 3))).toInt) ≤ (V 7).toInt) := by
  obtain ⟨b1, b2, b3⟩ := hB.2.2.1 h hh
  have n := b_loses hB (nI (d / 3)) (nI (d % 3))
  obtain ⟨b11, b12⟩ := b1; obtain ⟨b21, b22⟩ := b2; obtain ⟨n1, n2⟩ := n; obtain ⟨t1, t2⟩ := ht
  have eu : (nI u).toInt = u := nI_toInt (by omega)
  have k0 : (nI u + F 8 h).toInt = u + (F 8 h).toInt := by rw [t_add (by omega) (by omega), eu]
  have k1 : (nI u + F 8 h - m_loses F (nI (d / 3)) (nI (d % 3))).toInt = u + (F 8 h).toInt - (m_loses F (nI (d / 3)) (nI (d % 3))).toInt := by rw [t_sub (by omega) (by omega), k0]
  have k2 : (t - nI u).toInt = t.toInt - u := by rw [t_sub (by omega) (by omega), eu]
  have k3 : (t - nI u + m_loses F (nI (d / 3)) (nI (d % 3))).toInt = t.toInt - u + (m_loses F (nI (d / 3)) (nI (d % 3))).toInt := by rw [t_add (by omega) (by omega), k2]
  have k4 : (t - nI u + m_loses F (nI (d / 3)) (nI (d % 3)) - F 9 h).toInt = t.toInt - u + (m_loses F (nI (d / 3)) (nI (d % 3))).toInt - (F 9 h).toInt := by rw [t_sub (by omega) (by omega), k3]
  unfold m_fits
  rw [t_in, t_in, t_nlt, t_nlt, t_far (by omega) (by omega), t_far (by omega) (by omega), k1, k2, k4, eu, t_0]
  constructor
  · rintro ⟨h1, h2, h3, h4⟩
    exact ⟨h1, h2, by omega, by omega⟩
  · rintro ⟨h1, h2, h3, h4⟩
    exact ⟨h1, h2, by omega, by omega⟩
theorem res_iff (hB : RB V F) {h u d : Nat} (hu : u ≤ 40) : m_reserved F h (nI u) (nI (d / 3)) (nI (d % 3)) ↔ (F 10 h = 0 ∨ ((F 10 h).toInt ≤ (m_power F 0 h (nI (d / 3))).toInt + (m_power F 1 h (nI (d % 3))).toInt ∧ (m_units F 0 h (nI (d / 3))).toInt + (m_units F 1 h (nI (d % 3))).toInt ≤ u)) := by
  have p0 := b_power hB (k := 0) (h := h) (by decide) (nI (d / 3))
  have p1 := b_power hB (k := 1) (h := h) (by decide) (nI (d % 3))
  have q0 := b_units hB (k := 0) (h := h) (by decide) (nI (d / 3))
  have q1 := b_units hB (k := 1) (h := h) (by decide) (nI (d % 3))
  obtain ⟨p01, p02⟩ := p0; obtain ⟨p11, p12⟩ := p1; obtain ⟨q01, q02⟩ := q0; obtain ⟨q11, q12⟩ := q1
  unfold m_reserved
  rw [t_nlt, t_nlt, t_add (by omega) (by omega), t_add (by omega) (by omega), nI_toInt (by omega)]
theorem may_iff {h m d : Nat} : (m_mayGo F 0 h (nI (m / 3)) (nI (d / 3)) ∧ m_mayGo F 1 h (nI (m % 3)) (nI (d % 3))) ↔ (kFol m d ∧ (nI (d / 3) = 0 ∨ F 16 h = 0) ∧ (nI (d % 3) = 0 ∨ F 16 (24 + h) = 0)) := by
  unfold m_mayGo
  rw [show 24 * 0 + h = h by omega, show 24 * 1 + h = 24 + h by omega]
  constructor
  · rintro ⟨⟨a, b⟩, c, e⟩; exact ⟨⟨b, e⟩, a, c⟩
  · rintro ⟨⟨b, e⟩, a, c⟩; exact ⟨⟨a, b⟩, c, e⟩
theorem tie_legal (hR : Rel v f V F) (hB : RB V F) {h u m d : Nat} {t : Int32} (hh : h < 24) (ht : bd t (-300) 400) (hv : vld V t u) : m_legal V F h (nI u) (t - nI u) (nI (m / 3)) (nI (m % 3)) (nI (d / 3)) (nI (d % 3)) ↔ (kFol m d ∧ ¬ nI u < d_lo v f h t d ∧ ¬ d_hi v f h t d < nI u) := by
  obtain ⟨hu, g1, g2, g3⟩ := hv
  have eu : (nI u).toInt = u := nI_toInt (by omega)
  have b3 := (hB.2.2.1 h hh).2.2
  have p0 := b_power hB (k := 0) (h := h) (by decide) (nI (d / 3))
  have p1 := b_power hB (k := 1) (h := h) (by decide) (nI (d % 3))
  obtain ⟨p01, p02⟩ := p0; obtain ⟨p11, p12⟩ := p1; obtain ⟨b31, b32⟩ := b3
  have L : m_legal V F h (nI u) (t - nI u) (nI (m / 3)) (nI (m % 3)) (nI (d / 3)) (nI (d % 3)) ↔ (m_fits V F h (nI u) (t - nI u) (nI (d / 3)) (nI (d % 3)) ∧ (m_mayGo F 0 h (nI (m / 3)) (nI (d / 3)) ∧ m_mayGo F 1 h (nI (m % 3)) (nI (d % 3))) ∧ m_reserved F h (nI u) (nI (d / 3)) (nI (d % 3))) := by
    unfold m_legal
    exact ⟨fun ⟨a, b, c, e⟩ => ⟨a, ⟨b, c⟩, e⟩, fun ⟨a, ⟨b, c⟩, e⟩ => ⟨a, b, c, e⟩⟩
  rw [L, fits_iff hB hh ht hu, may_iff, res_iff hB hu, t_nlt, t_nlt, eu]
  by_cases hs : stat V F h d
  · rw [tie_lo hR hB hh ht hs, tie_hi hR hB hh ht hs]
    obtain ⟨s1, s2, s3, s4⟩ := hs
    unfold unI
    constructor
    · rintro ⟨⟨f1, f2, f3, f4⟩, ⟨fo, -⟩, re⟩
      refine ⟨fo, ?_, by omega⟩
      by_cases q : F 10 h = 0
      · rw [if_pos q]; omega
      · rw [if_neg q]
        have := (re.resolve_left q).2
        omega
    · rintro ⟨fo, l1, l2⟩
      refine ⟨⟨?_, ?_, s2, s3⟩, ⟨fo, s1⟩, ?_⟩
      · omega
      · omega
      · by_cases q : F 10 h = 0
        · exact Or.inl q
        · rw [if_neg q] at l1
          exact Or.inr ⟨s4, by omega⟩
  · rw [lo_fb hR hB hh hs, hi_fb hR hB hh hs, t_0, t_1]
    constructor
    · rintro ⟨⟨f1, f2, f3, f4⟩, ⟨fo, ca⟩, re⟩
      exfalso
      refine hs ⟨ca, f3, f4, ?_⟩
      rcases re with q | q
      · rw [q, t_0]; omega
      · exact q.1
    · rintro ⟨fo, l1, l2⟩
      exfalso; omega
/-- the doings' rows are such that the plan stays within them -/
theorem tie_op (hR : Rel v f V F) (hB : RB V F) {nw h d : Nat} {t : Int32} (hh : h < 24) (hd : d < 9) (ht : bd (c_sg f nw t h) (-300) 400) : opOK (cF v f nw t) h d := by
  have e9 : (h * 9 + d) / 9 = h := by omega
  have em : (h * 9 + d) % 9 = d := by omega
  have k19 : cF v f nw t 19 (h * 9 + d) = d_sh v f h d := by show d_sh v f ((h * 9 + d) / 9) ((h * 9 + d) % 9) = _; rw [e9, em]
  have k21 : cF v f nw t 21 (h * 9 + d) = d_lo v f h (c_sg f nw t h) d := by show d_lo v f ((h * 9 + d) / 9) (c_sg f nw t ((h * 9 + d) / 9)) ((h * 9 + d) % 9) = _; rw [e9, em]
  have k22 : cF v f nw t 22 (h * 9 + d) = d_hi v f h (c_sg f nw t h) d := by show d_hi v f ((h * 9 + d) / 9) (c_sg f nw t ((h * 9 + d) / 9)) ((h * 9 + d) % 9) = _; rw [e9, em]
  unfold opOK opn
  rw [k19, k21, k22]
  have n := b_loses hB (nI (d / 3)) (nI (d % 3))
  obtain ⟨b1, b2, b3⟩ := hB.2.2.1 h hh
  obtain ⟨b11, b12⟩ := b1; obtain ⟨n1, n2⟩ := n
  have bA := hB.1
  obtain ⟨A1, A2⟩ := bA
  by_cases hs : stat V F h d
  · have e1 := tie_lo hR hB hh ht hs
    have e2 := tie_hi hR hB hh ht hs
    have e3 := tie_sh hR hB (d := d) hh
    refine ⟨?_, by rw [e2]; omega, fun L hL hp => ?_⟩
    · rw [t_nlt, e1, t_0]; omega
    · rw [t_nlt, t_nlt, e1, e2, nI_toInt (by omega)] at hp
      have k : (nI L + d_sh v f h d).toInt = L + (d_sh v f h d).toInt := by rw [t_add (by rw [nI_toInt (by omega)]; omega) (by rw [nI_toInt (by omega)]; omega), nI_toInt (by omega)]
      have hnn : ¬ (nI L + d_sh v f h d) < 0 := by rw [t_nlt, k, t_0]; omega
      obtain ⟨j, hj, e⟩ := nI_of hnn
      refine ⟨j, ?_, e⟩
      rw [e, nI_toInt hj] at k
      omega
  · rw [lo_fb hR hB hh hs, hi_fb hR hB hh hs]
    refine ⟨by decide, by decide, fun L hL hp => ?_⟩
    exfalso
    rw [t_nlt, t_nlt, t_0, t_1, nI_toInt (by omega)] at hp
    omega
/-- what both hold together is the same, and small -/
theorem tie_sum (hR : Rel v f V F) {nw : Nat} {t : Int32} (k : Nat) (hk : nw + k ≤ 24) : c_sum f nw t k = m_sum F nw t k := by
  induction k with
  | zero => rfl
  | succ k ih =>
    show c_sum f nw t k + (f 13 (nw + k) - f 14 (nw + k)) = m_sum F nw t k + F 8 (nw + k) - F 9 (nw + k)
    obtain ⟨e8, e9, -⟩ := hR.2.2.2.1 (nw + k) (by omega)
    rw [ih (by omega), e8, e9, i_asb]
theorem tie_sg (hR : Rel v f V F) {nw h : Nat} {t : Int32} (hh : h ≤ 24) (hn : nw ≤ 24) : c_sg f nw t h = m_sg F nw t h := by
  rw [c_sg, m_sg]; exact tie_sum hR (h - nw) (by omega)
theorem b_sum (hB : RB V F) {nw : Nat} {t : Int32} (ht : bd t 0 80) (k : Nat) (hk : nw + k ≤ 24) : bd (m_sum F nw t k) (-(9 * k)) (80 + 9 * k) := by
  induction k with
  | zero => exact ⟨by have := ht.1; show _ ≤ t.toInt; omega, by have := ht.2; show t.toInt ≤ _; omega⟩
  | succ k ih =>
    obtain ⟨b1, b2, -⟩ := hB.2.2.1 (nw + k) (by omega)
    obtain ⟨i1, i2⟩ := ih (by omega)
    obtain ⟨b11, b12⟩ := b1; obtain ⟨b21, b22⟩ := b2
    show bd (m_sum F nw t k + F 8 (nw + k) - F 9 (nw + k)) _ _
    have e1 : (m_sum F nw t k + F 8 (nw + k)).toInt = (m_sum F nw t k).toInt + (F 8 (nw + k)).toInt := t_add (by omega) (by omega)
    unfold bd
    rw [t_sub (by omega) (by omega), e1]
    omega
theorem b_sg (hB : RB V F) {nw h : Nat} {t : Int32} (ht : bd t 0 80) (hh : h ≤ 24) (hn : nw ≤ 24) : bd (m_sg F nw t h) (-300) 400 := by
  obtain ⟨a, b⟩ := b_sum (nw := nw) hB ht (h - nw) (by omega)
  exact ⟨by rw [m_sg]; omega, by rw [m_sg]; omega⟩
end TIEB
