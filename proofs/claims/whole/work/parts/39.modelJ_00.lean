theorem n_do9_ok {g : Nat → Nat → Int32} {x : Int32} (h : n_do9 g = x) (h0 : 0 ≤ x) : ∃ k : Nat, k < 9 ∧ x = nI k ∧ ¬ g (k / 3) (k % 3) = nev := by
  by_cases hb : m_b9 g = nev
  · rw [n_do9, if_pos hb] at h
    rw [← h] at h0
    exact absurd h0 (by decide)
  rw [n_do9, if_neg hb] at h
  by_cases c0 : g 0 0 = m_b9 g
  · rw [if_pos c0] at h
    exact ⟨0, by decide, h.symm, fun e => hb (c0.symm.trans e)⟩
  rw [if_neg c0] at h
  by_cases c1 : g 0 1 = m_b9 g
  · rw [if_pos c1] at h
    exact ⟨1, by decide, h.symm, fun e => hb (c1.symm.trans e)⟩
  rw [if_neg c1] at h
  by_cases c2 : g 0 2 = m_b9 g
  · rw [if_pos c2] at h
    exact ⟨2, by decide, h.symm, fun e => hb (c2.symm.trans e)⟩
  rw [if_neg c2] at h
  by_cases c3 : g 1 0 = m_b9 g
  · rw [if_pos c3] at h
    exact ⟨3, by decide, h.symm, fun e => hb (c3.symm.trans e)⟩
  rw [if_neg c3] at h
  by_cases c4 : g 1 1 = m_b9 g
  · rw [if_pos c4] at h
    exact ⟨4, by decide, h.symm, fun e => hb (c4.symm.trans e)⟩
  rw [if_neg c4] at h
  by_cases c5 : g 1 2 = m_b9 g
  · rw [if_pos c5] at h
    exact ⟨5, by decide, h.symm, fun e => hb (c5.symm.trans e)⟩
  rw [if_neg c5] at h
  by_cases c6 : g 2 0 = m_b9 g
  · rw [if_pos c6] at h
    exact ⟨6, by decide, h.symm, fun e => hb (c6.symm.trans e)⟩
  rw [if_neg c6] at h
  by_cases c7 : g 2 1 = m_b9 g
  · rw [if_pos c7] at h
    exact ⟨7, by decide, h.symm, fun e => hb (c7.symm.trans e)⟩
  rw [if_neg c7] at h
  by_cases c8 : g 2 2 = m_b9 g
  · rw [if_pos c8] at h
    exact ⟨8, by decide, h.symm, fun e => hb (c8.symm.trans e)⟩
  rw [if_neg c8] at h
  rw [← h] at h0
  exact absurd h0 (by decide)
theorem m_br_leg {v : Nat → Int32} {f : Nat → Nat → Int32} {h s a b : Nat} {t : Int32} {nx : Nat → Int32} {fin : Int32 → Int32} (hn : ¬ m_br v f h s t a b nx fin = nev) : m_leg v f h s t a b :=
  Classical.byContradiction fun q => hn (by rw [m_br]; exact if_neg q)
theorem n_doing_ok {v : Nat → Int32} {f : Nat → Nat → Int32} {nw rv w s : Nat} {t x : Int32} (h : n_doing v f nw rv w t s = x) (h0 : 0 ≤ x) : ∃ k : Nat, k < 9 ∧ x = nI k ∧ m_leg v f nw s t (k / 3) (k % 3) := by
  by_cases q : rv ≤ nw
  · rw [n_doing, if_pos q] at h
    obtain ⟨k, h1, h2, h3⟩ := n_do9_ok h h0
    exact ⟨k, h1, h2, m_br_leg h3⟩
  · rw [n_doing, if_neg q] at h
    obtain ⟨k, h1, h2, h3⟩ := n_do9_ok h h0
    exact ⟨k, h1, h2, m_br_leg h3⟩
theorem i_asb (a b c : Int32) : a + (b - c) = a + b - c := by
  rw [Int32.sub_eq_add_neg, Int32.sub_eq_add_neg, Int32.add_assoc]
/-- the numbers of the reference are such as they can be -/
def mInv (v : Nat → Int32) (f : Nat → Nat → Int32) (nw rv up lo m0 m1 : Nat) : Prop := v 1 = nI nw ∧ nw ≤ 24 ∧ v 19 = nI rv ∧ rv ≤ 24 ∧ (v 2).toInt ≤ 40 ∧ (v 3).toInt ≤ 40 ∧ v 4 = nI up ∧ up ≤ 40 ∧ v 5 = nI lo ∧ lo ≤ 40 ∧ f 21 0 = nI m0 ∧ m0 < 3 ∧ f 21 1 = nI m1 ∧ m1 < 3
theorem mInv_does {v : Nat → Int32} {f : Nat → Nat → Int32} {nw rv up lo m0 m1 w : Nat} {a b : Nat} (h : mInv v f nw rv up lo m0 m1) (hn : nw < 24) (ha : a < 3) (hb : b < 3) (hl : m_legal v f nw (v 4) (v 5) (f 21 0) (f 21 1) (nI a) (nI b)) : ∃ up' lo' : Nat, mInv (d_v v f nw w (nI a) (nI b)) (d_f f (nI a) (nI b)) (nw + 1) rv up' lo' a b := by
  obtain ⟨h1, h2, h3, h4, h5, h6, h7, h8, h9, h10, h11, h12, h13, h14⟩ := h
  obtain ⟨e1, e2⟩ := in_nat hl.1.1 h5
  obtain ⟨e3, e4⟩ := in_nat hl.1.2.1 h6
  refine ⟨_, _, rfl, by omega, h3, h4, h5, h6, ?_, e2, ?_, e4, rfl, ha, rfl, hb⟩
  · show v 4 + (f 8 nw - m_loses f (nI a) (nI b)) = _
    rw [i_asb]; exact e1
  · show v 5 + (m_loses f (nI a) (nI b) - f 9 nw) = _
    rw [i_asb]; exact e3
/-- the state of the reference, its sum -/
theorem m_leg_now {v : Nat → Int32} {f : Nat → Nat → Int32} {nw rv up lo m0 m1 a b : Nat} (h : mInv v f nw rv up lo m0 m1) (hl : m_leg v f nw (9 * up + 3 * m0 + m1) (nI (up + lo)) a b) : m_legal v f nw (v 4) (v 5) (f 21 0) (f 21 1) (nI a) (nI b) := by
  obtain ⟨h1, h2, h3, h4, h5, h6, h7, h8, h9, h10, h11, h12, h13, h14⟩ := h
  have hl : m_legal v f nw (nI ((9 * up + 3 * m0 + m1) / 9)) (nI (up + lo) - nI ((9 * up + 3 * m0 + m1) / 9)) (nI (((9 * up + 3 * m0 + m1) / 3) % 3)) (nI ((9 * up + 3 * m0 + m1) % 3)) (nI a) (nI b) := hl
  rw [show (9 * up + 3 * m0 + m1) / 9 = up by omega, show ((9 * up + 3 * m0 + m1) / 3) % 3 = m0 by omega, show (9 * up + 3 * m0 + m1) % 3 = m1 by omega, pk_sub (by omega), show up + lo - up = lo by omega] at hl
  rw [h7, h9, h11, h13]; exact hl
abbrev nwO (v : Nat → Int32) : Nat := (v 1).toNatClampNeg
noncomputable def n_D (v : Nat → Int32) (f : Nat → Nat → Int32) (w : Nat) : Int32 := n_doing v f (v 1).toNatClampNeg (v 19).toNatClampNeg w (nI ((v 4).toNatClampNeg + (v 5).toNatClampNeg)) (9 * (v 4).toNatClampNeg + 3 * (f 21 0).toNatClampNeg + (f 21 1).toNatClampNeg)
theorem n_D_eq {v : Nat → Int32} {f : Nat → Nat → Int32} {nw rv up lo m0 m1 : Nat} (h : mInv v f nw rv up lo m0 m1) (w : Nat) : n_D v f w = n_doing v f nw rv w (nI (up + lo)) (9 * up + 3 * m0 + m1) := by
  obtain ⟨h1, h2, h3, h4, h5, h6, h7, h8, h9, h10, h11, h12, h13, h14⟩ := h
  rw [n_D, h1, h3, h7, h9, h11, h13, nI_clamp (by omega), nI_clamp (by omega), nI_clamp (by omega), nI_clamp (by omega), nI_clamp (by omega), nI_clamp (by omega)]
theorem nwO_eq {v : Nat → Int32} {f : Nat → Nat → Int32} {nw rv up lo m0 m1 : Nat} (h : mInv v f nw rv up lo m0 m1) : nwO v = nw := by
  rw [nwO, h.1, nI_clamp (by have := h.2.1; omega)]
/-- so many hours of the best plan -/
noncomputable def n_run (w : Nat) : Nat → (Nat → Int32) → (Nat → Nat → Int32) → Nat × (Nat → Int32) × (Nat → Nat → Int32)
  | 0 => fun v f => (0, v, f)
  | k + 1 => fun v f => if nwO v < 24 ∧ 0 ≤ n_D v f w then (let r := n_run w k (d_v v f (nwO v) w (n_D v f w / 3) (n_D v f w - n_D v f w / 3 * 3)) (d_f f (n_D v f w / 3) (n_D v f w - n_D v f w / 3 * 3)); (r.1 + 1, r.2)) else (0, v, f)
theorem n_run_stop {w k : Nat} {v : Nat → Int32} {f : Nat → Nat → Int32} (h : ¬ (nwO v < 24 ∧ 0 ≤ n_D v f w)) : n_run w k v f = (0, v, f) := by
  cases k with
  | zero => rfl
  | succ k => exact if_neg h
theorem n_run_go {w k : Nat} {v : Nat → Int32} {f : Nat → Nat → Int32} (h : nwO v < 24 ∧ 0 ≤ n_D v f w) : n_run w (k + 1) v f = ((n_run w k (d_v v f (nwO v) w (n_D v f w / 3) (n_D v f w - n_D v f w / 3 * 3)) (d_f f (n_D v f w / 3) (n_D v f w - n_D v f w / 3 * 3))).1 + 1, (n_run w k (d_v v f (nwO v) w (n_D v f w / 3) (n_D v f w - n_D v f w / 3 * 3)) (d_f f (n_D v f w / 3) (n_D v f w - n_D v f w / 3 * 3))).2) := if_pos h
