/-- what both lakes hold together ahead of an hour, by the class's rows -/
def c_sum (f : Nat → Nat → Int32) (nw : Nat) (t : Int32) : Nat → Int32
  | 0 => t
  | k + 1 => c_sum f nw t k + (f 13 (nw + k) - f 14 (nw + k))
def c_sg (f : Nat → Nat → Int32) (nw : Nat) (t : Int32) (h : Nat) : Int32 := c_sum f nw t (h - nw)
theorem c_sg_0 (f : Nat → Nat → Int32) (nw : Nat) (t : Int32) : c_sg f nw t nw = t := by rw [c_sg, Nat.sub_self]; rfl
theorem c_sg_s (f : Nat → Nat → Int32) {nw h : Nat} (t : Int32) (hh : nw ≤ h) : c_sg f nw t h + (f 13 h - f 14 h) = c_sg f nw t (h + 1) := by
  rw [c_sg, c_sg, show h + 1 - nw = (h - nw) + 1 by omega]
  show _ = c_sum f nw t (h - nw) + (f 13 (nw + (h - nw)) - f 14 (nw + (h - nw)))
  rw [show nw + (h - nw) = h by omega]
/-- five rows -/
abbrev X5 : Type := (Nat → Int32) × (Nat → Int32) × (Nat → Int32) × (Nat → Int32) × (Nat → Int32)
abbrev lookX (f : Nat → Nat → Int32) (x : X5) : Nat → Nat → Int32 := look5 f x.1 x.2.1 x.2.2.1 x.2.2.2.1 x.2.2.2.2
/-- the five rows are right for the hours from nw to h -/
def seeOK (v : Nat → Int32) (f : Nat → Nat → Int32) (nw : Nat) (t : Int32) (h : Nat) (x : X5) : Prop := ∀ h' d, nw ≤ h' → h' < h → d < 9 → x.1 (h' * 9 + d) = d_en v d ∧ x.2.1 (h' * 9 + d) = d_sh v f h' d ∧ x.2.2.1 (h' * 9 + d) = d_sl v f h' d ∧ x.2.2.2.1 (h' * 9 + d) = d_lo v f h' (c_sg f nw t h') d ∧ x.2.2.2.2 (h' * 9 + d) = d_hi v f h' (c_sg f nw t h') d
theorem rowH_in {g s : Nat → Int32} {a n d : Nat} (h : d < n) : rowH g a n s (a + d) = s d := by
  show (if a ≤ a + d ∧ a + d < a + n then s (a + d - a) else g (a + d)) = s d
  rw [if_pos (by omega), show a + d - a = d by omega]
theorem rowH_out {g s : Nat → Int32} {a n j : Nat} (h : j < a ∨ a + n ≤ j) : rowH g a n s j = g j := if_neg (by omega)
theorem seeOK_s {v : Nat → Int32} {f : Nat → Nat → Int32} {nw h : Nat} {t : Int32} {x : X5} (hx : seeOK v f nw t h x) (hh : nw ≤ h) : seeOK v f nw t (h + 1) (rowH x.1 (h * 9) 9 (d_en v), rowH x.2.1 (h * 9) 9 (d_sh v f h), rowH x.2.2.1 (h * 9) 9 (d_sl v f h), rowH x.2.2.2.1 (h * 9) 9 (d_lo v f h (c_sg f nw t h)), rowH x.2.2.2.2 (h * 9) 9 (d_hi v f h (c_sg f nw t h))) := by
  intro h' d h1 h2 h3
  by_cases e : h' = h
  · subst e
    exact ⟨rowH_in h3, rowH_in h3, rowH_in h3, rowH_in h3, rowH_in h3⟩
  · have q : h' * 9 + d < h * 9 ∨ h * 9 + 9 ≤ h' * 9 + d := by omega
    have k := hx h' d h1 (by omega) h3
    exact ⟨(rowH_out q).trans k.1, (rowH_out q).trans k.2.1, (rowH_out q).trans k.2.2.1, (rowH_out q).trans k.2.2.2.1, (rowH_out q).trans k.2.2.2.2⟩
