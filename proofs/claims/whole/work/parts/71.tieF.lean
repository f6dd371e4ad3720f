section TIEF
variable {v v' : Nat → Int32} {f f' : Nat → Nat → Int32} {V : Nat → Int32} {F : Nat → Nat → Int32} {nw rv up lo m0 m1 : Nat}
/-- what is known of the plan is right -/
def kW (V : Nat → Int32) (F : Nat → Nat → Int32) (nw rv lo m0 m1 : Nat) (g : Nat → Int32) : Prop := ∀ u : Nat, u ≤ 40 → (u : Int) ≤ (V 2).toInt → g u = unk ∨ g u = mA V F (m_sg F nw (nI (u + lo))) rv (24 - nw) (9 * u + 3 * m0 + m1)
def kD (V : Nat → Int32) (F : Nat → Nat → Int32) (nw rv up lo m0 m1 : Nat) (g : Nat → Int32) : Prop := (nw < rv → g 0 = unk ∨ ∀ w, g 0 = n_doing V F nw rv w (nI (up + lo)) (9 * up + 3 * m0 + m1)) ∧ (rv ≤ nw → nw < 24 → ∀ w, w < 3 → g w = unk ∨ g w = n_doing V F nw rv w (nI (up + lo)) (9 * up + 3 * m0 + m1))
/-- class and reference are at one -/
def CI (v : Nat → Int32) (f : Nat → Nat → Int32) (V : Nat → Int32) (F : Nat → Nat → Int32) (nw rv up lo m0 m1 : Nat) : Prop := Rel v f V F ∧ RB V F ∧ mInv V F nw rv up lo m0 m1 ∧ (up : Int) ≤ (V 2).toInt ∧ (lo : Int) ≤ (V 3).toInt ∧ kW V F nw rv lo m0 m1 (f 11) ∧ kD V F nw rv up lo m0 m1 (f 12)
theorem CI_nat (h : CI v f V F nw rv up lo m0 m1) : v 32 = nI nw ∧ nw ≤ 24 ∧ v 30 = nI rv ∧ rv ≤ 24 ∧ v 4 = nI up ∧ up ≤ 40 ∧ v 5 = nI lo ∧ lo ≤ 40 ∧ v 15 = nI m0 ∧ m0 < 3 ∧ v 25 = nI m1 ∧ m1 < 3 := by
  obtain ⟨⟨⟨-, -, -, -, e4, e5, e30, -, e32, -⟩, ⟨-, -, -, -, -, e15, -⟩, ⟨-, -, -, -, -, e25, -⟩, -⟩, -, ⟨i1, i2, i3, i4, -, -, i7, i8, i9, i10, i11, i12, i13, i14⟩, -⟩ := h
  exact ⟨e32.trans i1, i2, e30.trans i3, i4, e4.trans i7, i8, e5.trans i9, i10, e15.trans i11, i12, e25.trans i13, i14⟩
theorem bd_t {u lo : Nat} (hu : u ≤ 40) (hl : lo ≤ 40) : bd (nI (u + lo)) 0 80 := by
  unfold bd; rw [nI_toInt (by omega)]; omega
theorem CI_op (h : CI v f V F nw rv up lo m0 m1) {u : Nat} (hu : u ≤ 40) : ∀ h d, nw ≤ h → h < 24 → d < 9 → opOK (cF v f nw (nI (u + lo))) h d := by
  intro h' d h1 h2 h3
  obtain ⟨hR, hB, hI, -⟩ := h
  have hl := hI.2.2.2.2.2.2.2.2.2.1
  have hn := hI.2.1
  exact tie_op hR hB h2 h3 (by rw [tie_sg hR (by omega) (by omega)]; exact b_sg hB (bd_t hu hl) (by omega) hn)
theorem CI_vld (h : CI v f V F nw rv up lo m0 m1) {u : Nat} (hu : u ≤ 40) (hA : (u : Int) ≤ (V 2).toInt) : vld V (nI (u + lo)) u := by
  obtain ⟨-, -, hI, -, hl, -⟩ := h
  have hl40 := hI.2.2.2.2.2.2.2.2.2.1
  refine ⟨hu, hA, ?_, ?_⟩
  · rw [nI_toInt (by omega)]; omega
  · rw [nI_toInt (by omega)]; omega
theorem Rel_same (hR : Rel v f V F) (hv : ∀ k, ¬ k = 43 → v' k = v k) (hf : ∀ k, (k < 18 ∧ ¬ k = 11 ∧ ¬ k = 12) ∨ (24 ≤ k ∧ k < 27) → f' k = f k) : Rel v' f' V F := by
  unfold Rel at hR ⊢
  rw [hv 0 (by decide), hv 1 (by decide), hv 2 (by decide), hv 3 (by decide), hv 4 (by decide), hv 5 (by decide), hv 30 (by decide), hv 31 (by decide), hv 32 (by decide), hv 33 (by decide), hv 10 (by decide), hv 11 (by decide), hv 12 (by decide), hv 13 (by decide), hv 14 (by decide), hv 15 (by decide), hv 16 (by decide), hv 20 (by decide), hv 21 (by decide), hv 22 (by decide), hv 23 (by decide), hv 24 (by decide), hv 25 (by decide), hv 26 (by decide), hv 40 (by decide), hv 41 (by decide), hv 42 (by decide), hf 13 (by omega), hf 14 (by omega), hf 15 (by omega), hf 16 (by omega), hf 17 (by omega), hf 10 (by omega)]
  obtain ⟨h1, h2, h3, h4, h5, h6, h7⟩ := hR
  refine ⟨h1, h2, h3, h4, h5, fun w h hw hh => ?_, h7⟩
  rw [hf (24 + w) (by omega)]
  exact h6 w h hw hh
theorem CI_w (h : CI v f V F nw rv up lo m0 m1) (hv : ∀ k, ¬ k = 43 → v' k = v k) (hf : ∀ k, (k < 18 ∧ ¬ k = 11) ∨ (24 ≤ k ∧ k < 27) → f' k = f k) {u : Nat} {x : Int32} (hx : x = mA V F (m_sg F nw (nI (u + lo))) rv (24 - nw) (9 * u + 3 * m0 + m1)) (h11 : f' 11 = f 11 ∨ f' 11 = upd (f 11) u x) : CI v' f' V F nw rv up lo m0 m1 := by
  obtain ⟨hR, hB, hI, hA, hL, hW, hD⟩ := h
  refine ⟨Rel_same hR hv (fun k hk => hf k (by omega)), hB, hI, hA, hL, ?_, ?_⟩
  · rcases h11 with e | e
    · rw [e]; exact hW
    · rw [e]
      intro u' h1 h2
      by_cases q : u' = u
      · subst q; refine Or.inr ?_; show (if u' = u' then x else _) = _; rw [if_pos rfl, hx]
      · show (if u' = u then x else f 11 u') = _ ∨ (if u' = u then x else f 11 u') = _
        rw [if_neg q]; exact hW u' h1 h2
  · rw [hf 12 (by omega)]; exact hD
theorem CI_d (h : CI v f V F nw rv up lo m0 m1) (hv : ∀ k, ¬ k = 43 → v' k = v k) (hf : ∀ k, (k < 18 ∧ ¬ k = 12) ∨ (24 ≤ k ∧ k < 27) → f' k = f k) {w0 : Nat} {x : Int32} (hx : x = n_doing V F nw rv w0 (nI (up + lo)) (9 * up + 3 * m0 + m1)) (h12 : f' 12 = f 12 ∨ f' 12 = upd (f 12) (if nw < rv then 0 else w0) x) : CI v' f' V F nw rv up lo m0 m1 := by
  obtain ⟨hR, hB, hI, hA, hL, hW, hD⟩ := h
  refine ⟨Rel_same hR hv (fun k hk => hf k (by omega)), hB, hI, hA, hL, ?_, ?_⟩
  · rw [hf 11 (by omega)]; exact hW
  · rcases h12 with e | e
    · rw [e]; exact hD
    · rw [e]
      refine ⟨fun q => Or.inr (fun w => ?_), fun q q2 w hw => ?_⟩
      · rw [if_pos q]
        show (if 0 = 0 then x else _) = _
        rw [if_pos rfl, hx, n_doing, n_doing, if_neg (by omega), if_neg (by omega)]
      · rw [if_neg (by omega)]
        by_cases c : w = w0
        · subst c; refine Or.inr ?_; show (if w = w then x else _) = _; rw [if_pos rfl, hx]
        · show (if w = w0 then x else f 12 w) = _ ∨ (if w = w0 then x else f 12 w) = _
          rw [if_neg c]; exact hD.2 q q2 w hw
/-- the class's values and choices, as the reference has them -/
theorem CI_worth (h : CI v f V F nw rv up lo m0 m1) {u : Nat} (hu : u ≤ 40) (hA : (u : Int) ≤ (V 2).toInt) : cAV v f nw rv (nI (u + lo)) (u * 9 + (m0 * 3 + m1)) = mA V F (m_sg F nw (nI (u + lo))) rv (24 - nw) (9 * u + 3 * m0 + m1) := by
  obtain ⟨-, hn, -, hr, -, -, -, hl40, -, h03, -, h13⟩ := CI_nat h
  rw [tie_cAV h.1 h.2.1 hn hr (bd_t hu hl40) u (m0 * 3 + m1) (CI_vld h hu hA) (by omega), show 9 * u + (m0 * 3 + m1) = 9 * u + 3 * m0 + m1 by omega]
theorem CI_doA (h : CI v f V F nw rv up lo m0 m1) (hlt : nw < rv) (w : Nat) : cAC v f nw rv (nI (up + lo)) (up * 9 + (m0 * 3 + m1)) = n_doing V F nw rv w (nI (up + lo)) (9 * up + 3 * m0 + m1) := by
  obtain ⟨-, hn, -, hr, -, hu, -, hl40, -, h03, -, h13⟩ := CI_nat h
  rw [tie_cAC h.1 h.2.1 hlt hr (bd_t hu hl40) up (m0 * 3 + m1) (CI_vld h hu h.2.2.2.1) (by omega), n_doing, if_neg (by omega), show 9 * up + (m0 * 3 + m1) = 9 * up + 3 * m0 + m1 by omega]
theorem CI_doW (h : CI v f V F nw rv up lo m0 m1) (hle : rv ≤ nw) (hn24 : nw < 24) {w : Nat} (hw : w < 3) : wCho v f nw rv (nI (up + lo)) w (up * 9 + (m0 * 3 + m1)) = n_doing V F nw rv w (nI (up + lo)) (9 * up + 3 * m0 + m1) := by
  obtain ⟨-, hn, -, hr, -, hu, -, hl40, -, h03, -, h13⟩ := CI_nat h
  rw [tie_wCho h.1 h.2.1 hn24 hle hw (bd_t hu hl40) up (m0 * 3 + m1) (CI_vld h hu h.2.2.2.1) (by omega), n_doing, if_pos hle, show 9 * up + (m0 * 3 + m1) = 9 * up + 3 * m0 + m1 by omega]
end TIEF
