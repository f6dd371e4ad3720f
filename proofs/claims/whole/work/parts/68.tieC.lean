/-- the best of so many, the first that is best -/
noncomputable def bst (g : Nat → Int32) : Nat → I2
  | 0 => (nev, -1)
  | n + 1 => cI ((bst g n).1 < g n) (g n, nI n) (bst g n)
theorem bst_s (g : Nat → Int32) (n : Nat) : bst g (n + 1) = cI ((bst g n).1 < g n) (g n, nI n) (bst g n) := rfl
theorem bst_ge (g : Nat → Int32) (n : Nat) : nev.toInt ≤ (bst g n).1.toInt := by
  induction n with
  | zero => exact Int.le_refl _
  | succ n ih =>
    rw [bst_s]
    by_cases h : (bst g n).1 < g n
    · rw [cI_t h]; have := t_lt.mp h; show _ ≤ (g n).toInt; omega
    · rw [cI_f h]; exact ih
theorem bst_mx (g : Nat → Int32) (n : Nat) : (bst g (n + 1)).1 = m_mx (g n) (bst g n).1 := by
  rw [bst_s]
  by_cases h : (bst g n).1 < g n
  · rw [cI_t h]; exact m_mx_gt (fun z => not_lt_le z h)
  · rw [cI_f h]; exact m_mx_le (Classical.byContradiction fun z => h (lt_of_nle z))
theorem bst_b9 (g : Nat → Nat → Int32) : (bst (fun d => g (d / 3) (d % 3)) 9).1 = m_b9 g := by
  rw [bst_mx, bst_mx, bst_mx, bst_mx, bst_mx, bst_mx, bst_mx, bst_mx, bst_mx]; rfl
theorem bst_inv (g : Nat → Int32) (n : Nat) : (bst g n = (nev, -1) ∧ ∀ i, i < n → (g i).toInt ≤ nev.toInt) ∨ ∃ k, k < n ∧ bst g n = (g k, nI k) ∧ nev.toInt < (g k).toInt ∧ (∀ i, i < k → (g i).toInt < (g k).toInt) ∧ ∀ i, i < n → (g i).toInt ≤ (g k).toInt := by
  induction n with
  | zero => exact Or.inl ⟨rfl, fun i h => absurd h (Nat.not_lt_zero _)⟩
  | succ n ih =>
    rw [bst_s]
    rcases ih with ⟨e, h⟩ | ⟨k, hk, e, h1, h2, h3⟩
    · rw [e]
      by_cases q : nev < g n
      · rw [cI_t q]
        have q1 := t_lt.mp q
        refine Or.inr ⟨n, Nat.lt_succ_self _, rfl, q1, fun i hi => ?_, fun i hi => ?_⟩
        · have := h i hi; omega
        · by_cases ei : i = n
          · subst ei; exact Int.le_refl _
          · have := h i (by omega); omega
      · rw [cI_f q]
        have q1 := Int32_ge q
        refine Or.inl ⟨rfl, fun i hi => ?_⟩
        by_cases ei : i = n
        · subst ei; exact q1
        · exact h i (by omega)
    · rw [e]
      by_cases q : g k < g n
      · rw [cI_t q]
        have q1 := t_lt.mp q
        refine Or.inr ⟨n, Nat.lt_succ_self _, rfl, by omega, fun i hi => ?_, fun i hi => ?_⟩
        · have := h3 i hi; omega
        · by_cases ei : i = n
          · subst ei; exact Int.le_refl _
          · have := h3 i (by omega); omega
      · rw [cI_f q]
        have q1 := Int32_ge q
        refine Or.inr ⟨k, by omega, rfl, h1, h2, fun i hi => ?_⟩
        by_cases ei : i = n
        · subst ei; exact q1
        · exact h3 i (by omega)
theorem n_do9_first {g : Nat → Nat → Int32} {k : Nat} (hk : k < 9) (hb : ¬ m_b9 g = nev) (he : g (k / 3) (k % 3) = m_b9 g) (hn : ∀ i, i < k → ¬ g (i / 3) (i % 3) = m_b9 g) : n_do9 g = nI k := by
  rcases (show k = 0 ∨ k = 1 ∨ k = 2 ∨ k = 3 ∨ k = 4 ∨ k = 5 ∨ k = 6 ∨ k = 7 ∨ k = 8 by omega) with rfl | rfl | rfl | rfl | rfl | rfl | rfl | rfl | rfl
  · rw [n_do9, if_neg hb, if_pos (show g 0 0 = m_b9 g from he)]
  · rw [n_do9, if_neg hb, if_neg (show ¬ g 0 0 = m_b9 g from hn 0 (by omega)), if_pos (show g 0 1 = m_b9 g from he)]
  · rw [n_do9, if_neg hb, if_neg (show ¬ g 0 0 = m_b9 g from hn 0 (by omega)), if_neg (show ¬ g 0 1 = m_b9 g from hn 1 (by omega)), if_pos (show g 0 2 = m_b9 g from he)]
  · rw [n_do9, if_neg hb, if_neg (show ¬ g 0 0 = m_b9 g from hn 0 (by omega)), if_neg (show ¬ g 0 1 = m_b9 g from hn 1 (by omega)), if_neg (show ¬ g 0 2 = m_b9 g from hn 2 (by omega)), if_pos (show g 1 0 = m_b9 g from he)]
  · rw [n_do9, if_neg hb, if_neg (show ¬ g 0 0 = m_b9 g from hn 0 (by omega)), if_neg (show ¬ g 0 1 = m_b9 g from hn 1 (by omega)), if_neg (show ¬ g 0 2 = m_b9 g from hn 2 (by omega)), if_neg (show ¬ g 1 0 = m_b9 g from hn 3 (by omega)), if_pos (show g 1 1 = m_b9 g from he)]
  · rw [n_do9, if_neg hb, if_neg (show ¬ g 0 0 = m_b9 g from hn 0 (by omega)), if_neg (show ¬ g 0 1 = m_b9 g from hn 1 (by omega)), if_neg (show ¬ g 0 2 = m_b9 g from hn 2 (by omega)), if_neg (show ¬ g 1 0 = m_b9 g from hn 3 (by omega)), if_neg (show ¬ g 1 1 = m_b9 g from hn 4 (by omega)), if_pos (show g 1 2 = m_b9 g from he)]
  · rw [n_do9, if_neg hb, if_neg (show ¬ g 0 0 = m_b9 g from hn 0 (by omega)), if_neg (show ¬ g 0 1 = m_b9 g from hn 1 (by omega)), if_neg (show ¬ g 0 2 = m_b9 g from hn 2 (by omega)), if_neg (show ¬ g 1 0 = m_b9 g from hn 3 (by omega)), if_neg (show ¬ g 1 1 = m_b9 g from hn 4 (by omega)), if_neg (show ¬ g 1 2 = m_b9 g from hn 5 (by omega)), if_pos (show g 2 0 = m_b9 g from he)]
  · rw [n_do9, if_neg hb, if_neg (show ¬ g 0 0 = m_b9 g from hn 0 (by omega)), if_neg (show ¬ g 0 1 = m_b9 g from hn 1 (by omega)), if_neg (show ¬ g 0 2 = m_b9 g from hn 2 (by omega)), if_neg (show ¬ g 1 0 = m_b9 g from hn 3 (by omega)), if_neg (show ¬ g 1 1 = m_b9 g from hn 4 (by omega)), if_neg (show ¬ g 1 2 = m_b9 g from hn 5 (by omega)), if_neg (show ¬ g 2 0 = m_b9 g from hn 6 (by omega)), if_pos (show g 2 1 = m_b9 g from he)]
  · rw [n_do9, if_neg hb, if_neg (show ¬ g 0 0 = m_b9 g from hn 0 (by omega)), if_neg (show ¬ g 0 1 = m_b9 g from hn 1 (by omega)), if_neg (show ¬ g 0 2 = m_b9 g from hn 2 (by omega)), if_neg (show ¬ g 1 0 = m_b9 g from hn 3 (by omega)), if_neg (show ¬ g 1 1 = m_b9 g from hn 4 (by omega)), if_neg (show ¬ g 1 2 = m_b9 g from hn 5 (by omega)), if_neg (show ¬ g 2 0 = m_b9 g from hn 6 (by omega)), if_neg (show ¬ g 2 1 = m_b9 g from hn 7 (by omega)), if_pos (show g 2 2 = m_b9 g from he)]
theorem do9_of (g : Nat → Nat → Int32) : (bst (fun d => g (d / 3) (d % 3)) 9).2 = n_do9 g := by
  have eb := bst_b9 g
  rcases bst_inv (fun d => g (d / 3) (d % 3)) 9 with ⟨e, h⟩ | ⟨k, hk, e, h1, h2, h3⟩
  · rw [e] at eb ⊢
    rw [n_do9, if_pos eb.symm]
  · rw [e] at eb ⊢
    have eb : g (k / 3) (k % 3) = m_b9 g := eb
    show nI k = _
    refine (n_do9_first hk (fun z => ?_) eb (fun i hi z => ?_)).symm
    · have h1 : nev.toInt < (g (k / 3) (k % 3)).toInt := h1
      rw [eb, z] at h1; omega
    · have h2 : (g (i / 3) (i % 3)).toInt < (g (k / 3) (k % 3)).toInt := h2 i hi
      rw [eb, z] at h2; omega
theorem pD_bst {f : Nat → Nat → Int32} {h j : Nat} {sc : Int32} {pr be g : Nat → Int32} (hg : ∀ d (x : I2), d < 9 → nev.toInt ≤ x.1.toInt → fP f h d sc pr be 9 j x = cI (x.1 < g d) (g d, nI d) x) (n : Nat) (hn : n ≤ 9) : pD f h sc pr be n j = bst g n := by
  induction n with
  | zero => rfl
  | succ n ih =>
    show fP f h n sc pr be 9 j (pD f h sc pr be n j) = _
    rw [ih (by omega), hg n _ (by omega) (bst_ge g n), bst_s]
section TIEC
variable {v : Nat → Int32} {f : Nat → Nat → Int32} {V : Nat → Int32} {F : Nat → Nat → Int32}
theorem leg_eq {h u m a b : Nat} {t : Int32} (hm : m < 9) : m_leg V F h (9 * u + m) t a b ↔ m_legal V F h (nI u) (t - nI u) (nI (m / 3)) (nI (m % 3)) (nI a) (nI b) := by
  unfold m_leg
  rw [show (9 * u + m) / 9 = u by omega, show (9 * u + m) / 3 % 3 = m / 3 by omega, show (9 * u + m) % 3 = m % 3 by omega]
/-- a legal doing leads to levels that are levels -/
theorem leg_next (hB : RB V F) {nw h u m d : Nat} {t0 : Int32} (hn : nw ≤ h) (hh : h < 24) (ht : bd t0 0 80) (hv : vld V (m_sg F nw t0 h) u) (hl : m_legal V F h (nI u) (m_sg F nw t0 h - nI u) (nI (m / 3)) (nI (m % 3)) (nI (d / 3)) (nI (d % 3))) : vld V (m_sg F nw t0 (h + 1)) (m_to F h (nI u) (nI (d / 3)) (nI (d % 3))) := by
  obtain ⟨hu, g1, g2, g3⟩ := hv
  have bs := b_sg (nw := nw) hB ht (Nat.le_of_lt hh) (by omega)
  obtain ⟨b1, b2, b3⟩ := hB.2.2.1 h hh
  have n := b_loses hB (nI (d / 3)) (nI (d % 3))
  have fi := (fits_iff hB hh bs hu).mp hl.1
  obtain ⟨b11, b12⟩ := b1; obtain ⟨b21, b22⟩ := b2; obtain ⟨n1, n2⟩ := n; obtain ⟨t1, t2⟩ := bs
  have bA := hB.1
  obtain ⟨A1, A2⟩ := bA
  have eu : (nI u).toInt = u := nI_toInt (by omega)
  have k0 : (nI u + F 8 h).toInt = u + (F 8 h).toInt := by rw [t_add (by omega) (by omega), eu]
  have k1 : (nI u + F 8 h - m_loses F (nI (d / 3)) (nI (d % 3))).toInt = u + (F 8 h).toInt - (m_loses F (nI (d / 3)) (nI (d % 3))).toInt := by rw [t_sub (by omega) (by omega), k0]
  have s0 : (m_sg F nw t0 h + F 8 h).toInt = (m_sg F nw t0 h).toInt + (F 8 h).toInt := t_add (by omega) (by omega)
  have s1 : (m_sg F nw t0 (h + 1)).toInt = (m_sg F nw t0 h).toInt + (F 8 h).toInt - (F 9 h).toInt := by rw [m_sg_s F t0 hn, t_sub (by omega) (by omega), s0]
  obtain ⟨e1, e2⟩ := in_nat hl.1.1 A2
  have e3 : ((m_to F h (nI u) (nI (d / 3)) (nI (d % 3)) : Nat) : Int) = u + (F 8 h).toInt - (m_loses F (nI (d / 3)) (nI (d % 3))).toInt := by
    rw [← k1, e1, nI_toInt (by omega)]; rfl
  refine ⟨e2, ?_, ?_, ?_⟩
  · rw [e3]; omega
  · rw [e3, s1]; omega
  · rw [e3, s1]; omega
theorem cF18 {nw h d : Nat} {t : Int32} (hd : d < 9) : cF v f nw t 18 (h * 9 + d) = d_en v d := by
  show d_en v ((h * 9 + d) % 9) = _; rw [show (h * 9 + d) % 9 = d by omega]
theorem cF19 {nw h d : Nat} {t : Int32} (hd : d < 9) : cF v f nw t 19 (h * 9 + d) = d_sh v f h d := by
  show d_sh v f ((h * 9 + d) / 9) ((h * 9 + d) % 9) = _; rw [show (h * 9 + d) % 9 = d by omega, show (h * 9 + d) / 9 = h by omega]
theorem cF21 {nw h d : Nat} {t : Int32} (hd : d < 9) : cF v f nw t 21 (h * 9 + d) = d_lo v f h (c_sg f nw t h) d := by
  show d_lo v f ((h * 9 + d) / 9) (c_sg f nw t ((h * 9 + d) / 9)) ((h * 9 + d) % 9) = _; rw [show (h * 9 + d) % 9 = d by omega, show (h * 9 + d) / 9 = h by omega]
theorem cF22 {nw h d : Nat} {t : Int32} (hd : d < 9) : cF v f nw t 22 (h * 9 + d) = d_hi v f h (c_sg f nw t h) d := by
  show d_hi v f ((h * 9 + d) / 9) (c_sg f nw t ((h * 9 + d) / 9)) ((h * 9 + d) % 9) = _; rw [show (h * 9 + d) % 9 = d by omega, show (h * 9 + d) / 9 = h by omega]
theorem cF23 {nw m d : Nat} {t : Int32} (hm : m < 9) : cF v f nw t 23 (d * 9 + m) = d_cost v m d := by
  show d_cost v ((d * 9 + m) % 9) ((d * 9 + m) / 9) = _; rw [show (d * 9 + m) % 9 = m by omega, show (d * 9 + m) / 9 = d by omega]
/-- one doing tried at a state: the class as the reference -/
theorem step_fP (hR : Rel v f V F) (hB : RB V F) {nw h u m d : Nat} {t0 : Int32} (hn : nw ≤ h) (hh : h < 24) (ht : bd t0 0 80) (hm : m < 9) (hd : d < 9) (hv : vld V (m_sg F nw t0 h) u) {sc : Int32} {pr be nx : Nat → Int32} {fin : Int32 → Int32}
    (hbe : ∀ u' d', vld V (m_sg F nw t0 (h + 1)) u' → d' < 9 → be (u' * 9 + d') = nx (9 * u' + d')) (hfin : kFol m d → ∀ x, fMon (cF v f nw t0) h d sc pr m + x = fin x) (x : I2) (hx : nev.toInt ≤ x.1.toInt) : fP (cF v f nw t0) h d sc pr be 9 (u * 9 + m) x = cI (x.1 < m_br V F h (9 * u + m) (m_sg F nw t0 h) (d / 3) (d % 3) nx fin) (m_br V F h (9 * u + m) (m_sg F nw t0 h) (d / 3) (d % 3) nx fin, nI d) x := by
  have hu := hv.1
  have bs := b_sg (nw := nw) hB ht (Nat.le_of_lt hh) (by omega)
  have esg := tie_sg hR (nw := nw) (h := h) (t := t0) (by omega) (by omega)
  have tl := tie_legal (m := m) (d := d) hR hB hh bs hv
  have ej : (u * 9 + m) / 9 = u := by omega
  have em : (u * 9 + m) % 9 = m := by omega
  have eto : tTo (cF v f nw t0) h d u = m_to F h (nI u) (nI (d / 3)) (nI (d % 3)) := by
    unfold tTo m_to
    rw [cF19 hd, d_sh, tie_drop hR, (hR.2.2.2.1 h hh).1, i_asb]
  have nox : ¬ x.1 < nev := fun z => by have := t_lt.mp z; omega
  rw [fP, ej, em, cF23 hm, eto]
  unfold opn
  rw [cF21 hd, cF22 hd, esg]
  by_cases hl : m_legal V F h (nI u) (m_sg F nw t0 h - nI u) (nI (m / 3)) (nI (m % 3)) (nI (d / 3)) (nI (d % 3))
  · obtain ⟨fo, l1, l2⟩ := tl.mp hl
    have hvn := leg_next hB hn hh ht hv hl
    have er := hbe _ d hvn hd
    have hl' : m_leg V F h (9 * u + m) (m_sg F nw t0 h) (d / 3) (d % 3) := (leg_eq hm).mpr hl
    have eth : m_then F h (9 * u + m) (d / 3) (d % 3) = 9 * m_to F h (nI u) (nI (d / 3)) (nI (d % 3)) + d := by
      show 9 * m_to F h (nI ((9 * u + m) / 9)) (nI (d / 3)) (nI (d % 3)) + 3 * (d / 3) + d % 3 = _
      rw [show (9 * u + m) / 9 = u by omega]; omega
    rw [m_br, if_pos hl', eth, ← er]
    by_cases hz : be (m_to F h (nI u) (nI (d / 3)) (nI (d % 3)) * 9 + d) = nev
    · rw [if_pos hz, cI_f (fun z => z.2.2.2.2.1 hz), cI_f nox]
    · rw [if_neg hz, ← hfin fo]
      by_cases q : x.1 < fMon (cF v f nw t0) h d sc pr m + be (m_to F h (nI u) (nI (d / 3)) (nI (d % 3)) * 9 + d)
      · rw [cI_t q, cI_t ⟨by omega, by omega, (cost_iff hR hB).mpr fo, ⟨l1, l2⟩, hz, q⟩]
      · rw [cI_f q, cI_f (fun z => q z.2.2.2.2.2)]
  · rw [m_br, if_neg (fun z => hl ((leg_eq hm).mp z)), cI_f nox, cI_f (fun z => hl (tl.mpr ⟨(cost_iff hR hB).mp z.2.2.1, z.2.2.2.1.1, z.2.2.2.1.2⟩))]
/-- an hour: the class as the reference -/
theorem step_pDG (hR : Rel v f V F) (hB : RB V F) {nw h u m : Nat} {t0 : Int32} (hn : nw ≤ h) (hh : h < 24) (ht : bd t0 0 80) (hm : m < 9) (hv : vld V (m_sg F nw t0 h) u) {sc : Int32} {pr be nx : Nat → Int32} {fin : Nat → Nat → Int32 → Int32} (G : Nat → Nat → Int32) (hG : ∀ a b, G a b = m_br V F h (9 * u + m) (m_sg F nw t0 h) a b nx (fin a b))
    (hbe : ∀ u' d', vld V (m_sg F nw t0 (h + 1)) u' → d' < 9 → be (u' * 9 + d') = nx (9 * u' + d')) (hfin : ∀ d, d < 9 → kFol m d → ∀ x, fMon (cF v f nw t0) h d sc pr m + x = fin (d / 3) (d % 3) x) : (pD (cF v f nw t0) h sc pr be 9 (u * 9 + m)).1 = m_b9 G ∧ (pD (cF v f nw t0) h sc pr be 9 (u * 9 + m)).2 = n_do9 G := by
  have e : pD (cF v f nw t0) h sc pr be 9 (u * 9 + m) = bst (fun d => G (d / 3) (d % 3)) 9 :=
    pD_bst (fun d x hd hx => by
      show _ = cI (x.1 < G (d / 3) (d % 3)) (G (d / 3) (d % 3), nI d) x
      rw [hG]
      exact step_fP hR hB hn hh ht hm hd hv hbe (hfin d hd) x hx) 9 (Nat.le_refl _)
  rw [e]
  exact ⟨bst_b9 G, do9_of G⟩
theorem step_pD (hR : Rel v f V F) (hB : RB V F) {nw h u m : Nat} {t0 : Int32} (hn : nw ≤ h) (hh : h < 24) (ht : bd t0 0 80) (hm : m < 9) (hv : vld V (m_sg F nw t0 h) u) {sc : Int32} {pr be nx : Nat → Int32} {fin : Nat → Nat → Int32 → Int32}
    (hbe : ∀ u' d', vld V (m_sg F nw t0 (h + 1)) u' → d' < 9 → be (u' * 9 + d') = nx (9 * u' + d')) (hfin : ∀ d, d < 9 → kFol m d → ∀ x, fMon (cF v f nw t0) h d sc pr m + x = fin (d / 3) (d % 3) x) : (pD (cF v f nw t0) h sc pr be 9 (u * 9 + m)).1 = m_b9 (fun a b => m_br V F h (9 * u + m) (m_sg F nw t0 h) a b nx (fin a b)) ∧ (pD (cF v f nw t0) h sc pr be 9 (u * 9 + m)).2 = n_do9 (fun a b => m_br V F h (9 * u + m) (m_sg F nw t0 h) a b nx (fin a b)) :=
  step_pDG hR hB hn hh ht hm hv (fun a b => m_br V F h (9 * u + m) (m_sg F nw t0 h) a b nx (fin a b)) (fun _ _ => rfl) hbe hfin
end TIEC
