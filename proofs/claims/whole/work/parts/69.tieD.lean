section TIED
variable {v : Nat → Int32} {f : Nat → Nat → Int32} {V : Nat → Int32} {F : Nat → Nat → Int32}
theorem rel_sc (hR : Rel v f V F) {w : Nat} (hw : w < 3) : v (40 + w) = 1 := by
  obtain ⟨-, -, -, -, -, -, h0, h1, h2⟩ := hR
  rcases (show w = 0 ∨ w = 1 ∨ w = 2 by omega) with rfl | rfl | rfl
  · exact h0
  · exact h1
  · exact h2
/-- the money of a doing in a world -/
theorem fin_W (hR : Rel v f V F) {nw h m d w s : Nat} {t0 : Int32} (hh : h < 24) (hw : w < 3) (hm : m < 9) (hd : d < 9) (hs1 : s / 3 % 3 = m / 3) (hs2 : s % 3 = m % 3) (fo : kFol m d) (x : Int32) : fMon (cF v f nw t0) h d (v (40 + w)) (f (24 + w)) m + x = m_finW F w h s (d / 3) (d % 3) x := by
  unfold fMon m_finW m_mon m_money
  rw [cF18 hd, cF23 hm, tie_en hR, tie_cost hR fo, rel_sc hR hw, hR.2.2.2.2.2.1 w h hw hh, Int32.mul_one, hs1, hs2, Int32.add_comm]
/-- a world's values and choices are the reference's -/
theorem tie_W (hR : Rel v f V F) (hB : RB V F) {nw w : Nat} {t0 : Int32} (hn : nw ≤ 24) (ht : bd t0 0 80) (hw : w < 3) (ch : Nat → Int32) (k : Nat) (hk : k ≤ 24 - nw) : ∀ u m, vld V (m_sg F nw t0 (24 - k)) u → m < 9 → plV (cF v f nw t0) (v (40 + w)) (f (24 + w)) 24 (endRow (v 31)) ch k (u * 9 + m) = mV V F (m_sg F nw t0) w k (9 * u + m) := by
  induction k with
  | zero =>
    intro u m hv hm
    show nI ((u * 9 + m) / 9) * v 31 = nI ((9 * u + m) / 9) * V 20
    rw [show u * 9 + m = 9 * u + m by omega, hR.1.2.2.2.2.2.2.2.1]
  | succ k ih =>
    intro u m hv hm
    have e23 : 24 - (k + 1) = 23 - k := by omega
    rw [e23] at hv
    show (pD (cF v f nw t0) (24 - 1 - k) (v (40 + w)) (f (24 + w)) (plV (cF v f nw t0) (v (40 + w)) (f (24 + w)) 24 (endRow (v 31)) ch k) 9 (u * 9 + m)).1 = m_b9 (fun a b => m_br V F (23 - k) (9 * u + m) (m_sg F nw t0 (23 - k)) a b (mV V F (m_sg F nw t0) w k) (m_finW F w (23 - k) (9 * u + m) a b))
    rw [show 24 - 1 - k = 23 - k by omega]
    refine (step_pD hR hB (by omega) (by omega) ht hm hv (fun u' d' hv' hd' => ?_) (fun d hd fo x => ?_)).1
    · rw [show 23 - k + 1 = 24 - k by omega] at hv'
      exact ih (by omega) u' d' hv' hd'
    · exact fin_W hR (by omega) hw hm hd (by omega) (by omega) fo x
theorem tie_WC (hR : Rel v f V F) (hB : RB V F) {nw w : Nat} {t0 : Int32} (hn : nw < 24) (ht : bd t0 0 80) (hw : w < 3) (ch : Nat → Int32) (u m : Nat) (hv : vld V (m_sg F nw t0 nw) u) (hm : m < 9) : plC (cF v f nw t0) (v (40 + w)) (f (24 + w)) 24 (endRow (v 31)) ch (24 - nw) (u * 9 + m) = n_do9 (fun a b => m_br V F nw (9 * u + m) (m_sg F nw t0 nw) a b (mV V F (m_sg F nw t0) w (23 - nw)) (m_finW F w nw (9 * u + m) a b)) := by
  rw [show 24 - nw = (23 - nw) + 1 by omega]
  show (pD (cF v f nw t0) (24 - 1 - (23 - nw)) (v (40 + w)) (f (24 + w)) (plV (cF v f nw t0) (v (40 + w)) (f (24 + w)) 24 (endRow (v 31)) ch (23 - nw)) 9 (u * 9 + m)).2 = _
  rw [show 24 - 1 - (23 - nw) = nw by omega]
  refine (step_pD hR hB (by omega) (by omega) ht hm hv (fun u' d' hv' hd' => ?_) (fun d hd fo x => ?_)).2
  · rw [show nw + 1 = 24 - (23 - nw) by omega] at hv'
    exact tie_W hR hB (by omega) ht hw ch (23 - nw) (by omega) u' d' hv' hd'
  · exact fin_W hR (by omega) hw hm hd (by omega) (by omega) fo x
/-- bounds of the reference's values -/
theorem nevI : nev.toInt = -1000000000 := rfl
theorem b_mul {x y : Int32} {a b : Int} (hx : bd x (-a) a) (hy : bd y (-b) b) (ha : 0 ≤ a) (hb : 0 ≤ b) (h : a * b ≤ 2147483647) : bd (x * y) (-(a * b)) (a * b) := by
  obtain ⟨x1, x2⟩ := hx; obtain ⟨y1, y2⟩ := hy
  have k1 : x.toInt * y.toInt ≤ a * b := by
    rcases Int.le_total 0 x.toInt with p | p
    · rcases Int.le_total 0 y.toInt with q | q
      · exact Int.mul_le_mul x2 y2 q ha
      · have := Int.mul_nonneg p (show 0 ≤ -y.toInt by omega)
        have := Int.mul_nonneg ha hb
        rw [Int.mul_neg] at *
        omega
    · rcases Int.le_total 0 y.toInt with q | q
      · have := Int.mul_nonneg (show 0 ≤ -x.toInt by omega) q
        have := Int.mul_nonneg ha hb
        rw [Int.neg_mul] at *
        omega
      · have := Int.mul_le_mul (show -x.toInt ≤ a by omega) (show -y.toInt ≤ b by omega) (by omega) ha
        rw [Int.neg_mul_neg] at this
        exact this
  have k2 : -(a * b) ≤ x.toInt * y.toInt := by
    rcases Int.le_total 0 x.toInt with p | p
    · rcases Int.le_total 0 y.toInt with q | q
      · have := Int.mul_nonneg p q
        have := Int.mul_nonneg ha hb
        omega
      · have := Int.mul_le_mul x2 (show -y.toInt ≤ b by omega) (by omega) ha
        rw [Int.mul_neg] at this
        omega
    · rcases Int.le_total 0 y.toInt with q | q
      · have := Int.mul_le_mul (show -x.toInt ≤ a by omega) y2 q ha
        rw [Int.neg_mul] at this
        omega
      · have := Int.mul_nonneg (show 0 ≤ -x.toInt by omega) (show 0 ≤ -y.toInt by omega)
        rw [Int.neg_mul_neg] at this
        have := Int.mul_nonneg ha hb
        omega
  unfold bd
  rw [t_mul (by omega) (by omega)]
  exact ⟨k2, k1⟩
theorem b_money (hB : RB V F) {w h : Nat} (hw : w < 3) (hh : h < 24) (p q a b : Int32) : bd (m_money F w h p q a b) (-200000) 200000 := by
  have e := bd_add (b_energy hB (k := 0) (by decide) a) (b_energy hB (k := 1) (by decide) b) (by decide) (by decide)
  have s := bd_add (b_start hB (k := 0) (by decide) p a) (b_start hB (k := 1) (by decide) q b) (by decide) (by decide)
  have pr := hB.2.2.2.2.1 (24 * w + h) (by omega)
  have m := b_mul (a := 999) (b := 198) (bd_w pr (by decide) (by decide)) (bd_w e (by decide) (by decide)) (by decide) (by decide) (by decide)
  obtain ⟨m1, m2⟩ := m; obtain ⟨s1, s2⟩ := s
  unfold m_money bd
  rw [t_sub (by omega) (by omega)]
  omega
/-- nev or small -/
def nb (x : Int32) (b : Int) : Prop := x = nev ∨ bd x (-b) b
theorem b9_nb {g : Nat → Nat → Int32} {b : Int} (hb : b < 1000000000) (h : ∀ i, i < 9 → nb (g (i / 3) (i % 3)) b) : nb (m_b9 g) b ∧ (m_b9 g = nev ↔ ∀ i, i < 9 → g (i / 3) (i % 3) = nev) := by
  have eb := bst_b9 g
  rcases bst_inv (fun d => g (d / 3) (d % 3)) 9 with ⟨e, h1⟩ | ⟨k, hk, e, h1, h2, h3⟩
  · rw [e] at eb
    refine ⟨Or.inl eb.symm, fun _ i hi => ?_, fun _ => eb.symm⟩
    rcases h i hi with q | q
    · exact q
    · have := h1 i hi
      have := q.1
      rw [nevI] at *
      omega
  · rw [e] at eb
    have eb : g (k / 3) (k % 3) = m_b9 g := eb
    have h1 : nev.toInt < (g (k / 3) (k % 3)).toInt := h1
    refine ⟨by rw [← eb]; exact h k hk, fun z => ?_, fun z => ?_⟩
    · rw [eb, z] at h1; omega
    · rw [z k hk] at h1; omega
theorem br_nb {h s a b : Nat} {t : Int32} {nx : Nat → Int32} {fin : Int32 → Int32} {c : Int} (hnx : m_leg V F h s t a b → nb (nx (m_then F h s a b)) c) (hfin : ∀ x, bd x (-c) c → bd (fin x) (-(c + 200000)) (c + 200000)) (hc : c < 999000000) : nb (m_br V F h s t a b nx fin) (c + 200000) ∧ (m_br V F h s t a b nx fin = nev ↔ (m_leg V F h s t a b → nx (m_then F h s a b) = nev)) := by
  by_cases hl : m_leg V F h s t a b
  · rw [m_br, if_pos hl]
    rcases hnx hl with q | q
    · rw [if_pos q]
      exact ⟨Or.inl rfl, fun _ _ => q, fun _ => rfl⟩
    · have qn : ¬ nx (m_then F h s a b) = nev := fun z => by
        have := q.1
        rw [z, nevI] at this; omega
      have k := hfin _ q
      rw [if_neg qn]
      refine ⟨Or.inr k, fun z => ?_, fun z => absurd (z hl) qn⟩
      have := k.1
      rw [z, nevI] at this; omega
  · rw [m_br, if_neg hl]
    exact ⟨Or.inl rfl, fun _ z => absurd z hl, fun _ => rfl⟩
theorem b_end (hB : RB V F) {s : Nat} (hs : s < 369) : bd (nI (s / 9) * V 20) (-40000) 40000 := by
  have e := hB.2.2.2.2.2.2.2
  have k := b_mul (x := nI (s / 9)) (y := V 20) (a := 40) (b := 999) (by unfold bd; rw [nI_toInt (by omega)]; omega) (bd_w e (by decide) (by decide)) (by decide) (by decide) (by decide)
  exact bd_w k (by decide) (by decide)
theorem mV_nb (hB : RB V F) (sg : Nat → Int32) (k : Nat) (hk : k ≤ 24) : ∀ s, s < 369 → (∀ w, w < 3 → nb (mV V F sg w k s) (40000 + 200000 * k)) ∧ ∀ w w', w < 3 → w' < 3 → mV V F sg w k s = nev → mV V F sg w' k s = nev := by
  induction k with
  | zero =>
    intro s hs
    have b := b_end hB hs
    refine ⟨fun w _ => Or.inr (bd_w b (by omega) (by omega)), fun w w' _ _ z => ?_⟩
    have z : nI (s / 9) * V 20 = nev := z
    rw [z] at b
    exact absurd b.1 (by decide)
  | succ k ih =>
    intro s hs
    have ih := ih (by omega)
    have A2 := hB.1.2
    have st : ∀ w, w < 3 → ∀ i, i < 9 → nb (m_br V F (23 - k) s (sg (23 - k)) (i / 3) (i % 3) (mV V F sg w k) (m_finW F w (23 - k) s (i / 3) (i % 3))) (40000 + 200000 * k + 200000) ∧ (m_br V F (23 - k) s (sg (23 - k)) (i / 3) (i % 3) (mV V F sg w k) (m_finW F w (23 - k) s (i / 3) (i % 3)) = nev ↔ (m_leg V F (23 - k) s (sg (23 - k)) (i / 3) (i % 3) → mV V F sg w k (m_then F (23 - k) s (i / 3) (i % 3)) = nev)) := by
      intro w hw i hi
      refine br_nb (c := 40000 + 200000 * k) (fun hl => (ih _ (m_then_lt hl A2 (by omega) (by omega))).1 w hw) (fun x hx => ?_) (by omega)
      have m := b_money hB (w := w) (h := 23 - k) hw (by omega) (nI ((s / 3) % 3)) (nI (s % 3)) (nI (i / 3)) (nI (i % 3))
      have := bd_add hx m (by omega) (by omega)
      exact bd_w this (by omega) (by omega)
    have b9 : ∀ w, w < 3 → nb (mV V F sg w (k + 1) s) (40000 + 200000 * k + 200000) ∧ (mV V F sg w (k + 1) s = nev ↔ ∀ i, i < 9 → m_br V F (23 - k) s (sg (23 - k)) (i / 3) (i % 3) (mV V F sg w k) (m_finW F w (23 - k) s (i / 3) (i % 3)) = nev) := by
      intro w hw
      have e : mV V F sg w (k + 1) s = m_b9 (fun a b => m_br V F (23 - k) s (sg (23 - k)) a b (mV V F sg w k) (m_finW F w (23 - k) s a b)) := rfl
      rw [e]
      exact b9_nb (g := fun a b => m_br V F (23 - k) s (sg (23 - k)) a b (mV V F sg w k) (m_finW F w (23 - k) s a b)) (by omega) (fun i hi => (st w hw i hi).1)
    refine ⟨fun w hw => ?_, fun w w' hw hw' z => ?_⟩
    · rw [show (40000 : Int) + 200000 * ((k + 1 : Nat) : Int) = 40000 + 200000 * k + 200000 by omega]
      exact (b9 w hw).1
    · refine (b9 w' hw').2.mpr (fun i hi => (st w' hw' i hi).2.mpr (fun hl => ?_))
      have z1 := ((st w hw i hi).2.mp ((b9 w hw).2.mp z i hi)) hl
      exact (ih _ (m_then_lt hl A2 (by omega) (by omega))).2 w w' hw hw' z1
end TIED
