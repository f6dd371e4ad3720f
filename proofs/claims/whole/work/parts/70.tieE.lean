section TIEE
variable {v : Nat → Int32} {f : Nat → Nat → Int32} {V : Nat → Int32} {F : Nat → Nat → Int32}
theorem i_eq0 {x : Int32} (h1 : x ≤ 0) (h2 : 0 ≤ x.toInt) : x = 0 := Int32.toInt_inj.mp (by have := t_le.mp h1; rw [t_0] at *; omega)
theorem mx_step (f : Nat → Nat → Int32) (W : Nat → Nat → Int32) (n j : Nat) : mxV f W (n + 1) j = cI (¬ f 10 n ≤ 0) (if mxV f W n j = nev ∨ W n j = nev then nev else mxV f W n j + f 10 n * W n j) (mxV f W n j) := by
  by_cases h : f 10 n ≤ 0
  · rw [mxV_f h, cI_f (fun z => z h)]
  · rw [mxV_t h, cI_t h]; rfl
theorem mxS_s (hR : Rel v f V F) (hB : RB V F) {n : Nat} (hn : n < 3) : mxS f (n + 1) = mxS f n + F 17 n := by
  have e := hR.2.2.2.2.1 n hn
  have b := (hB.2.2.2.2.2.1 n hn).1
  by_cases h : f 10 n ≤ 0
  · rw [mxS_f h]
    rw [e] at h
    rw [i_eq0 h b, Int32.add_zero]
  · rw [mxS_t h, e]
theorem mxP_s (hR : Rel v f V F) (hB : RB V F) {n h : Nat} (hn : n < 3) (hh : h < 24) : mxP f (n + 1) h = mxP f n h + F 17 n * F 18 (24 * n + h) := by
  have e := hR.2.2.2.2.1 n hn
  have e2 := hR.2.2.2.2.2.1 n h hn hh
  have b := (hB.2.2.2.2.2.1 n hn).1
  by_cases q : f 10 n ≤ 0
  · rw [mxP_f q]
    rw [e] at q
    rw [i_eq0 q b, Int32.zero_mul, Int32.add_zero]
  · rw [mxP_t q]
    show mxP f n h + f 10 n * f (24 + n) h = _
    rw [e, e2]
theorem ring3 (a0 a1 a2 p0 p1 p2 e c x : Int32) : (0 + a0 * p0 + a1 * p1 + a2 * p2) * e - c * (0 + a0 + a1 + a2) + x = x + a0 * (p0 * e - c) + a1 * (p1 * e - c) + a2 * (p2 * e - c) := by grind
theorem fin_A (hR : Rel v f V F) (hB : RB V F) {nw h m d s : Nat} {t0 : Int32} (hh : h < 24) (hm : m < 9) (hd : d < 9) (hs1 : s / 3 % 3 = m / 3) (hs2 : s % 3 = m % 3) (fo : kFol m d) (x : Int32) : fMon (cF v f nw t0) h d (mxS f 3) (mxP f 3) m + x = m_finA F h s (d / 3) (d % 3) x := by
  unfold fMon m_finA m_mon m_money
  rw [cF18 hd, cF23 hm, tie_en hR, tie_cost hR fo, hs1, hs2, mxS_s hR hB (by decide), mxS_s hR hB (by decide), mxS_s hR hB (by decide), mxP_s hR hB (by decide) hh, mxP_s hR hB (by decide) hh, mxP_s hR hB (by decide) hh]
  exact ring3 _ _ _ _ _ _ _ _ _
/-- the worlds mixed -/
theorem mix_tie (hR : Rel v f V F) (hB : RB V F) {W : Nat → Nat → Int32} {g : Nat → Int32} {j : Nat} (hW : ∀ w, w < 3 → W w j = g w) (hb : ∀ w, w < 3 → nb (g w) 4840000) (hx : ∀ w w', w < 3 → w' < 3 → g w = nev → g w' = nev) : mxV f W 3 j = mW3 F g := by
  by_cases hz : g 0 = nev
  · have z : ∀ w, w < 3 → g w = nev := fun w hw => hx 0 w (by decide) hw hz
    have k : ∀ n, n ≤ 3 → mxV f W n j = nev ∨ ∀ w, w < n → f 10 w ≤ 0 := by
      intro n
      induction n with
      | zero => intro _; exact Or.inr (fun w h => absurd h (Nat.not_lt_zero _))
      | succ n ih =>
        intro hn
        rw [mx_step]
        by_cases q : f 10 n ≤ 0
        · rw [cI_f (fun y => y q)]
          rcases ih (by omega) with r | r
          · exact Or.inl r
          · refine Or.inr (fun w hw => ?_)
            by_cases e : w = n
            · subst e; exact q
            · exact r w (by omega)
        · rw [cI_t q, if_pos (Or.inr ((hW n (by omega)).trans (z n (by omega))))]
          exact Or.inl rfl
    rw [mW3, if_pos hz]
    rcases k 3 (Nat.le_refl _) with r | r
    · exact r
    · obtain ⟨w, hw, hp⟩ := hB.2.2.2.2.2.2.1
      have q := t_le.mp (r w hw)
      rw [hR.2.2.2.2.1 w hw, t_0] at q
      omega
  · have nz : ∀ w, w < 3 → ¬ g w = nev := fun w hw e => hz (hx w 0 hw (by decide) e)
    have bg : ∀ w, w < 3 → bd (g w) (-4840000) 4840000 := fun w hw => (hb w hw).resolve_left (nz w hw)
    have st : ∀ n, n < 3 → ∀ x : Int32, mxV f W n j = x → bd x (-(43560000 * n)) (43560000 * n) → mxV f W (n + 1) j = x + F 17 n * g n ∧ bd (x + F 17 n * g n) (-(43560000 * (n + 1 : Nat))) (43560000 * (n + 1 : Nat)) := by
      intro n hn x e b
      have wb := hB.2.2.2.2.2.1 n hn
      have mb := b_mul (a := 9) (b := 4840000) (bd_w wb (by decide) (by decide)) (bg n hn) (by decide) (by decide) (by decide)
      have sb := bd_add b mb (by omega) (by omega)
      refine ⟨?_, bd_w sb (by omega) (by omega)⟩
      rw [mx_step, e, hR.2.2.2.2.1 n hn, hW n hn]
      by_cases q : F 17 n ≤ 0
      · rw [cI_f (fun y => y q), i_eq0 q wb.1, Int32.zero_mul, Int32.add_zero]
      · rw [cI_t q, if_neg]
        rintro (y | y)
        · have := b.1
          rw [y, nevI] at this
          omega
        · exact nz n hn y
    obtain ⟨e1, b1⟩ := st 0 (by decide) 0 rfl (bd_0 (by omega) (by omega))
    obtain ⟨e2, b2⟩ := st 1 (by decide) _ e1 b1
    obtain ⟨e3, -⟩ := st 2 (by decide) _ e2 b2
    rw [e3, mW3, if_neg hz, if_neg (nz 1 (by decide)), if_neg (nz 2 (by decide))]
theorem mA_late {sg : Nat → Int32} {rv h s : Nat} (hr : rv ≤ h) (hh : h ≤ 24) : mA V F sg rv (24 - h) s = mW3 F (fun w => mV V F sg w (24 - h) s) := by
  by_cases e : h = 24
  · subst e; rfl
  · rw [show 24 - h = (23 - h) + 1 by omega]
    show (if rv ≤ 23 - (23 - h) then _ else _) = _
    rw [show 23 - (23 - h) = h by omega, if_pos hr]
theorem mA_hour {sg : Nat → Int32} {rv h s : Nat} (hh : h < 24) (hr : ¬ rv ≤ h) : mA V F sg rv (24 - h) s = m_b9 (fun a b => m_br V F h s (sg h) a b (mA V F sg rv (23 - h)) (m_finA F h s a b)) := by
  rw [show 24 - h = (23 - h) + 1 by omega]
  show (if rv ≤ 23 - (23 - h) then _ else m_b9 (fun a b => m_br V F (23 - (23 - h)) s (sg (23 - (23 - h))) a b (mA V F sg rv (23 - h)) (m_finA F (23 - (23 - h)) s a b))) = _
  rw [show 23 - (23 - h) = h by omega, if_neg hr]
theorem vld_lt {t : Int32} {u m : Nat} (h : vld V t u) (hm : m < 9) : 9 * u + m < 369 := by have := h.1; omega
theorem mix_W (hR : Rel v f V F) (hB : RB V F) {nw rv : Nat} {t0 : Int32} (hn : nw ≤ 24) (hr : rv ≤ 24) (ht : bd t0 0 80) (u m : Nat) (hv : vld V (m_sg F nw t0 (max nw rv)) u) (hm : m < 9) : mxV f (wVal v f nw rv t0) 3 (u * 9 + m) = mW3 F (fun w => mV V F (m_sg F nw t0) w (24 - max nw rv) (9 * u + m)) := by
  have e : 24 - (24 - max nw rv) = max nw rv := by omega
  have nbk := mV_nb hB (m_sg F nw t0) (24 - max nw rv) (by omega) (9 * u + m) (vld_lt hv hm)
  refine mix_tie (g := fun w => mV V F (m_sg F nw t0) w (24 - max nw rv) (9 * u + m)) hR hB (fun w hw => ?_) (fun w hw => ?_) nbk.2
  · exact tie_W hR hB hn ht hw _ (24 - max nw rv) (by omega) u m (by rw [e]; exact hv) hm
  · rcases nbk.1 w hw with q | q
    · exact Or.inl q
    · exact Or.inr (bd_w q (by omega) (by omega))
/-- the hours ahead of reveal -/
theorem tie_A (hR : Rel v f V F) (hB : RB V F) {nw rv : Nat} {t0 : Int32} (hn : nw ≤ rv) (hr : rv ≤ 24) (ht : bd t0 0 80) (ch : Nat → Int32) (k : Nat) (hk : k ≤ rv - nw) : ∀ u m, vld V (m_sg F nw t0 (rv - k)) u → m < 9 → plV (cF v f nw t0) (mxS f 3) (mxP f 3) rv (mxV f (wVal v f nw rv t0) 3) ch k (u * 9 + m) = mA V F (m_sg F nw t0) rv (24 - (rv - k)) (9 * u + m) := by
  induction k with
  | zero =>
    intro u m hv hm
    have em : max nw rv = rv := by omega
    rw [Nat.sub_zero] at hv
    rw [Nat.sub_zero, mA_late (Nat.le_refl _) hr]
    have k := mix_W hR hB (nw := nw) (rv := rv) (by omega) hr ht u m (by rw [em]; exact hv) hm
    rw [em] at k
    exact k
  | succ k ih =>
    intro u m hv hm
    show (pD (cF v f nw t0) (rv - 1 - k) (mxS f 3) (mxP f 3) (plV (cF v f nw t0) (mxS f 3) (mxP f 3) rv (mxV f (wVal v f nw rv t0) 3) ch k) 9 (u * 9 + m)).1 = _
    rw [mA_hour (by omega) (by omega), show rv - 1 - k = rv - (k + 1) by omega]
    refine (step_pD hR hB (by omega) (by omega) ht hm hv (fun u' d' hv' hd' => ?_) (fun d hd fo x => ?_)).1
    · rw [show rv - (k + 1) + 1 = rv - k by omega] at hv'
      rw [show 23 - (rv - (k + 1)) = 24 - (rv - k) by omega]
      exact ih (by omega) u' d' hv' hd'
    · exact fin_A hR hB (by omega) hm hd (by omega) (by omega) fo x
/-- what planAll leaves, as the reference has it -/
theorem tie_cAV (hR : Rel v f V F) (hB : RB V F) {nw rv : Nat} {t0 : Int32} (hn : nw ≤ 24) (hr : rv ≤ 24) (ht : bd t0 0 80) (u m : Nat) (hv : vld V t0 u) (hm : m < 9) : cAV v f nw rv t0 (u * 9 + m) = mA V F (m_sg F nw t0) rv (24 - nw) (9 * u + m) := by
  have hv' : vld V (m_sg F nw t0 nw) u := by rw [m_sg_0]; exact hv
  unfold cAV
  by_cases q : nw ≤ rv
  · have k := tie_A hR hB q hr ht (fun _ => 0) (rv - nw) (Nat.le_refl _) u m (by rw [show rv - (rv - nw) = nw by omega]; exact hv') hm
    rw [show rv - (rv - nw) = nw by omega] at k
    exact k
  · have em : max nw rv = nw := by omega
    have k := mix_W hR hB (nw := nw) (rv := rv) hn hr ht u m (by rw [em]; exact hv') hm
    rw [em] at k
    rw [show rv - nw = 0 by omega, mA_late (by omega) hn]
    exact k
theorem tie_cAC (hR : Rel v f V F) (hB : RB V F) {nw rv : Nat} {t0 : Int32} (hn : nw < rv) (hr : rv ≤ 24) (ht : bd t0 0 80) (u m : Nat) (hv : vld V t0 u) (hm : m < 9) : cAC v f nw rv t0 (u * 9 + m) = n_do9 (gA V F nw rv t0 (9 * u + m)) := by
  have hv' : vld V (m_sg F nw t0 nw) u := by rw [m_sg_0]; exact hv
  unfold cAC
  rw [show rv - nw = (rv - nw - 1) + 1 by omega]
  show (pD (cF v f nw t0) (rv - 1 - (rv - nw - 1)) (mxS f 3) (mxP f 3) (plV (cF v f nw t0) (mxS f 3) (mxP f 3) rv (mxV f (wVal v f nw rv t0) 3) (fun _ => 0) (rv - nw - 1)) 9 (u * 9 + m)).2 = _
  rw [show rv - 1 - (rv - nw - 1) = nw by omega]
  have k := (step_pD hR hB (nx := mA V F (m_sg F nw t0) rv (23 - nw)) (fin := fun a b => m_finA F nw (9 * u + m) a b) (Nat.le_refl nw) (by omega) ht hm hv' (fun u' d' hv'' hd' => by
    rw [show nw + 1 = rv - (rv - nw - 1) by omega] at hv''
    have k := tie_A hR hB (Nat.le_of_lt hn) hr ht (fun _ => 0) (rv - nw - 1) (by omega) u' d' hv'' hd'
    rw [show 24 - (rv - (rv - nw - 1)) = 23 - nw by omega] at k
    exact k) (fun d hd fo x => fin_A hR hB (by omega) hm hd (by omega) (by omega) fo x)).2
  rw [m_sg_0] at k
  exact k
theorem tie_wCho (hR : Rel v f V F) (hB : RB V F) {nw rv w : Nat} {t0 : Int32} (hn : nw < 24) (hr : rv ≤ nw) (hw : w < 3) (ht : bd t0 0 80) (u m : Nat) (hv : vld V t0 u) (hm : m < 9) : wCho v f nw rv t0 w (u * 9 + m) = n_do9 (gW V F nw w t0 (9 * u + m)) := by
  have hv' : vld V (m_sg F nw t0 nw) u := by rw [m_sg_0]; exact hv
  unfold wCho
  rw [show max nw rv = nw by omega, tie_WC hR hB hn ht hw _ u m hv' hm, m_sg_0]
  rfl
end TIEE
