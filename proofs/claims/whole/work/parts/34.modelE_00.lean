/-- a stretch of a row is filled -/
def rowF (g : Nat → Int32) (a b : Nat) (y : Int32) : Nat → Int32 := fun j => if a ≤ j ∧ j < b then y else g j
theorem rowF_0 (g : Nat → Int32) (a : Nat) (y : Int32) : rowF g a a y = g := by
  funext j
  exact if_neg (by omega)
theorem rowF_s {g : Nat → Int32} {a b : Nat} {y : Int32} (h : a ≤ b) : upd (rowF g a b y) b y = rowF g a (b + 1) y := by
  funext j
  show (if j = b then y else if a ≤ j ∧ j < b then y else g j) = if a ≤ j ∧ j < b + 1 then y else g j
  by_cases h1 : j = b
  · rw [if_pos h1, if_pos (by omega)]
  · rw [if_neg h1]
    by_cases h2 : a ≤ j ∧ j < b
    · rw [if_pos h2, if_pos (by omega)]
    · rw [if_neg h2, if_neg (by omega)]
noncomputable def s_out (v : Nat → Int32) (f : Nat → Nat → Int32) (k fr to y : Int32) : AN := cI (m_in k 0 1 ∧ m_in fr 0 23 ∧ m_in to 0 23 ∧ fr ≤ to) (1, upd v 0 0, va_up f 16 (rowF (f 16) (24 * k.toNatClampNeg + fr.toNatClampNeg) (24 * k.toNatClampNeg + to.toNatClampNeg + 1) y)) (0, upd v 0 0, f)
def m_sum (f : Nat → Nat → Int32) (nw : Nat) (t : Int32) : Nat → Int32
  | 0 => t
  | k + 1 => m_sum f nw t k + f 8 (nw + k) - f 9 (nw + k)
/-- what both lakes hold together ahead of an hour -/
def m_sg (f : Nat → Nat → Int32) (nw : Nat) (t : Int32) (h : Nat) : Int32 := m_sum f nw t (h - nw)
theorem m_sg_0 (f : Nat → Nat → Int32) (nw : Nat) (t : Int32) : m_sg f nw t nw = t := by rw [m_sg, Nat.sub_self]; rfl
theorem m_sg_s (f : Nat → Nat → Int32) {nw h : Nat} (t : Int32) (hh : nw ≤ h) : m_sg f nw t (h + 1) = m_sg f nw t h + f 8 h - f 9 h := by
  rw [m_sg, m_sg, show h + 1 - nw = (h - nw) + 1 by omega]
  show m_sum f nw t (h - nw) + f 8 (nw + (h - nw)) - f 9 (nw + (h - nw)) = _
  rw [show nw + (h - nw) = h by omega]
theorem m_sg_0' {f : Nat → Nat → Int32} {nw : Nat} {t : Int32} {g : Nat → Int32} : ∀ k, nw ≤ k → k ≤ nw → upd g nw t k = m_sg f nw t k := by
  intro k h1 h2
  obtain rfl : k = nw := by omega
  rw [m_sg_0]; exact if_pos rfl
theorem m_sg_s' {f : Nat → Nat → Int32} {nw h : Nat} {t : Int32} {g : Nat → Int32} (hh : nw ≤ h) (hg : ∀ k, nw ≤ k → k ≤ h → g k = m_sg f nw t k) : ∀ k, nw ≤ k → k ≤ h + 1 → upd g (h + 1) (g h + f 8 h - f 9 h) k = m_sg f nw t k := by
  intro k h1 h2
  by_cases e : k = h + 1
  · rw [e, m_sg_s f t hh, ← hg h hh (Nat.le_refl h)]; exact if_pos rfl
  · rw [← hg k h1 (by omega)]; exact if_neg e
theorem m_then_lt {v : Nat → Int32} {f : Nat → Nat → Int32} {h s a b : Nat} {t : Int32} (hl : m_leg v f h s t a b) (h40 : (v 2).toInt ≤ 40) (ha : a < 3) (hb : b < 3) : m_then f h s a b < 369 := by
  have := m_to_le hl h40
  show 9 * m_to f h (nI (s / 9)) (nI a) (nI b) + 3 * a + b < 369
  omega
theorem m_br_congr {v : Nat → Int32} {f : Nat → Nat → Int32} {h s a b : Nat} {t : Int32} {nx nx' : Nat → Int32} {fin : Int32 → Int32} (h40 : (v 2).toInt ≤ 40) (ha : a < 3) (hb : b < 3) (hn : ∀ k, k < 369 → nx k = nx' k) : m_br v f h s t a b nx fin = m_br v f h s t a b nx' fin := by
  by_cases hl : m_leg v f h s t a b
  · have e := hn _ (m_then_lt hl h40 ha hb)
    rw [m_br, m_br, if_pos hl, if_pos hl, e]
  · rw [m_br, m_br, if_neg hl, if_neg hl]
theorem m_b9_congr {g g' : Nat → Nat → Int32} (h : ∀ a b, a < 3 → b < 3 → g a b = g' a b) : m_b9 g = m_b9 g' := by
  unfold m_b9
  rw [h 0 0 (by decide) (by decide), h 0 1 (by decide) (by decide), h 0 2 (by decide) (by decide), h 1 0 (by decide) (by decide), h 1 1 (by decide) (by decide), h 1 2 (by decide) (by decide), h 2 0 (by decide) (by decide), h 2 1 (by decide) (by decide), h 2 2 (by decide) (by decide)]
/-- the value of a state with n hours left, in a world -/
noncomputable def mV (v : Nat → Int32) (f : Nat → Nat → Int32) (sg : Nat → Int32) (w : Nat) : Nat → Nat → Int32
  | 0 => fun s => nI (s / 9) * v 20
  | n + 1 => fun s => m_b9 (fun a b => m_br v f (23 - n) s (sg (23 - n)) a b (mV v f sg w n) (m_finW f w (23 - n) s a b))
def mW3 (f : Nat → Nat → Int32) (g : Nat → Int32) : Int32 := if g 0 = nev then nev else if g 1 = nev then nev else if g 2 = nev then nev else 0 + f 17 0 * g 0 + f 17 1 * g 1 + f 17 2 * g 2
/-- the same for all worlds, weighed -/
noncomputable def mA (v : Nat → Int32) (f : Nat → Nat → Int32) (sg : Nat → Int32) (rv : Nat) : Nat → Nat → Int32
  | 0 => fun s => mW3 f (fun w => mV v f sg w 0 s)
  | n + 1 => fun s => if rv ≤ 23 - n then mW3 f (fun w => mV v f sg w (n + 1) s) else m_b9 (fun a b => m_br v f (23 - n) s (sg (23 - n)) a b (mA v f sg rv n) (m_finA f (23 - n) s a b))
/-- the large rows are right from hour j on -/
def okB (v : Nat → Int32) (f : Nat → Nat → Int32) (sg : Nat → Int32) (j : Nat) (B : Nat → Int32) : Prop := ∀ w h s, w < 3 → j ≤ h → h ≤ 24 → s < 369 → B (9225 * w + 369 * h + s) = mV v f sg w (24 - h) s
def okC (v : Nat → Int32) (f : Nat → Nat → Int32) (sg : Nat → Int32) (rv j : Nat) (C : Nat → Int32) : Prop := ∀ h s, j ≤ h → h ≤ 24 → s < 369 → C (369 * h + s) = mA v f sg rv (24 - h) s
/-- and in hour h for the states below s -/
def okBs (v : Nat → Int32) (f : Nat → Nat → Int32) (sg : Nat → Int32) (h s1 : Nat) (B : Nat → Int32) : Prop := ∀ w s, w < 3 → s < s1 → B (9225 * w + 369 * h + s) = mV v f sg w (24 - h) s
def okCs (v : Nat → Int32) (f : Nat → Nat → Int32) (sg : Nat → Int32) (rv h s1 : Nat) (C : Nat → Int32) : Prop := ∀ s, s < s1 → C (369 * h + s) = mA v f sg rv (24 - h) s
theorem okB_upd {v : Nat → Int32} {f : Nat → Nat → Int32} {sg B : Nat → Int32} {h w s : Nat} {x : Int32} (hB : okB v f sg (h + 1) B) (hw : w < 3) (hs : s < 369) (hh : h ≤ 24) : okB v f sg (h + 1) (upd B (9225 * w + 369 * h + s) x) := by
  intro w' h' s' h1 h2 h3 h4
  rw [← hB w' h' s' h1 h2 h3 h4]
  exact if_neg (by omega)
theorem okC_upd {v : Nat → Int32} {f : Nat → Nat → Int32} {sg C : Nat → Int32} {rv h s : Nat} {x : Int32} (hC : okC v f sg rv (h + 1) C) (hs : s < 369) : okC v f sg rv (h + 1) (upd C (369 * h + s) x) := by
  intro h' s' h2 h3 h4
  rw [← hC h' s' h2 h3 h4]
  exact if_neg (by omega)
theorem okBs_3 {v : Nat → Int32} {f : Nat → Nat → Int32} {sg B : Nat → Int32} {h s : Nat} (hB : okBs v f sg h s B) (hs : s < 369) (hh : h ≤ 24) : okBs v f sg h (s + 1) (upd (upd (upd B (0 + 369 * h + s) (mV v f sg 0 (24 - h) s)) (9225 + 369 * h + s) (mV v f sg 1 (24 - h) s)) (18450 + 369 * h + s) (mV v f sg 2 (24 - h) s)) := by
  intro w s' hw hs'
  by_cases e : s' = s
  · subst e
    rcases (show w = 0 ∨ w = 1 ∨ w = 2 by omega) with rfl | rfl | rfl
    · show (if _ then _ else if _ then _ else if _ then _ else _) = _
      rw [if_neg (by omega), if_neg (by omega), if_pos (by omega)]
    · show (if _ then _ else if _ then _ else if _ then _ else _) = _
      rw [if_neg (by omega), if_pos (by omega)]
    · show (if _ then _ else if _ then _ else if _ then _ else _) = _
      rw [if_pos (by omega)]
  · rw [← hB w s' hw (by omega)]
    show (if _ then _ else if _ then _ else if _ then _ else _) = _
    rw [if_neg (by omega), if_neg (by omega), if_neg (by omega)]
theorem okCs_1 {v : Nat → Int32} {f : Nat → Nat → Int32} {sg C : Nat → Int32} {rv h s : Nat} (hC : okCs v f sg rv h s C) : okCs v f sg rv h (s + 1) (upd C (369 * h + s) (mA v f sg rv (24 - h) s)) := by
  intro s' hs'
  by_cases e : s' = s
  · subst e; exact if_pos rfl
  · rw [← hC s' (by omega)]
    exact if_neg (by omega)
theorem mV_step {v : Nat → Int32} {f : Nat → Nat → Int32} {sg B : Nat → Int32} {w h s : Nat} (h40 : (v 2).toInt ≤ 40) (hB : okB v f sg (h + 1) B) (hw : w < 3) (hh : h < 24) : m_b9 (m_brW v f B w h s (sg h)) = mV v f sg w (24 - h) s := by
  rw [show 24 - h = (23 - h) + 1 by omega]
  show _ = m_b9 (fun a b => m_br v f (23 - (23 - h)) s (sg (23 - (23 - h))) a b (mV v f sg w (23 - h)) (m_finW f w (23 - (23 - h)) s a b))
  rw [show 23 - (23 - h) = h by omega]
  refine m_b9_congr (fun a b ha hb => m_br_congr h40 ha hb (fun k hk => ?_))
  have := hB w (h + 1) k hw (Nat.le_refl _) (by omega) hk
  rw [show 24 - (h + 1) = 23 - h by omega] at this
  exact this
theorem mA_step {v : Nat → Int32} {f : Nat → Nat → Int32} {sg C : Nat → Int32} {rv h s : Nat} (h40 : (v 2).toInt ≤ 40) (hC : okC v f sg rv (h + 1) C) (hh : h < 24) (hr : ¬ rv ≤ h) : m_b9 (m_brA v f C h s (sg h)) = mA v f sg rv (24 - h) s := by
  rw [show 24 - h = (23 - h) + 1 by omega]
  show _ = if rv ≤ 23 - (23 - h) then _ else m_b9 (fun a b => m_br v f (23 - (23 - h)) s (sg (23 - (23 - h))) a b (mA v f sg rv (23 - h)) (m_finA f (23 - (23 - h)) s a b))
  rw [show 23 - (23 - h) = h by omega, if_neg hr]
  refine m_b9_congr (fun a b ha hb => m_br_congr h40 ha hb (fun k hk => ?_))
  have := hC (h + 1) k (Nat.le_refl _) (by omega) hk
  rw [show 24 - (h + 1) = 23 - h by omega] at this
  exact this
theorem mW_step {v : Nat → Int32} {f : Nat → Nat → Int32} {sg B : Nat → Int32} {rv h s : Nat} (hB : okBs v f sg h (s + 1) B) (hr : h = 24 ∨ rv ≤ h) (hh : h ≤ 24) : m_wt f B h s = mA v f sg rv (24 - h) s := by
  have e0 := hB 0 s (by decide) (by omega)
  have e1 := hB 1 s (by decide) (by omega)
  have e2 := hB 2 s (by decide) (by omega)
  have k : m_wt f B h s = mW3 f (fun w => mV v f sg w (24 - h) s) := by
    rw [m_wt, show 0 + 369 * h + s = 9225 * 0 + 369 * h + s by omega, show 9225 + 369 * h + s = 9225 * 1 + 369 * h + s by omega, show 18450 + 369 * h + s = 9225 * 2 + 369 * h + s by omega, e0, e1, e2]
    rfl
  rw [k]
  by_cases e : h = 24
  · subst e; rfl
  · rw [show 24 - h = (23 - h) + 1 by omega]
    show _ = if rv ≤ 23 - (23 - h) then _ else _
    rw [show 23 - (23 - h) = h by omega, if_pos (by omega)]
theorem m1_lt {n : Nat} (h : n < 2 ^ 30) : nI n - 1 < nI n := by
  rw [Int32.lt_iff_toInt_lt, show (1 : Int32) = nI 1 from rfl, pk_sub_toInt h (by decide), nI_toInt (by omega)]
  omega
theorem m1_eq (x : Int32) : x + Int32.ofInt (-1) = x - 1 := by
  rw [Int32.sub_eq_add_neg]; rfl
