section TIEG
variable {v v' : Nat → Int32} {f f' : Nat → Nat → Int32} {V : Nat → Int32} {F : Nat → Nat → Int32} {nw rv up lo m0 m1 : Nat}
theorem CI_keep (h : CI v f V F nw rv up lo m0 m1) (hv : ∀ k, ¬ k = 43 → v' k = v k) (hf : ∀ k, (k < 18) ∨ (24 ≤ k ∧ k < 27) → f' k = f k) : CI v' f' V F nw rv up lo m0 m1 := by
  obtain ⟨hR, hB, hI, hA, hL, hW, hD⟩ := h
  refine ⟨Rel_same hR hv (fun k hk => hf k (by omega)), hB, hI, hA, hL, ?_, ?_⟩
  · rw [hf 11 (by omega)]; exact hW
  · rw [hf 12 (by omega)]; exact hD
theorem look_k {h n : Nat} {t : Int32} (k : Nat) (hk : k < 18 ∨ 23 ≤ k) : lookF v f h t n k = f k := by
  show va_up (va_up (va_up (va_up (va_up f 18 _) 19 _) 20 _) 21 _) 22 _ k = f k
  rw [up_ne (by omega), up_ne (by omega), up_ne (by omega), up_ne (by omega), up_ne (by omega)]
theorem CI_look (h : CI v f V F nw rv up lo m0 m1) {n k : Nat} {t : Int32} : CI v (lookF v f n t k) V F nw rv up lo m0 m1 := CI_keep h (fun _ _ => rfl) (fun k hk => look_k k (by omega))
/-- legal now -/
theorem CI_legal (h : CI v f V F nw rv up lo m0 m1) (hn : nw < 24) {d : Nat} : cLegal v f nw (m0 * 3 + m1) d ↔ m_legal V F nw (V 4) (V 5) (F 21 0) (F 21 1) (nI (d / 3)) (nI (d % 3)) := by
  obtain ⟨-, -, -, -, c4, hu, c5, hl40, -, h03, -, h13⟩ := CI_nat h
  have hv := CI_vld h hu h.2.2.2.1
  have tl := tie_legal (m := m0 * 3 + m1) (d := d) h.1 h.2.1 hn (bd_w (bd_t hu hl40) (by decide) (by decide)) hv
  obtain ⟨-, -, -, -, -, -, i7, -, i9, -, i11, -, i13, -⟩ := h.2.2.1
  rw [i7, i9, i11, i13]
  rw [pk_sub (by omega), show up + lo - up = lo by omega, show (m0 * 3 + m1) / 3 = m0 by omega, show (m0 * 3 + m1) % 3 = m1 by omega] at tl
  rw [tl]
  unfold cLegal cOpen
  rw [cost_iff h.1 h.2.1, c4, c5, nI_add]
theorem n_do9_cases (g : Nat → Nat → Int32) : n_do9 g = -1 ∨ ∃ k, k < 9 ∧ n_do9 g = nI k := by
  rw [← do9_of]
  rcases bst_inv (fun d => g (d / 3) (d % 3)) 9 with ⟨e, -⟩ | ⟨k, hk, e, -⟩
  · exact Or.inl (by rw [e])
  · exact Or.inr ⟨k, hk, by rw [e]⟩
theorem n_doing_cases (V : Nat → Int32) (F : Nat → Nat → Int32) (nw rv w : Nat) (t : Int32) (s : Nat) : n_doing V F nw rv w t s = -1 ∨ ∃ k, k < 9 ∧ n_doing V F nw rv w t s = nI k := by
  rw [n_doing]
  by_cases h : rv ≤ nw
  · rw [if_pos h]; exact n_do9_cases _
  · rw [if_neg h]; exact n_do9_cases _
theorem nI_ge0 {k : Nat} (h : k < 2 ^ 31) : (0 : Int32) ≤ nI k := by rw [t_le, nI_toInt h, t_0]; omega
/-- an hour is done: class and reference stay at one -/
theorem CI_does (h : CI v f V F nw rv up lo m0 m1) (hn : nw < 24) {w d : Nat} (hw : w < 3) (hd : d < 9) (hl : m_legal V F nw (V 4) (V 5) (F 21 0) (F 21 1) (nI (d / 3)) (nI (d % 3))) (t : Int32) : cMon v f w nw (m0 * 3 + m1) d = m_money F w nw (F 21 0) (F 21 1) (nI (d / 3)) (nI (d % 3)) ∧ ∃ up' lo' : Nat, CI (cDoV v f w nw (m0 * 3 + m1) d) (chg (lookF v f nw t 9)) (d_v V F nw w (nI (d / 3)) (nI (d % 3))) (d_f F (nI (d / 3)) (nI (d % 3))) (nw + 1) rv up' lo' (d / 3) (d % 3) := by
  obtain ⟨c32, -, -, -, -, -, -, -, c15, h03, c25, h13⟩ := CI_nat h
  obtain ⟨hR, hB, hI, hA, hL, hW, hD⟩ := h
  obtain ⟨up', lo', hI2⟩ := mInv_does (w := w) hI hn (show d / 3 < 3 by omega) (show d % 3 < 3 by omega) hl
  have em0 : nI ((m0 * 3 + m1) / 3) = F 21 0 := by rw [show (m0 * 3 + m1) / 3 = m0 by omega]; exact hI.2.2.2.2.2.2.2.2.2.2.1.symm
  have em1 : nI ((m0 * 3 + m1) % 3) = F 21 1 := by rw [show (m0 * 3 + m1) % 3 = m1 by omega]; exact hI.2.2.2.2.2.2.2.2.2.2.2.2.1.symm
  have fo : kFol (m0 * 3 + m1) d := by
    show k_follow (nI ((m0 * 3 + m1) / 3)) (nI (d / 3)) ∧ k_follow (nI ((m0 * 3 + m1) % 3)) (nI (d % 3))
    rw [em0, em1]
    exact ⟨hl.2.1.2, hl.2.2.1.2⟩
  have em : cMon v f w nw (m0 * 3 + m1) d = m_money F w nw (F 21 0) (F 21 1) (nI (d / 3)) (nI (d % 3)) := by
    unfold cMon m_money
    rw [tie_en hR, tie_cost hR fo, hR.2.2.2.2.2.1 w nw hw hn]
    show _ - (m_start F 0 (nI ((m0 * 3 + m1) / 3)) (nI (d / 3)) + m_start F 1 (nI ((m0 * 3 + m1) % 3)) (nI (d % 3))) = _
    rw [em0, em1]
  refine ⟨em, up', lo', ?_, hB, hI2, ?_, ?_, fun _ _ _ => Or.inl rfl, fun _ => Or.inl rfl, fun _ _ _ _ => Or.inl rfl⟩
  · have es : d_sh v f nw d = F 8 nw - m_loses F (nI (d / 3)) (nI (d % 3)) := by rw [d_sh, tie_drop hR, (hR.2.2.2.1 nw hn).1]
    have el : d_sl v f nw d = m_loses F (nI (d / 3)) (nI (d % 3)) - F 9 nw := by rw [d_sl, tie_drop hR, (hR.2.2.2.1 nw hn).2.1]
    obtain ⟨⟨e0, e1, e2, e3, e4, e5, e30, e31, e32, e33⟩, ⟨a0, a1, a2, a3, a4, a5, a6⟩, ⟨b0, b1, b2, b3, b4, b5, b6⟩, h4, h5, h6, h7⟩ := hR
    have st : ∀ (p a x : Int32), cI (k_start p a) (x + 1) x = x + m_st p a := by
      intro p a x
      by_cases q : p = 0 ∧ ¬ a = 0
      · rw [cI_t (show k_start p a from q), m_st, if_pos q]
      · rw [cI_f (show ¬ k_start p a from q), m_st, if_neg q, Int32.add_zero]
    refine ⟨⟨e0, e1, e2, e3, ?_, ?_, e30, e31, rfl, ?_⟩, ⟨a0, a1, a2, a3, a4, rfl, ?_⟩, ⟨b0, b1, b2, b3, b4, rfl, ?_⟩, h4, h5, ?_, h7⟩
    · show v 4 + d_sh v f nw d = V 4 + (F 8 nw - m_loses F (nI (d / 3)) (nI (d % 3)))
      rw [es, e4]
    · show v 5 + d_sl v f nw d = V 5 + (m_loses F (nI (d / 3)) (nI (d % 3)) - F 9 nw)
      rw [el, e5]
    · show v 33 + cMon v f w nw (m0 * 3 + m1) d = V 23 + m_money F w nw (F 21 0) (F 21 1) (nI (d / 3)) (nI (d % 3))
      rw [em, e33]
    · show cI (k_start (v 15) (nI (d / 3))) (v 16 + 1) (v 16) = F 22 0 + m_st (F 21 0) (nI (d / 3))
      rw [st, a5, a6]
    · show cI (k_start (v 25) (nI (d % 3))) (v 26 + 1) (v 26) = F 22 1 + m_st (F 21 1) (nI (d % 3))
      rw [st, b5, b6]
    · intro w' h' hw' hh'
      show chg (lookF v f nw t 9) (24 + w') h' = _
      unfold chg
      rw [up_ne (by omega), up_ne (by omega), look_k _ (by omega)]
      exact h6 w' h' hw' hh'
  · have k := (t_in.mp hl.1.1).2
    have q : (d_v V F nw w (nI (d / 3)) (nI (d % 3))) 4 = nI up' := hI2.2.2.2.2.2.2.1
    have q40 := hI2.2.2.2.2.2.2.2.1
    have q : V 4 + (F 8 nw - m_loses F (nI (d / 3)) (nI (d % 3))) = nI up' := q
    rw [i_asb] at q
    rw [q, nI_toInt (by omega)] at k
    exact k
  · have k := (t_in.mp hl.1.2.1).2
    have q : (d_v V F nw w (nI (d / 3)) (nI (d % 3))) 5 = nI lo' := hI2.2.2.2.2.2.2.2.2.1
    have q40 := hI2.2.2.2.2.2.2.2.2.2.1
    have q : V 5 + (m_loses F (nI (d / 3)) (nI (d % 3)) - F 9 nw) = nI lo' := q
    rw [i_asb] at q
    rw [q, nI_toInt (by omega)] at k
    exact k
theorem wat_in (h : CI v f V F nw rv up lo m0 m1) {x : Int32} : m_in x 0 (v 0 - 1) ↔ (¬ x < 0 ∧ x < V 2) := by
  have e := h.1.1.1
  obtain ⟨b1, b2⟩ := h.2.1.1
  rw [e, t_in, t_sub (by rw [t_1]; omega) (by rw [t_1]; omega), t_nlt, t_lt, t_0, t_1]
  omega
/-- the reference's remark of a throw is none of its numbers that count -/
theorem CI_0 (h : CI v f V F nw rv up lo m0 m1) (x : Int32) : CI v f (upd V 0 x) F nw rv up lo m0 m1 := by
  obtain ⟨hR, hB, hI, hA, hL, hW, hD⟩ := h
  refine ⟨hR, hB, hI, hA, hL, fun u h1 h2 => ?_, fun q => ?_, fun q q2 w hw => ?_⟩
  · rw [mA_0]; exact hW u h1 h2
  · rcases hD.1 q with e | e
    · exact Or.inl e
    · exact Or.inr (fun w => by rw [n_doing_0]; exact e w)
  · rw [n_doing_0]; exact hD.2 q q2 w hw
end TIEG
