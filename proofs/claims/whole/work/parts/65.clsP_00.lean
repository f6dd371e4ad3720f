/-- two worlds' rows are alike in the hours from lo to hi -/
def rowsE (f G : Nat → Nat → Int32) (lo hi : Nat) : Prop := (∀ h d, lo ≤ h → h < hi → d < 9 → G 18 (h * 9 + d) = f 18 (h * 9 + d) ∧ G 19 (h * 9 + d) = f 19 (h * 9 + d) ∧ G 21 (h * 9 + d) = f 21 (h * 9 + d) ∧ G 22 (h * 9 + d) = f 22 (h * 9 + d)) ∧ ∀ d m, d < 9 → m < 9 → G 23 (d * 9 + m) = f 23 (d * 9 + m)
theorem fP_congr {f G : Nat → Nat → Int32} {lo hi h d : Nat} {sc : Int32} {pr be : Nat → Int32} {k j : Nat} {x : I2} (hR : rowsE f G lo hi) (h1 : lo ≤ h) (h2 : h < hi) (hd : d < 9) : fP G h d sc pr be k j x = fP f h d sc pr be k j x := by
  obtain ⟨e18, e19, e21, e22⟩ := hR.1 h d h1 h2 hd
  have e23 := hR.2 d (j % 9) hd (by omega)
  unfold fP opn tTo fMon
  rw [e18, e19, e21, e22, e23]
theorem pD_congr {f G : Nat → Nat → Int32} {lo hi h : Nat} {sc : Int32} {pr be : Nat → Int32} (hR : rowsE f G lo hi) (h1 : lo ≤ h) (h2 : h < hi) (n : Nat) (hn : n ≤ 9) (j : Nat) : pD G h sc pr be n j = pD f h sc pr be n j := by
  induction n with
  | zero => rfl
  | succ n ih =>
    show fP G h n sc pr be 9 j (pD G h sc pr be n j) = fP f h n sc pr be 9 j (pD f h sc pr be n j)
    rw [ih (by omega), fP_congr hR h1 h2 (by omega)]
theorem cV_congr {f G : Nat → Nat → Int32} {lo to : Nat} {sc : Int32} {pr va ch ch' : Nat → Int32} (hR : rowsE f G lo to) (k : Nat) (hk : k ≤ to - lo) : (∀ j, (cV G sc pr to va ch k j).1 = (cV f sc pr to va ch' k j).1) ∧ (0 < k → ∀ j, (cV G sc pr to va ch k j).2 = (cV f sc pr to va ch' k j).2) := by
  induction k with
  | zero => exact ⟨fun j => rfl, fun h => absurd h (Nat.lt_irrefl _)⟩
  | succ k ih =>
    have e : ∀ j, cV G sc pr to va ch (k + 1) j = cV f sc pr to va ch' (k + 1) j := by
      intro j
      show pD G (to - 1 - k) sc pr (fun i => (cV G sc pr to va ch k i).1) 9 j = pD f (to - 1 - k) sc pr (fun i => (cV f sc pr to va ch' k i).1) 9 j
      rw [show (fun i => (cV G sc pr to va ch k i).1) = (fun i => (cV f sc pr to va ch' k i).1) from funext (ih (by omega)).1]
      exact pD_congr hR (by omega) (by omega) 9 (by omega) j
    exact ⟨fun j => by rw [e], fun _ j => by rw [e]⟩
theorem plV_congr {f G : Nat → Nat → Int32} {lo to : Nat} {sc : Int32} {pr va ch : Nat → Int32} (ch' : Nat → Int32) (hR : rowsE f G lo to) {k : Nat} (hk : k ≤ to - lo) : plV G sc pr to va ch k = plV f sc pr to va ch' k := funext (cV_congr hR k hk).1
theorem plC_congr {f G : Nat → Nat → Int32} {lo to : Nat} {sc : Int32} {pr va ch : Nat → Int32} (ch' : Nat → Int32) (hR : rowsE f G lo to) {k : Nat} (hk : k ≤ to - lo) (h0 : 0 < k) : plC G sc pr to va ch k = plC f sc pr to va ch' k := funext ((cV_congr hR k hk).2 h0)
theorem rowsE_le {f G : Nat → Nat → Int32} {lo hi lo' hi' : Nat} (h : rowsE f G lo hi) (h1 : lo ≤ lo') (h2 : hi' ≤ hi) : rowsE f G lo' hi' := ⟨fun h' d a b c => h.1 h' d (by omega) (by omega) c, h.2⟩
theorem opOK_congr {f G : Nat → Nat → Int32} {lo hi h d : Nat} (hR : rowsE f G lo hi) (h1 : lo ≤ h) (h2 : h < hi) (hd : d < 9) (ho : opOK f h d) : opOK G h d := by
  obtain ⟨e18, e19, e21, e22⟩ := hR.1 h d h1 h2 hd
  unfold opOK opn
  rw [e19, e21, e22]
  exact ho
/-- what is foreseen, as rows that depend on the class's numbers alone -/
noncomputable def cF (v : Nat → Int32) (f : Nat → Nat → Int32) (nw : Nat) (t : Int32) : Nat → Nat → Int32 := fun k => match k with
  | 18 => fun i => d_en v (i % 9)
  | 19 => fun i => d_sh v f (i / 9) (i % 9)
  | 21 => fun i => d_lo v f (i / 9) (c_sg f nw t (i / 9)) (i % 9)
  | 22 => fun i => d_hi v f (i / 9) (c_sg f nw t (i / 9)) (i % 9)
  | 23 => d_costs v
  | _ => fun _ => 0
noncomputable def foreF (v : Nat → Int32) (f : Nat → Nat → Int32) (x : X5) : Nat → Nat → Int32 := va_up (lookX f x) 23 (d_costs v)
theorem foreF_E {v : Nat → Int32} {f : Nat → Nat → Int32} {nw : Nat} {t : Int32} {x : X5} (h : seeOK v f nw t 24 x) : rowsE (cF v f nw t) (foreF v f x) nw 24 := by
  refine ⟨fun h' d h1 h2 hd => ?_, fun d m _ _ => rfl⟩
  obtain ⟨a, b, _, c, e⟩ := h h' d h1 h2 hd
  have e9 : (h' * 9 + d) / 9 = h' := by omega
  have em : (h' * 9 + d) % 9 = d := by omega
  refine ⟨?_, ?_, ?_, ?_⟩
  · show x.1 (h' * 9 + d) = d_en v ((h' * 9 + d) % 9)
    rw [em]; exact a
  · show x.2.1 (h' * 9 + d) = d_sh v f ((h' * 9 + d) / 9) ((h' * 9 + d) % 9)
    rw [em, e9]; exact b
  · show x.2.2.2.1 (h' * 9 + d) = d_lo v f ((h' * 9 + d) / 9) (c_sg f nw t ((h' * 9 + d) / 9)) ((h' * 9 + d) % 9)
    rw [em, e9]; exact c
  · show x.2.2.2.2 (h' * 9 + d) = d_hi v f ((h' * 9 + d) / 9) (c_sg f nw t ((h' * 9 + d) / 9)) ((h' * 9 + d) % 9)
    rw [em, e9]; exact e
theorem up_ne {F : Nat → Nat → Int32} {a j : Nat} {x : Nat → Int32} (h : ¬ j = a) : va_up F a x j = F j := if_neg h
theorem foreF_k {v : Nat → Int32} {f : Nat → Nat → Int32} {x : X5} (k : Nat) (h : k < 18 ∨ (24 ≤ k ∧ k < 27)) : foreF v f x k = f k := by
  show va_up (va_up (va_up (va_up (va_up (va_up f 18 _) 19 _) 20 _) 21 _) 22 _) 23 _ k = f k
  rw [up_ne (by omega), up_ne (by omega), up_ne (by omega), up_ne (by omega), up_ne (by omega), up_ne (by omega)]
/-- the worlds' values and choices from max nw rv on -/
noncomputable def wVal (v : Nat → Int32) (f : Nat → Nat → Int32) (nw rv : Nat) (t : Int32) (w : Nat) : Nat → Int32 := plV (cF v f nw t) (v (40 + w)) (f (24 + w)) 24 (endRow (v 31)) (fun _ => 0) (24 - max nw rv)
noncomputable def wCho (v : Nat → Int32) (f : Nat → Nat → Int32) (nw rv : Nat) (t : Int32) (w : Nat) : Nat → Int32 := plC (cF v f nw t) (v (40 + w)) (f (24 + w)) 24 (endRow (v 31)) (fun _ => 0) (24 - max nw rv)
noncomputable def cAV (v : Nat → Int32) (f : Nat → Nat → Int32) (nw rv : Nat) (t : Int32) : Nat → Int32 := plV (cF v f nw t) (mxS f 3) (mxP f 3) rv (mxV f (wVal v f nw rv t) 3) (fun _ => 0) (rv - nw)
noncomputable def cAC (v : Nat → Int32) (f : Nat → Nat → Int32) (nw rv : Nat) (t : Int32) : Nat → Int32 := plC (cF v f nw t) (mxS f 3) (mxP f 3) rv (mxV f (wVal v f nw rv t) 3) (fun _ => 0) (rv - nw)
theorem mxS_congr {f G : Nat → Nat → Int32} (h : G 10 = f 10) (n : Nat) : mxS G n = mxS f n := by
  induction n with
  | zero => rfl
  | succ n ih =>
    show cI (¬ G 10 n ≤ 0) (mxS G n + G 10 n) (mxS G n) = cI (¬ f 10 n ≤ 0) (mxS f n + f 10 n) (mxS f n)
    rw [ih, h]
theorem mxP_congr {f G : Nat → Nat → Int32} (h : G 10 = f 10) (n : Nat) (hw : ∀ w, w < n → G (24 + w) = f (24 + w)) : mxP G n = mxP f n := by
  induction n with
  | zero => rfl
  | succ n ih =>
    show cI (¬ G 10 n ≤ 0) (mixP (mxP G n) (G (24 + n)) (G 10 n)) (mxP G n) = cI (¬ f 10 n ≤ 0) (mixP (mxP f n) (f (24 + n)) (f 10 n)) (mxP f n)
    rw [ih (fun w q => hw w (by omega)), h, hw n (by omega)]
theorem mxV_congr {f G : Nat → Nat → Int32} {V V' : Nat → Nat → Int32} (h : G 10 = f 10) (n : Nat) (hw : ∀ w, w < n → ¬ f 10 w ≤ 0 → V w = V' w) : mxV G V n = mxV f V' n := by
  induction n with
  | zero => rfl
  | succ n ih =>
    show cI (¬ G 10 n ≤ 0) (mixV (mxV G V n) (V n) (G 10 n)) (mxV G V n) = cI (¬ f 10 n ≤ 0) (mixV (mxV f V' n) (V' n) (f 10 n)) (mxV f V' n)
    rw [ih (fun w q => hw w (by omega)), h]
    by_cases q : f 10 n ≤ 0
    · rw [cI_f (fun z => z q), cI_f (fun z => z q)]
    · rw [cI_t q, cI_t q, hw n (by omega) q]
/-- behind planAll -/
def paOK (v : Nat → Int32) (f : Nat → Nat → Int32) (nw rv : Nat) (t : Int32) (u : CS) : Prop := (∀ k, ¬ k = 43 → u.2.1 k = v k) ∧ (∀ k, (k < 18 ∨ (24 ≤ k ∧ k < 27)) → u.2.2 k = f k) ∧ u.2.2 31 = cAV v f nw rv t ∧ (nw < rv → u.2.2 39 = cAC v f nw rv t)
/-- on the way: n worlds are planned -/
def paIn (v : Nat → Int32) (f : Nat → Nat → Int32) (nw rv : Nat) (t : Int32) (n : Nat) (F : Nat → Nat → Int32) : Prop := rowsE (cF v f nw t) F nw 24 ∧ (∀ k, (k < 18 ∨ (24 ≤ k ∧ k < 27)) → F k = f k) ∧ ∀ w, w < n → ¬ f 10 w ≤ 0 → F (28 + w) = wVal v f nw rv t w
theorem paIn_0 {v : Nat → Int32} {f : Nat → Nat → Int32} {nw rv : Nat} {t : Int32} {x : X5} (h : seeOK v f nw t 24 x) : paIn v f nw rv t 0 (foreF v f x) := ⟨foreF_E h, foreF_k, fun w h => absurd h (Nat.not_lt_zero _)⟩
theorem paIn_f {v : Nat → Int32} {f : Nat → Nat → Int32} {nw rv : Nat} {t : Int32} {n : Nat} {F : Nat → Nat → Int32} (h : paIn v f nw rv t n F) (hc : F 10 n ≤ 0) : paIn v f nw rv t (n + 1) F := by
  refine ⟨h.1, h.2.1, fun w hw hn => ?_⟩
  by_cases e : w = n
  · rw [h.2.1 10 (Or.inl (by omega))] at hc
    subst e
    exact absurd hc hn
  · exact h.2.2 w (by omega) hn
theorem paIn_t {v : Nat → Int32} {f : Nat → Nat → Int32} {nw rv : Nat} {t : Int32} {n : Nat} {F : Nat → Nat → Int32} {e1 : Nat → Int32} (h : paIn v f nw rv t n F) (hn : n < 3) : paIn v f nw rv t (n + 1) (va_up (va_up (va_up (va_up F (28 + n) (endRow (v 31))) (28 + n) (plV (va_up F (28 + n) (endRow (v 31))) (v (40 + n)) (F (24 + n)) 24 (endRow (v 31)) (F (36 + n)) (24 - max nw rv))) (32 + n) e1) (36 + n) (plC (va_up F (28 + n) (endRow (v 31))) (v (40 + n)) (F (24 + n)) 24 (endRow (v 31)) (F (36 + n)) (24 - max nw rv))) := by
  have k1 : ∀ (x y w q : Nat → Int32) (j : Nat), j < 28 + n → va_up (va_up (va_up (va_up F (28 + n) x) (28 + n) y) (32 + n) w) (36 + n) q j = F j := by
    intro x y w q j hj
    rw [up_ne (by omega), up_ne (by omega), up_ne (by omega), up_ne (by omega)]
  have hR : ∀ G : Nat → Nat → Int32, (∀ j, j < 28 → G j = F j) → rowsE (cF v f nw t) G nw 24 := by
    intro G hG
    refine ⟨fun h' d a b c => ?_, fun d m a b => ?_⟩
    · rw [hG 18 (by omega), hG 19 (by omega), hG 21 (by omega), hG 22 (by omega)]; exact h.1.1 h' d a b c
    · rw [hG 23 (by omega)]; exact h.1.2 d m a b
  refine ⟨hR _ (fun j hj => k1 _ _ _ _ j (by omega)), fun k hk => (k1 _ _ _ _ k (by omega)).trans (h.2.1 k hk), fun w hw hc => ?_⟩
  by_cases e : w = n
  · subst e
    rw [up_ne (by omega), up_ne (by omega)]
    show (if 28 + w = 28 + w then _ else _) = _
    rw [if_pos rfl, h.2.1 (24 + w) (Or.inr (by omega))]
    exact plV_congr _ (hR (va_up F (28 + w) (endRow (v 31))) (fun j hj => up_ne (by omega))) (by omega)
  · rw [k1 _ _ _ _ (28 + w) (by omega)]
    exact h.2.2 w (by omega) hc
set_option maxHeartbeats 4000000 in
set_option maxRecDepth 100000 in
theorem c_X4_planAll (l : Launch) (E : GG) (r z : Nat → Nat) (v : Nat → Int32) (f : Nat → Nat → Int32) (sz : Nat) (u1 : Nat) (nw rv lo : Nat) (hnw : v 32 = nI nw) (hn24 : nw ≤ 24) (hrv : v 30 = nI rv) (hr24 : rv ≤ 24) (hlo : v 5 = nI lo) (hop : ∀ h d, nw ≤ h → h < 24 → d < 9 → opOK (cF v f nw (nI (u1 + lo))) h d) : Met l yX4_planAll wsX4_planAll (Rm 4 0 0) (pM E [.ref (r 0), .int (nI u1)] (CZ E r z v f) sz) (va_Qv (fun (u : CS) => paOK v f nw rv (nI (u1 + lo)) u) (bM E (va_A (CZ E r z v f) sz) (fun (u : CS) => CZ E r u.1 u.2.1 u.2.2)) (va_A (CZ E r z v f) sz)) 0 0 (va_A (CZ E r z v f) sz) := by
  refine ofM (by decide) rfl (Nat.le_of_ble_eq_true rfl) ?_
  intro p e s m below meth c A hx hb hr hlocks hml hown hin hts hK hP hD hS hA hsz hAe ls hl
  rw [← hAe]
  have hl : lv_has ls 3 [(0, .ref (r 0)), (1, .int (nI u1))] := hl
  refine lv_aload_n hx hb dX4_planAll_0 rfl (lv_at hl 0 rfl) ?_
  refine va_get (D := E.1) (ci := 4) (v := .ref (r 4)) (C := RX4) (T := TX4) (N := 13) hx hb hts (fun _ h => (List.mem_cons_of_mem _ (List.mem_append_left _ (List.mem_append_left _ (List.mem_append_left _ (List.mem_append_left _ (List.mem_append_right _ h))))))) hown hK.1 hP 15 rfl rfl 3 (by decide) (hts _ (List.mem_of_getElem? (i := 1) rfl)) (fun _ h9 => h9) rfl dX4_planAll_1 ?_
  refine lv_aload_n hx hb dX4_planAll_4 rfl (lv_at hl 0 rfl) ?_
  refine va_get (D := E.1) (ci := 4) (v := .int (v 32)) (C := RX4) (T := TX4) (N := 13) hx hb hts (fun _ h => (List.mem_cons_of_mem _ (List.mem_append_left _ (List.mem_append_left _ (List.mem_append_left _ (List.mem_append_left _ (List.mem_append_right _ h))))))) hown hK.1 hP 15 rfl rfl 11 (by decide) (hts _ (List.mem_of_getElem? (i := 2) rfl)) (fun _ h9 => h9) rfl dX4_planAll_5 ?_
  refine w_top (show (v 32) = nI nw from hnw) ?_
  refine lv_iload_n hx hb dX4_planAll_8 rfl (lv_at hl 1 rfl) ?_
  refine lv_aload_n hx hb dX4_planAll_9 rfl (lv_at hl 0 rfl) ?_
  refine va_get (D := E.1) (ci := 4) (v := .ref (r 1)) (C := RX4) (T := TX4) (N := 13) hx hb hts (fun _ h => (List.mem_cons_of_mem _ (List.mem_append_left _ (List.mem_append_left _ (List.mem_append_left _ (List.mem_append_left _ (List.mem_append_right _ h))))))) hown hK.1 hP 15 rfl rfl 0 (by decide) (hts _ (List.mem_of_getElem? (i := 3) rfl)) (fun _ h9 => h9) rfl dX4_planAll_10 ?_
  refine va_getN (D := E.1) (ci := 1) (v := .int (v 5)) (C := RX1) (T := TX1) (N := 9) (host := "TwoLakes") (ref := RX1) hx hb hts (fun _ h => (List.mem_cons_of_mem _ (List.mem_append_left _ (List.mem_append_left _ (List.mem_append_left _ (List.mem_append_right _ h)))))) hown hK.1 hP 1 rfl rfl 5 (by decide) (va_Nw.use rfl (hK.2.1 (RX4, 89, RX1, "lower", "I") (List.mem_of_getElem? (i := 7) rfl))) (fun _ h9 => h9) rfl dX4_planAll_13 ?_
  refine w_top (show (v 5) = nI lo from hlo) ?_
  refine lv_iadd hx hb dX4_planAll_16 ?_
  refine w_top (show ((nI u1) + (nI lo)) = (nI (u1 + lo)) from nI_add _ _) ?_
  refine cM_v (As := [.ref (r 4), .int (nI nw), .int (nI (u1 + lo))]) (wr := [((r 0), .inr (4, [.ref (r 1), .ref (r 2), .ref (r 3), .ref (r 4), .ref (r 9), .ref (r 8), .ref (r 10), .ref (r 11), .ref (r 12), .int (v 30), .int (v 31), .int (v 32), .int (v 33)])), ((r 9), .inl (E.2 2, 3, .inr (.inr (.inr (.inr (va_up (va_up (va_up (fun _ => none) 0 (some (r 5))) 1 (some (r 6))) 2 (some (r 7)))))))), ((r 10), .inl (E.2 0, 3, .inl (f 10))), ((r 11), .inl (E.2 0, 41, .inl (f 11))), ((r 12), .inl (E.2 0, 3, .inl (f 12))), ((r 5), .inr (3, [.ref (r 24), .int (v 40), .ref (z 0), .ref (z 4), .ref (r 36)])), ((r 24), .inl (E.2 0, 24, .inl (f 24))), ((z 0), .inl (E.2 0, 369, .inl (f 28))), ((z 4), .inl (E.2 0, 369, .inl (f 32))), ((r 36), .inl (E.2 0, 369, .inl (f 36))), ((r 6), .inr (3, [.ref (r 25), .int (v 41), .ref (z 1), .ref (z 5), .ref (r 37)])), ((r 25), .inl (E.2 0, 24, .inl (f 25))), ((z 1), .inl (E.2 0, 369, .inl (f 29))), ((z 5), .inl (E.2 0, 369, .inl (f 33))), ((r 37), .inl (E.2 0, 369, .inl (f 37))), ((r 7), .inr (3, [.ref (r 26), .int (v 42), .ref (z 2), .ref (z 6), .ref (r 38)])), ((r 26), .inl (E.2 0, 24, .inl (f 26))), ((z 2), .inl (E.2 0, 369, .inl (f 30))), ((z 6), .inl (E.2 0, 369, .inl (f 34))), ((r 38), .inl (E.2 0, 369, .inl (f 38))), ((r 8), .inr (3, [.ref (r 27), .int (v 43), .ref (z 3), .ref (z 7), .ref (r 39)])), ((r 27), .inl (E.2 0, 24, .inl (f 27))), ((z 3), .inl (E.2 0, 369, .inl (f 31))), ((z 7), .inl (E.2 0, 369, .inl (f 35))), ((r 39), .inl (E.2 0, 369, .inl (f 39)))]) (rM_VN ⟨hx, hb, hml, hown, hts⟩ (c_X0_foresee l E r v f s.heap.size nw (nI (u1 + lo)) hn24) ⟨(va_cnB 2 hts gX4_planAll_X0_foresee_n216 rfl rfl rfl (hK.2.2 (RX4, 216, yX0_foresee) (List.mem_of_getElem? (i := 16) rfl)) (hts _ (List.mem_of_getElem? (i := 8) rfl)) (by decide +kernel) ⟨Nat.le_of_ble_eq_true rfl, Nat.le_of_ble_eq_true rfl⟩), (hts _ (List.mem_of_getElem? (i := 7) rfl)), (hts _ (List.mem_of_getElem? (i := 9) rfl))⟩ hK (hP.sub (ws' := DW E r v f) [0, 1, 2, 3, 4, 5, 6, 7, 8, 9, 10, 11, 12, 13, 14] rfl) (hD.sub (ws' := DW E r v f) [0, 1, 2, 3, 4, 5, 6, 7, 8, 9, 10, 11, 12, 13, 14] (by decide) rfl) 0 0 rfl rfl rfl hl.1 rfl (Nat.le_of_ble_eq_true rfl) dX4_planAll_17 ⟨Nat.le_of_ble_eq_true rfl, Nat.le_of_ble_eq_true rfl⟩) hP hD hS hA [0, 1, 2, 3, 4, 5, 6, 7, 8, 9, 10, 11, 12, 13, 14] [15, 16, 17, 18, 19, 20, 21, 22, 23, 24, 25, 26, 27, 28, 29, 30, 31, 32, 33, 34, 35, 36, 37, 38, 39] rfl rfl (by decide) (by decide) (fun u_1 H locs hq_1 hP hD hS => ?_)
  have hP := hP.sub (ws' := CZ E r z v (va_up (lookX f u_1) 23 (rowG (f 23) 81 (d_costs v)))) [25, 26, 27, 28, 29, 30, 31, 32, 33, 34, 35, 36, 37, 38, 39, 0, 1, 2, 3, 4, 5, 6, 7, 8, 9, 10, 11, 12, 13, 14, 15, 16, 17, 18, 19, 20, 21, 22, 23, 24] rfl
  have hD := hD.sub (ws' := CZ E r z v (va_up (lookX f u_1) 23 (rowG (f 23) 81 (d_costs v)))) [25, 26, 27, 28, 29, 30, 31, 32, 33, 34, 35, 36, 37, 38, 39, 0, 1, 2, 3, 4, 5, 6, 7, 8, 9, 10, 11, 12, 13, 14, 15, 16, 17, 18, 19, 20, 21, 22, 23, 24] (by decide) rfl
  have hP := P_row hP hD 14 (d_costs v) rfl (fun i h => rowG_all i h)
  have hD := hD.set (e := .inl (E.2 0, 81, .inl (d_costs v))) (p := 14) rfl
  have hP : va_P E.1 vwCl (CZ E r z v (foreF v f u_1)) H := hP
  have hD : va_D A (CZ E r z v (foreF v f u_1)) := hD
  refine lv_iconst (v := 0) hx hb dX4_planAll_20 (by decide) ?_
  refine lv_istore_n (lv' := [(2, .int 0), (0, .ref (r 0)), (1, .int (nI u1))]) hx hb dX4_planAll_21 rfl hl (by decide) rfl (fun ls hl => ?_)
  refine w_while (σ := Heap × List Loc × Array Slot × Nat × (Nat → Nat) × (Nat → Nat → Int32)) (fun ⟨H, locs, ls, n, Z, F⟩ => 3 - n) (fun ⟨H, locs, ls, n, Z, F⟩ => va_P E.1 vwCl (CZ E r Z v F) H ∧ va_D A (CZ E r Z v F) ∧ va_S A s.heap H locs ∧ lv_has ls 3 [(0, .ref (r 0)), (1, .int (nI u1)), (2, .int (nI n))] ∧ n ≤ 3 ∧ paIn v f nw rv (nI (u1 + lo)) n F) (fun ⟨H, locs, ls, n, Z, F⟩ => H) (fun ⟨H, locs, ls, n, Z, F⟩ => locs) (fun ⟨H, locs, ls, n, Z, F⟩ => F0 m 22 ls []) ?_ (H, locs, ls, 0, z, (foreF v f u_1)) ⟨hP, hD, hS, lv_sub hl [1, 2, 0] rfl, Nat.zero_le _, paIn_0 hq_1⟩
  rintro ⟨H, locs, ls, n, Z, F⟩ ⟨hP, hD, hS, hl, hn, hI⟩ ih22
  dsimp only at hP hD hS hl ⊢
  refine lv_iload_n hx hb dX4_planAll_22 rfl (lv_at hl 2 rfl) ?_
  refine lv_iconst (v := 3) hx hb dX4_planAll_23 (by decide) ?_
  refine n_icmp_ge (tgt := 47) (a := n) (b := 3) hx hb dX4_planAll_24 (by decide) (by omega) (by omega) (fun c_2 => ?_) (fun c_2 => ?_)
  · skip
    obtain rfl : n = 3 := by omega
    refine lv_aload_n hx hb dX4_planAll_47 rfl (lv_at hl 0 rfl) ?_
    refine cM_v (As := [.ref (r 0)]) (wr := []) (rM_V ⟨hx, hb, hml, hown, hts⟩ (c_X4_mixWorlds l E r Z v F H.size) (cwV 0 hts gX4_planAll_X4_mixWorlds rfl rfl rfl (by decide +kernel) ⟨Nat.le_of_ble_eq_true rfl, Nat.le_of_ble_eq_true rfl⟩) hK hP hD 4 15 rfl rfl rfl hl.1 rfl (Nat.le_of_ble_eq_true rfl) dX4_planAll_48 ⟨Nat.le_of_ble_eq_true rfl, Nat.le_of_ble_eq_true rfl⟩) hP hD hS hA [0, 1, 2, 3, 4, 5, 6, 7, 8, 9, 10, 11, 12, 13, 14, 15, 16, 17, 18, 19, 20, 21, 22, 23, 24, 25, 26, 27, 28, 29, 30, 31, 32, 33, 34, 35, 36, 37, 38, 39] [] rfl rfl (by decide) (by decide) (fun u_3 H locs hq_3 hP hD hS => ?_)
    have em1 : mxS F 3 = mxS f 3 := mxS_congr (hI.2.1 10 (by omega)) 3
    have em2 : mxP F 3 = mxP f 3 := mxP_congr (hI.2.1 10 (by omega)) 3 (fun w hw => hI.2.1 (24 + w) (by omega))
    have em3 : mxV F (fun w => F (28 + w)) 3 = mxV f (wVal v f nw rv (nI (u1 + lo))) 3 := mxV_congr (hI.2.1 10 (by omega)) 3 (fun w hw hc => hI.2.2 w (by omega) hc)
    obtain ⟨sX, esX⟩ : ∃ x, mxS F 3 = x := ⟨_, rfl⟩
    obtain ⟨pX, epX⟩ : ∃ x, mxP F 3 = x := ⟨_, rfl⟩
    obtain ⟨vX, evX⟩ : ∃ x, mxV F (fun w => F (28 + w)) 3 = x := ⟨_, rfl⟩
    rw [esX] at em1
    rw [epX] at em2
    rw [evX] at em3
    have hP : va_P E.1 vwCl (CZ E r Z (upd v 43 (mxS F 3)) (va_up (va_up F 27 (mxP F 3)) 31 (mxV F (fun w => F (28 + w)) 3))) H := hP
    have hD : va_D A (CZ E r Z (upd v 43 (mxS F 3)) (va_up (va_up F 27 (mxP F 3)) 31 (mxV F (fun w => F (28 + w)) 3))) := hD
    rw [esX, epX, evX] at hP hD
    have hRF : rowsE (cF v f nw (nI (u1 + lo))) (va_up (va_up F 27 pX) 31 vX) nw 24 := hI.1
    refine lv_aload_n hx hb dX4_planAll_51 rfl (lv_at hl 0 rfl) ?_
    refine va_get (D := E.1) (ci := 4) (v := .ref (r 8)) (C := RX4) (T := TX4) (N := 13) hx hb hts (fun _ h => (List.mem_cons_of_mem _ (List.mem_append_left _ (List.mem_append_left _ (List.mem_append_left _ (List.mem_append_left _ (List.mem_append_right _ h))))))) hown hK.1 hP 15 rfl rfl 5 (by decide) (hts _ (List.mem_of_getElem? (i := 5) rfl)) (fun _ h9 => h9) rfl dX4_planAll_52 ?_
    refine lv_aload_n hx hb dX4_planAll_55 rfl (lv_at hl 0 rfl) ?_
    refine va_get (D := E.1) (ci := 4) (v := .ref (r 4)) (C := RX4) (T := TX4) (N := 13) hx hb hts (fun _ h => (List.mem_cons_of_mem _ (List.mem_append_left _ (List.mem_append_left _ (List.mem_append_left _ (List.mem_append_left _ (List.mem_append_right _ h))))))) hown hK.1 hP 15 rfl rfl 3 (by decide) (hts _ (List.mem_of_getElem? (i := 1) rfl)) (fun _ h9 => h9) rfl dX4_planAll_56 ?_
    refine lv_aload_n hx hb dX4_planAll_59 rfl (lv_at hl 0 rfl) ?_
    refine va_get (D := E.1) (ci := 4) (v := .int (v 32)) (C := RX4) (T := TX4) (N := 13) hx hb hts (fun _ h => (List.mem_cons_of_mem _ (List.mem_append_left _ (List.mem_append_left _ (List.mem_append_left _ (List.mem_append_left _ (List.mem_append_right _ h))))))) hown hK.1 hP 15 rfl rfl 11 (by decide) (hts _ (List.mem_of_getElem? (i := 2) rfl)) (fun _ h9 => h9) rfl dX4_planAll_60 ?_
    refine w_top (show (v 32) = nI nw from hnw) ?_
    refine lv_aload_n hx hb dX4_planAll_63 rfl (lv_at hl 0 rfl) ?_
    refine va_get (D := E.1) (ci := 4) (v := .int (v 30)) (C := RX4) (T := TX4) (N := 13) hx hb hts (fun _ h => (List.mem_cons_of_mem _ (List.mem_append_left _ (List.mem_append_left _ (List.mem_append_left _ (List.mem_append_left _ (List.mem_append_right _ h))))))) hown hK.1 hP 15 rfl rfl 9 (by decide) (hts _ (List.mem_of_getElem? (i := 6) rfl)) (fun _ h9 => h9) rfl dX4_planAll_64 ?_
    refine w_top (show (v 30) = nI rv from hrv) ?_
    refine cM_v (As := [.ref (r 8), .ref (r 4), .int (nI nw), .int (nI rv)]) (wr := [((r 1), .inr (1, [.int (v 0), .int (v 1), .int (v 2), .int (v 3), .int (v 4), .int (v 5), .ref (r 13), .ref (r 14), .ref (r 15)])), ((r 2), .inr (2, [.int (v 10), .int (v 11), .int (v 12), .int (v 13), .int (v 14), .int (v 15), .int (v 16), .ref (r 16)])), ((r 3), .inr (2, [.int (v 20), .int (v 21), .int (v 22), .int (v 23), .int (v 24), .int (v 25), .int (v 26), .ref (r 17)])), ((r 13), .inl (E.2 0, 24, .inl (F 13))), ((r 14), .inl (E.2 0, 24, .inl (F 14))), ((r 15), .inl (E.2 0, 24, .inl (F 15))), ((r 16), .inl (E.2 1, 24, .inl (F 16))), ((r 17), .inl (E.2 1, 24, .inl (F 17))), ((r 20), .inl (E.2 0, 216, .inl (F 20))), ((r 0), .inr (4, [.ref (r 1), .ref (r 2), .ref (r 3), .ref (r 4), .ref (r 9), .ref (r 8), .ref (r 10), .ref (r 11), .ref (r 12), .int (v 30), .int (v 31), .int (v 32), .int (v 33)])), ((r 9), .inl (E.2 2, 3, .inr (.inr (.inr (.inr (va_up (va_up (va_up (fun _ => none) 0 (some (r 5))) 1 (some (r 6))) 2 (some (r 7)))))))), ((r 10), .inl (E.2 0, 3, .inl (F 10))), ((r 11), .inl (E.2 0, 41, .inl (F 11))), ((r 12), .inl (E.2 0, 3, .inl (F 12))), ((r 5), .inr (3, [.ref (r 24), .int (v 40), .ref (Z 0), .ref (Z 4), .ref (r 36)])), ((r 24), .inl (E.2 0, 24, .inl (F 24))), ((Z 0), .inl (E.2 0, 369, .inl (F 28))), ((Z 4), .inl (E.2 0, 369, .inl (F 32))), ((r 36), .inl (E.2 0, 369, .inl (F 36))), ((r 6), .inr (3, [.ref (r 25), .int (v 41), .ref (Z 1), .ref (Z 5), .ref (r 37)])), ((r 25), .inl (E.2 0, 24, .inl (F 25))), ((Z 1), .inl (E.2 0, 369, .inl (F 29))), ((Z 5), .inl (E.2 0, 369, .inl (F 33))), ((r 37), .inl (E.2 0, 369, .inl (F 37))), ((r 7), .inr (3, [.ref (r 26), .int (v 42), .ref (Z 2), .ref (Z 6), .ref (r 38)])), ((r 26), .inl (E.2 0, 24, .inl (F 26))), ((Z 2), .inl (E.2 0, 369, .inl (F 30))), ((Z 6), .inl (E.2 0, 369, .inl (F 34))), ((r 38), .inl (E.2 0, 369, .inl (F 38)))]) (rM_VN ⟨hx, hb, hml, hown, hts⟩ (c_X3_plan l E (qo r Z 3) r sX pX vX (F 35) (F 39) (va_up (va_up F 27 pX) 31 vX) H.size nw rv (by omega) (by omega) (fun h d a b c => opOK_congr hRF (by omega) (by omega) c (hop h d (by omega) (by omega) c))) ⟨(va_cnB 3 hts gX4_planAll_X3_plan_n228 rfl rfl rfl (hK.2.2 (RX4, 228, yX3_plan) (List.mem_of_getElem? (i := 18) rfl)) (hts _ (List.mem_of_getElem? (i := 99) rfl)) (by decide +kernel) ⟨Nat.le_of_ble_eq_true rfl, Nat.le_of_ble_eq_true rfl⟩), (hts _ (List.mem_of_getElem? (i := 103) rfl)), (hts _ (List.mem_of_getElem? (i := 104) rfl))⟩ hK (hP.sub (ws' := PW E (qo r Z 3) r sX pX vX (F 35) (F 39) (va_up (va_up F 27 pX) 31 vX)) [35, 36, 37, 38, 39, 0, 9, 10, 12, 13, 14] rfl) (hD.sub (ws' := PW E (qo r Z 3) r sX pX vX (F 35) (F 39) (va_up (va_up F 27 pX) 31 vX)) [35, 36, 37, 38, 39, 0, 9, 10, 12, 13, 14] (by decide) rfl) 3 0 rfl rfl rfl hl.1 rfl (Nat.le_of_ble_eq_true rfl) dX4_planAll_67 ⟨Nat.le_of_ble_eq_true rfl, Nat.le_of_ble_eq_true rfl⟩) hP hD hS hA [35, 36, 37, 38, 39, 0, 9, 10, 12, 13, 14] [1, 2, 3, 4, 5, 6, 7, 8, 11, 15, 16, 17, 18, 19, 20, 21, 22, 23, 24, 25, 26, 27, 28, 29, 30, 31, 32, 33, 34] rfl rfl (by decide) (by decide) (fun u_4 H locs hq_4 hP hD hS => ?_)
    obtain ⟨⟨a_4, b_4⟩, e_4⟩ := u_4
    have hP := hP.sub (ws' := CZ E r (va_up (va_up Z 3 a_4) 7 b_4) (upd v 43 sX) (va_up (va_up (va_up (va_up (va_up F 27 pX) 31 vX) 31 (plV (va_up (va_up F 27 pX) 31 vX) sX pX rv vX (F 39) (rv - nw))) 35 e_4) 39 (plC (va_up (va_up F 27 pX) 31 vX) sX pX rv vX (F 39) (rv - nw)))) [34, 0, 1, 2, 3, 4, 5, 6, 7, 35, 36, 8, 37, 38, 39, 9, 10, 11, 12, 13, 14, 15, 16, 17, 18, 19, 20, 21, 22, 23, 24, 25, 26, 27, 28, 29, 30, 31, 32, 33] rfl
    have hD := hD.sub (ws' := CZ E r (va_up (va_up Z 3 a_4) 7 b_4) (upd v 43 sX) (va_up (va_up (va_up (va_up (va_up F 27 pX) 31 vX) 31 (plV (va_up (va_up F 27 pX) 31 vX) sX pX rv vX (F 39) (rv - nw))) 35 e_4) 39 (plC (va_up (va_up F 27 pX) 31 vX) sX pX rv vX (F 39) (rv - nw)))) [34, 0, 1, 2, 3, 4, 5, 6, 7, 35, 36, 8, 37, 38, 39, 9, 10, 11, 12, 13, 14, 15, 16, 17, 18, 19, 20, 21, 22, 23, 24, 25, 26, 27, 28, 29, 30, 31, 32, 33] (by decide) rfl
    exact qv_ret (((va_up (va_up Z 3 a_4) 7 b_4), (upd v 43 sX), (va_up (va_up (va_up (va_up (va_up F 27 pX) 31 vX) 31 (plV (va_up (va_up F 27 pX) 31 vX) sX pX rv vX (F 39) (rv - nw))) 35 e_4) 39 (plC (va_up (va_up F 27 pX) 31 vX) sX pX rv vX (F 39) (rv - nw)))) : CS) hx hb hr hlocks ⟨fun k hk => if_neg hk, fun k hk => by dsimp only; rw [up_ne (by omega), up_ne (by omega), up_ne (by omega), up_ne (by omega), up_ne (by omega)]; exact hI.2.1 k hk, (plV_congr (fun _ => 0) (rowsE_le hRF (Nat.le_refl _) hr24) (Nat.le_refl _)).trans (by rw [cAV, ← em1, ← em2, ← em3]), fun hlt => (plC_congr (fun _ => 0) (rowsE_le hRF (Nat.le_refl _) hr24) (Nat.le_refl _) (by omega)).trans (by rw [cAC, ← em1, ← em2, ← em3])⟩ hP hD hS dX4_planAll_70
  · skip
    rcases (show n = 0 ∨ n = 1 ∨ n = 2 by omega) with rfl | rfl | rfl
    · skip
      refine lv_aload_n hx hb dX4_planAll_27 rfl (lv_at hl 0 rfl) ?_
      refine va_get (D := E.1) (ci := 4) (v := .ref (r 10)) (C := RX4) (T := TX4) (N := 13) hx hb hts (fun _ h => (List.mem_cons_of_mem _ (List.mem_append_left _ (List.mem_append_left _ (List.mem_append_left _ (List.mem_append_left _ (List.mem_append_right _ h))))))) hown hK.1 hP 15 rfl rfl 6 (by decide) (hts _ (List.mem_of_getElem? (i := 4) rfl)) (fun _ h9 => h9) rfl dX4_planAll_28 ?_
      refine lv_iload_n hx hb dX4_planAll_31 rfl (lv_at hl 2 rfl) ?_
      refine n_iald (f := F 10) hx hb hK.1 hP 17 0 rfl rfl (i := 0) (by omega) (by decide) dX4_planAll_32 ?_
      refine lv_if_le (tgt := 41) hx hb dX4_planAll_33 (by decide) (fun c_5 => ?_) (fun c_5 => ?_)
      · skip
        refine lv_iinc (v := (nI 1)) (lv' := [(2, .int (nI 1)), (0, .ref (r 0)), (1, .int (nI u1))]) hx hb dX4_planAll_41 hl (k := 2) rfl (nI_1 _) (by decide) rfl (fun ls hl => ?_)
        refine lv_goto (tgt := 22) hx hb dX4_planAll_44 (by decide) ?_
        exact ih22 (H, locs, ls, 0 + 1, Z, F) ⟨hP, hD, hS, lv_sub hl [1, 2, 0] rfl, by omega, paIn_f (n := 0) hI c_5⟩ (by dsimp only; omega)
      · skip
        refine lv_aload_n hx hb dX4_planAll_36 rfl (lv_at hl 0 rfl) ?_
        refine lv_iload_n hx hb dX4_planAll_37 rfl (lv_at hl 2 rfl) ?_
        refine cM_v (As := [.ref (r 0), .int 0]) (wr := []) (rM_V ⟨hx, hb, hml, hown, hts⟩ (c_X4_planWorld0 l E r Z v F H.size nw rv hnw hn24 hrv hr24 (fun h d a b c => opOK_congr hI.1 (by omega) b c (hop h d (by omega) b c))) (cwV 1 hts gX4_planAll_X4_planWorld rfl rfl rfl (by decide +kernel) ⟨Nat.le_of_ble_eq_true rfl, Nat.le_of_ble_eq_true rfl⟩) hK hP hD 4 15 rfl rfl rfl hl.1 rfl (Nat.le_of_ble_eq_true rfl) dX4_planAll_38 ⟨Nat.le_of_ble_eq_true rfl, Nat.le_of_ble_eq_true rfl⟩) hP hD hS hA [0, 1, 2, 3, 4, 5, 6, 7, 8, 9, 10, 11, 12, 13, 14, 15, 16, 17, 18, 19, 20, 21, 22, 23, 24, 25, 26, 27, 28, 29, 30, 31, 32, 33, 34, 35, 36, 37, 38, 39] [] rfl rfl (by decide) (by decide) (fun u_6 H locs hq_6 hP hD hS => ?_)
        obtain ⟨⟨a_6, b_6⟩, e_6⟩ := u_6
        have hP : va_P E.1 vwCl (CZ E r (va_up (va_up Z 0 a_6) 4 b_6) v (va_up (va_up (va_up (va_up F 28 (endRow (v 31))) 28 (plV (va_up F 28 (endRow (v 31))) (v 40) (F 24) 24 (endRow (v 31)) (F 36) (24 - max nw rv))) 32 e_6) 36 (plC (va_up F 28 (endRow (v 31))) (v 40) (F 24) 24 (endRow (v 31)) (F 36) (24 - max nw rv)))) H := hP
        have hD : va_D A (CZ E r (va_up (va_up Z 0 a_6) 4 b_6) v (va_up (va_up (va_up (va_up F 28 (endRow (v 31))) 28 (plV (va_up F 28 (endRow (v 31))) (v 40) (F 24) 24 (endRow (v 31)) (F 36) (24 - max nw rv))) 32 e_6) 36 (plC (va_up F 28 (endRow (v 31))) (v 40) (F 24) 24 (endRow (v 31)) (F 36) (24 - max nw rv)))) := hD
        refine lv_iinc (v := (nI 1)) (lv' := [(2, .int (nI 1)), (0, .ref (r 0)), (1, .int (nI u1))]) hx hb dX4_planAll_41 hl (k := 2) rfl (nI_1 _) (by decide) rfl (fun ls hl => ?_)
        refine lv_goto (tgt := 22) hx hb dX4_planAll_44 (by decide) ?_
        exact ih22 (H, locs, ls, 0 + 1, (va_up (va_up Z 0 a_6) 4 b_6), (va_up (va_up (va_up (va_up F 28 (endRow (v 31))) 28 (plV (va_up F 28 (endRow (v 31))) (v 40) (F 24) 24 (endRow (v 31)) (F 36) (24 - max nw rv))) 32 e_6) 36 (plC (va_up F 28 (endRow (v 31))) (v 40) (F 24) 24 (endRow (v 31)) (F 36) (24 - max nw rv)))) ⟨hP, hD, hS, lv_sub hl [1, 2, 0] rfl, by omega, paIn_t (n := 0) hI (by omega)⟩ (by dsimp only; omega)
    · skip
      refine lv_aload_n hx hb dX4_planAll_27 rfl (lv_at hl 0 rfl) ?_
      refine va_get (D := E.1) (ci := 4) (v := .ref (r 10)) (C := RX4) (T := TX4) (N := 13) hx hb hts (fun _ h => (List.mem_cons_of_mem _ (List.mem_append_left _ (List.mem_append_left _ (List.mem_append_left _ (List.mem_append_left _ (List.mem_append_right _ h))))))) hown hK.1 hP 15 rfl rfl 6 (by decide) (hts _ (List.mem_of_getElem? (i := 4) rfl)) (fun _ h9 => h9) rfl dX4_planAll_28 ?_
      refine lv_iload_n hx hb dX4_planAll_31 rfl (lv_at hl 2 rfl) ?_
      refine n_iald (f := F 10) hx hb hK.1 hP 17 0 rfl rfl (i := 1) (by omega) (by decide) dX4_planAll_32 ?_
      refine lv_if_le (tgt := 41) hx hb dX4_planAll_33 (by decide) (fun c_7 => ?_) (fun c_7 => ?_)
      · skip
        refine lv_iinc (v := (nI 2)) (lv' := [(2, .int (nI 2)), (0, .ref (r 0)), (1, .int (nI u1))]) hx hb dX4_planAll_41 hl (k := 2) rfl (nI_1 _) (by decide) rfl (fun ls hl => ?_)
        refine lv_goto (tgt := 22) hx hb dX4_planAll_44 (by decide) ?_
        exact ih22 (H, locs, ls, 1 + 1, Z, F) ⟨hP, hD, hS, lv_sub hl [1, 2, 0] rfl, by omega, paIn_f (n := 1) hI c_7⟩ (by dsimp only; omega)
      · skip
        refine lv_aload_n hx hb dX4_planAll_36 rfl (lv_at hl 0 rfl) ?_
        refine lv_iload_n hx hb dX4_planAll_37 rfl (lv_at hl 2 rfl) ?_
        refine cM_v (As := [.ref (r 0), .int 1]) (wr := []) (rM_V ⟨hx, hb, hml, hown, hts⟩ (c_X4_planWorld1 l E r Z v F H.size nw rv hnw hn24 hrv hr24 (fun h d a b c => opOK_congr hI.1 (by omega) b c (hop h d (by omega) b c))) (cwV 1 hts gX4_planAll_X4_planWorld rfl rfl rfl (by decide +kernel) ⟨Nat.le_of_ble_eq_true rfl, Nat.le_of_ble_eq_true rfl⟩) hK hP hD 4 15 rfl rfl rfl hl.1 rfl (Nat.le_of_ble_eq_true rfl) dX4_planAll_38 ⟨Nat.le_of_ble_eq_true rfl, Nat.le_of_ble_eq_true rfl⟩) hP hD hS hA [0, 1, 2, 3, 4, 5, 6, 7, 8, 9, 10, 11, 12, 13, 14, 15, 16, 17, 18, 19, 20, 21, 22, 23, 24, 25, 26, 27, 28, 29, 30, 31, 32, 33, 34, 35, 36, 37, 38, 39] [] rfl rfl (by decide) (by decide) (fun u_8 H locs hq_8 hP hD hS => ?_)
        obtain ⟨⟨a_8, b_8⟩, e_8⟩ := u_8
        have hP : va_P E.1 vwCl (CZ E r (va_up (va_up Z 1 a_8) 5 b_8) v (va_up (va_up (va_up (va_up F 29 (endRow (v 31))) 29 (plV (va_up F 29 (endRow (v 31))) (v 41) (F 25) 24 (endRow (v 31)) (F 37) (24 - max nw rv))) 33 e_8) 37 (plC (va_up F 29 (endRow (v 31))) (v 41) (F 25) 24 (endRow (v 31)) (F 37) (24 - max nw rv)))) H := hP
        have hD : va_D A (CZ E r (va_up (va_up Z 1 a_8) 5 b_8) v (va_up (va_up (va_up (va_up F 29 (endRow (v 31))) 29 (plV (va_up F 29 (endRow (v 31))) (v 41) (F 25) 24 (endRow (v 31)) (F 37) (24 - max nw rv))) 33 e_8) 37 (plC (va_up F 29 (endRow (v 31))) (v 41) (F 25) 24 (endRow (v 31)) (F 37) (24 - max nw rv)))) := hD
        refine lv_iinc (v := (nI 2)) (lv' := [(2, .int (nI 2)), (0, .ref (r 0)), (1, .int (nI u1))]) hx hb dX4_planAll_41 hl (k := 2) rfl (nI_1 _) (by decide) rfl (fun ls hl => ?_)
        refine lv_goto (tgt := 22) hx hb dX4_planAll_44 (by decide) ?_
        exact ih22 (H, locs, ls, 1 + 1, (va_up (va_up Z 1 a_8) 5 b_8), (va_up (va_up (va_up (va_up F 29 (endRow (v 31))) 29 (plV (va_up F 29 (endRow (v 31))) (v 41) (F 25) 24 (endRow (v 31)) (F 37) (24 - max nw rv))) 33 e_8) 37 (plC (va_up F 29 (endRow (v 31))) (v 41) (F 25) 24 (endRow (v 31)) (F 37) (24 - max nw rv)))) ⟨hP, hD, hS, lv_sub hl [1, 2, 0] rfl, by omega, paIn_t (n := 1) hI (by omega)⟩ (by dsimp only; omega)
    · skip
      refine lv_aload_n hx hb dX4_planAll_27 rfl (lv_at hl 0 rfl) ?_
      refine va_get (D := E.1) (ci := 4) (v := .ref (r 10)) (C := RX4) (T := TX4) (N := 13) hx hb hts (fun _ h => (List.mem_cons_of_mem _ (List.mem_append_left _ (List.mem_append_left _ (List.mem_append_left _ (List.mem_append_left _ (List.mem_append_right _ h))))))) hown hK.1 hP 15 rfl rfl 6 (by decide) (hts _ (List.mem_of_getElem? (i := 4) rfl)) (fun _ h9 => h9) rfl dX4_planAll_28 ?_
      refine lv_iload_n hx hb dX4_planAll_31 rfl (lv_at hl 2 rfl) ?_
      refine n_iald (f := F 10) hx hb hK.1 hP 17 0 rfl rfl (i := 2) (by omega) (by decide) dX4_planAll_32 ?_
      refine lv_if_le (tgt := 41) hx hb dX4_planAll_33 (by decide) (fun c_9 => ?_) (fun c_9 => ?_)
      · skip
        refine lv_iinc (v := (nI 3)) (lv' := [(2, .int (nI 3)), (0, .ref (r 0)), (1, .int (nI u1))]) hx hb dX4_planAll_41 hl (k := 2) rfl (nI_1 _) (by decide) rfl (fun ls hl => ?_)
        refine lv_goto (tgt := 22) hx hb dX4_planAll_44 (by decide) ?_
        exact ih22 (H, locs, ls, 2 + 1, Z, F) ⟨hP, hD, hS, lv_sub hl [1, 2, 0] rfl, by omega, paIn_f (n := 2) hI c_9⟩ (by dsimp only; omega)
      · skip
        refine lv_aload_n hx hb dX4_planAll_36 rfl (lv_at hl 0 rfl) ?_
        refine lv_iload_n hx hb dX4_planAll_37 rfl (lv_at hl 2 rfl) ?_
        refine cM_v (As := [.ref (r 0), .int 2]) (wr := []) (rM_V ⟨hx, hb, hml, hown, hts⟩ (c_X4_planWorld2 l E r Z v F H.size nw rv hnw hn24 hrv hr24 (fun h d a b c => opOK_congr hI.1 (by omega) b c (hop h d (by omega) b c))) (cwV 1 hts gX4_planAll_X4_planWorld rfl rfl rfl (by decide +kernel) ⟨Nat.le_of_ble_eq_true rfl, Nat.le_of_ble_eq_true rfl⟩) hK hP hD 4 15 rfl rfl rfl hl.1 rfl (Nat.le_of_ble_eq_true rfl) dX4_planAll_38 ⟨Nat.le_of_ble_eq_true rfl, Nat.le_of_ble_eq_true rfl⟩) hP hD hS hA [0, 1, 2, 3, 4, 5, 6, 7, 8, 9, 10, 11, 12, 13, 14, 15, 16, 17, 18, 19, 20, 21, 22, 23, 24, 25, 26, 27, 28, 29, 30, 31, 32, 33, 34, 35, 36, 37, 38, 39] [] rfl rfl (by decide) (by decide) (fun u_10 H locs hq_10 hP hD hS => ?_)
        obtain ⟨⟨a_10, b_10⟩, e_10⟩ := u_10
        have hP : va_P E.1 vwCl (CZ E r (va_up (va_up Z 2 a_10) 6 b_10) v (va_up (va_up (va_up (va_up F 30 (endRow (v 31))) 30 (plV (va_up F 30 (endRow (v 31))) (v 42) (F 26) 24 (endRow (v 31)) (F 38) (24 - max nw rv))) 34 e_10) 38 (plC (va_up F 30 (endRow (v 31))) (v 42) (F 26) 24 (endRow (v 31)) (F 38) (24 - max nw rv)))) H := hP
        have hD : va_D A (CZ E r (va_up (va_up Z 2 a_10) 6 b_10) v (va_up (va_up (va_up (va_up F 30 (endRow (v 31))) 30 (plV (va_up F 30 (endRow (v 31))) (v 42) (F 26) 24 (endRow (v 31)) (F 38) (24 - max nw rv))) 34 e_10) 38 (plC (va_up F 30 (endRow (v 31))) (v 42) (F 26) 24 (endRow (v 31)) (F 38) (24 - max nw rv)))) := hD
        refine lv_iinc (v := (nI 3)) (lv' := [(2, .int (nI 3)), (0, .ref (r 0)), (1, .int (nI u1))]) hx hb dX4_planAll_41 hl (k := 2) rfl (nI_1 _) (by decide) rfl (fun ls hl => ?_)
        refine lv_goto (tgt := 22) hx hb dX4_planAll_44 (by decide) ?_
        exact ih22 (H, locs, ls, 2 + 1, (va_up (va_up Z 2 a_10) 6 b_10), (va_up (va_up (va_up (va_up F 30 (endRow (v 31))) 30 (plV (va_up F 30 (endRow (v 31))) (v 42) (F 26) 24 (endRow (v 31)) (F 38) (24 - max nw rv))) 34 e_10) 38 (plC (va_up F 30 (endRow (v 31))) (v 42) (F 26) 24 (endRow (v 31)) (F 38) (24 - max nw rv)))) ⟨hP, hD, hS, lv_sub hl [1, 2, 0] rfl, by omega, paIn_t (n := 2) hI (by omega)⟩ (by dsimp only; omega)
