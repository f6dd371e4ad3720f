section MB3
variable {p : Program} {l : Launch} {e : Env} {R : Room} {s : State} {m : MethodId} {args : Array Value} {below : List Frame} {meth : Method} {c : Code} {Q : State → Prop}
theorem w_whileC {σ : Type} (μ : σ → Nat) (I : σ → Prop) (hp : σ → Heap) (lc : σ → List Loc) (ce sl : σ → Nat) (g : σ → JFrame)
    (step : ∀ x, I x → (∀ y, I y → μ y < μ x → W p l e R s m args below meth c (hp y) (lc y) (ce y) (sl y) Q (g y)) → W p l e R s m args below meth c (hp x) (lc x) (ce x) (sl x) Q (g x)) (x0 : σ) (h0 : I x0) : W p l e R s m args below meth c (hp x0) (lc x0) (ce x0) (sl x0) Q (g x0) := by
  have K : ∀ (n : Nat) (x : σ), μ x < n → I x → W p l e R s m args below meth c (hp x) (lc x) (ce x) (sl x) Q (g x) := by
    intro n
    induction n with
    | zero => intro x h; exact absurd h (Nat.not_lt_zero _)
    | succ n ih => intro x h hI; exact step x hI (fun y hy hm => ih y (by omega) hy)
  exact K (μ x0 + 1) x0 (Nat.lt_succ_self _) h0
end MB3
