section LOOPS
variable {p : Program} {l : Launch} {e : Env} {R : Room} {s : State} {m : MethodId} {args : Array Value} {below : List Frame} {meth : Method} {c : Code} {Q : State → Prop} {nL : Nat} {V : gi_V} {cells slots pc n : Nat} {L : List (Nat × Value)} {st : List Value} {h : gi_H}
theorem gi_close {c' s' n' : Nat} {L' : List (Nat × Value)} (k : gi_G p l e R s m args below meth c Q V nL c' s' pc L' st n' h) (hL : ∀ q ∈ L', gi_look L q.1 = some q.2) (hn : n = n') (hc : cells = c') (hs : slots = s') : gi_G p l e R s m args below meth c Q V nL cells slots pc L st n h := by
  subst hn; subst hc; subst hs
  exact gi_to hL k
/-- a loop: at its head the state is as x and the heap say; each turn comes back with less, or goes on -/
theorem gi_while {σ : Type} (μ : σ → Nat) (Lf : σ → List (Nat × Value)) (nf cf sf : σ → Nat) (I : σ → gi_H → Prop) (x : σ) (hx : I x h)
    (step : ∀ (x : σ) (h : gi_H), I x h → (∀ (y : σ) (h' : gi_H), I y h' → μ y < μ x → gi_G p l e R s m args below meth c Q V nL (cf y) (sf y) pc (Lf y) st (nf y) h') → gi_G p l e R s m args below meth c Q V nL (cf x) (sf x) pc (Lf x) st (nf x) h)
    (hL : ∀ q ∈ Lf x, gi_look L q.1 = some q.2) (hn : n = nf x) (hc : cells = cf x) (hs : slots = sf x) : gi_G p l e R s m args below meth c Q V nL cells slots pc L st n h := by
  have key : ∀ (d : Nat) (x : σ) (h : gi_H), μ x ≤ d → I x h → gi_G p l e R s m args below meth c Q V nL (cf x) (sf x) pc (Lf x) st (nf x) h := by
    intro d
    induction d with
    | zero => exact fun x h hd hI => step x h hI (fun y _ _ hy => absurd hy (by omega))
    | succ d ih => exact fun x h hd hI => step x h hI (fun y h' hIy hy => ih y h' (by omega) hIy)
  exact gi_close (key (μ x) x h (Nat.le_refl _) hx) hL hn hc hs
/-- ways that meet again with one value on the stack -/
theorem gi_joinI (pc' : Nat) (P : Int32 → Prop) (J : ∀ x : Int32, P x → gi_G p l e R s m args below meth c Q V nL cells slots pc' L (.int x :: st) n h) (K : (∀ x : Int32, P x → gi_G p l e R s m args below meth c Q V nL cells slots pc' L (.int x :: st) n h) → gi_G p l e R s m args below meth c Q V nL cells slots pc L st n h) : gi_G p l e R s m args below meth c Q V nL cells slots pc L st n h := K J
theorem gi_joinL (pc' : Nat) (P : Int64 → Prop) (J : ∀ x : Int64, P x → gi_G p l e R s m args below meth c Q V nL cells slots pc' L (.long x :: st) n h) (K : (∀ x : Int64, P x → gi_G p l e R s m args below meth c Q V nL cells slots pc' L (.long x :: st) n h) → gi_G p l e R s m args below meth c Q V nL cells slots pc L st n h) : gi_G p l e R s m args below meth c Q V nL cells slots pc L st n h := K J
/-- ways that meet again with nothing changed -/
theorem gi_join0 (pc' : Nat) (P : Prop) (J : P → gi_G p l e R s m args below meth c Q V nL cells slots pc' L st n h) (K : (P → gi_G p l e R s m args below meth c Q V nL cells slots pc' L st n h) → gi_G p l e R s m args below meth c Q V nL cells slots pc L st n h) : gi_G p l e R s m args below meth c Q V nL cells slots pc L st n h := K J
/-- of the heap only this is kept in mind -/
theorem gi_gen (P : gi_H → Prop) (hP : P h) (k : ∀ y : gi_H, P y → gi_G p l e R s m args below meth c Q V nL cells slots pc L st n y) : gi_G p l e R s m args below meth c Q V nL cells slots pc L st n h := k h hP
end LOOPS
