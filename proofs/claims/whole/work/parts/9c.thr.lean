/-! the throws of the class -/
def th_N : String := "java/util/NoSuchElementException"
theorem pt_mono {s : State} {pl : Platform} {R R' : Room} (h : s.hasRoom pl R' = true) (h1 : R.frames ≤ R'.frames) (h2 : R.locals ≤ R'.locals) (h3 : R.cells ≤ R'.cells) (h4 : R.slots ≤ R'.slots) : s.hasRoom pl R = true := by
  unfold State.hasRoom at *
  simp only [Bool.and_eq_true, decide_eq_true_eq] at *
  obtain ⟨⟨⟨⟨a1, a2, a3, a4, a5, a6⟩, b1⟩, b2⟩, b3⟩ := h
  exact ⟨⟨⟨⟨by omega, by omega, by omega, by omega, by omega, a6⟩, by omega⟩, by omega⟩, b3⟩
/-- a walk at a method's own room, in a larger one -/
theorem pt_room {Y : pt_Y} {R' : Room} {σ τ : pt_S} (h : pt_Go Y σ τ) (h1 : Y.2.2.2.2.frames ≤ R'.frames) (h2 : Y.2.2.2.2.locals ≤ R'.locals) (h3 : Y.2.2.2.2.cells ≤ R'.cells) (h4 : Y.2.2.2.2.slots ≤ R'.slots) {p : Program} {l : Launch} {e : Env} {s : State} {m : MethodId} {args : Array Value} {below : List Frame} {meth : Method} {c : Code} {D : va_G} {ad : Nat → Nat → Nat} {cA : Nat → ClassId} {A : Nat → Prop} {Q : State → Prop} (hC : pt_Cx Y p s m args meth c D ad cA A 0 0)
    (hA : ∀ (H : Heap) (locs : List Loc) (ls : Array Slot), pt_Hd D ad cA τ.2.2.2 H → pt_Ro ad A τ.2.2.2 s → va_S A s.heap H locs → lv_has ls Y.2.2.1 (pt_cl ad τ.2.1) → W p l e R' s m args below meth c H locs 0 0 Q (F0 m τ.1 ls (τ.2.2.1.map (pt_cv ad)))) :
    ∀ (H : Heap) (locs : List Loc) (ls : Array Slot), pt_Hd D ad cA σ.2.2.2 H → pt_Ro ad A σ.2.2.2 s → va_S A s.heap H locs → lv_has ls Y.2.2.1 (pt_cl ad σ.2.1) → W p l e R' s m args below meth c H locs 0 0 Q (F0 m σ.1 ls (σ.2.2.1.map (pt_cv ad))) := by
  intro H locs ls g1 g2 g3 g4 T hT X
  exact h p l e s m args below meth c D ad cA A 0 0 Q hC (fun H2 l2 ls2 k1 k2 k3 k4 T2 hT2 X2 => hA H2 l2 ls2 k1 k2 k3 k4 T2 hT2 { X2 with room := X.room }) H locs ls g1 g2 g3 g4 T hT { X with room := pt_mono X.room h1 h2 h3 h4 }
