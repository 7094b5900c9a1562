/-! the law's loop -/
section LWL
variable {p : Program} {l : Launch} {e : Env} {s : State} {m : MethodId} {args : Array Value} {below : List Frame} {meth : Method} {c : Code} {D : va_G} {ad : Nat → Nat → Nat} {cA : Nat → ClassId} {A : Nat → Prop} {Q : State → Prop}
/-- a round with onRim or octet, which may make an exception -/
def law_T (p : Program) (l : Launch) (e : Env) (s : State) (m : MethodId) (args : Array Value) (below : List Frame) (meth : Method) (c : Code) (D : va_G) (ad : Nat → Nat → Nat) (cA : Nat → ClassId) (A : Nat → Prop) (Q : State → Prop) (n : Nat) : Prop := ∀ (M : pt_M) (l4 : Int32) (cells slots : Nat), IV_P M → pt_in (l4 + 1) (pt_L M) → pt_in (l4 + 2) (pt_L M) → pt_in (l4 + 3) (pt_L M) → pt_in (l4 + 4) (pt_L M) → pt_in (l4 + 5) (pt_L M) → cells + 1 ≤ 601024 → slots + 6 ≤ 7293034 → (∀ M', IV_P M' → M'.2.2.2.2 = M.2.2.2.2 → pt_At YL_law p l e s m args below meth c D ad cA A (cells + 1) (slots + 6) Q (23, [(0, pt_r 51 0), (1, pt_r 2 0), (2, pt_r 7 0), (3, pt_r 50 0), (4, pt_i (l4 + 6))], [], M')) → pt_At YL_law p l e s m args below meth c D ad cA A cells slots Q (40, [(0, pt_r 51 0), (1, pt_r 2 0), (2, pt_r 7 0), (3, pt_r 50 0), (4, pt_i l4)], [pt_i (nI n)], M)
theorem law_loop (hC : ∀ cells slots, cells ≤ 601024 → slots ≤ 7293034 → pt_Cx YL_law p s m args meth c D ad cA A cells slots) (hT : ∀ n, (n = 13 ∨ n = 20) → law_T p l e s m args below meth c D ad cA A Q n)
    (hE : ∀ M cells slots L, cells ≤ 601024 → slots ≤ 7293034 → pt_At YL_law p l e s m args below meth c D ad cA A cells slots Q (1289, L, [pt_i 1], M)) {N : Nat} (hN : N ≤ 3072) :
    ∀ d i M cells slots, IV_P M → pt_L M = N → 6 * i + 6 * d ≤ N → N < 6 * i + 6 * d + 6 → cells + d ≤ 601024 → slots + 6 * d ≤ 7293034 → pt_At YL_law p l e s m args below meth c D ad cA A cells slots Q (23, [(0, pt_r 51 0), (1, pt_r 2 0), (2, pt_r 7 0), (3, pt_r 50 0), (4, pt_i (nI (6 * i)))], [], M) := by
  intro d
  have hsub : (nI N - 6).toInt = (N : Int) - 6 := pk_sub_toInt (a := N) (b := 6) (by omega) (by decide)
  induction d with
  | zero =>
    intro i M cells slots hI hL h1 h2 h3 h4
    refine ((gL_law_23_2 (nI (6 * i)) 0 M M M ?_).tr (gL_law_1288_1 (nI (6 * i)) 0 M M M)) p l e s m args below meth c D ad cA A cells slots Q (hC cells slots (by omega) (by omega)) (hE M cells slots _ (by omega) (by omega))
    rw [hL, Int32.lt_iff_toInt_lt, hsub, nI_toInt (by omega)]
    omega
  | succ d ih =>
    intro i M cells slots hI hL h1 h2 h3 h4
    have hin : ∀ j, j < 6 → pt_in (nI (6 * i) + nI j) (pt_L M) := fun j hj => by
      rw [nI_add, hL]
      exact pt_in_nI (by omega) (by omega)
    have hin0 : pt_in (nI (6 * i)) (pt_L M) := by
      rw [hL]
      exact pt_in_nI (by omega) (by omega)
    have e6 : nI (6 * i) + 6 = nI (6 * (i + 1)) := by
      rw [show (6 : Int32) = nI 6 from rfl, nI_add]
      rfl
    refine gL_law_23_1 (nI (6 * i)) 0 M M M ?_ hin0 p l e s m args below meth c D ad cA A cells slots Q (hC cells slots (by omega) (by omega)) ?_
    · rw [hL, Int32.lt_iff_toInt_lt, hsub, nI_toInt (by omega)]
      omega
    obtain ⟨n, hn, en⟩ := pk_andE (pt_X M (pt_nt (nI (6 * i)))) (m := 31) 5 rfl
    rw [en]
    have step : ∀ M' cells' slots', IV_P M' → M'.2.2.2.2 = M.2.2.2.2 → cells' + d ≤ 601024 → slots' + 6 * d ≤ 7293034 → pt_At YL_law p l e s m args below meth c D ad cA A cells' slots' Q (23, [(0, pt_r 51 0), (1, pt_r 2 0), (2, pt_r 7 0), (3, pt_r 50 0), (4, pt_i (nI (6 * i) + 6))], [], M') := fun M' cells' slots' i1 i2 i3 i4 => by
      rw [e6]
      exact ih (i + 1) M' cells' slots' i1 ((congrArg (fun z => z.1) i2).trans hL) (by omega) (by omega) i3 i4
    by_cases hx : n = 13 ∨ n = 20
    · exact hT n hx M (nI (6 * i)) cells slots hI (hin 1 (by decide)) (hin 2 (by decide)) (hin 3 (by decide)) (hin 4 (by decide)) (hin 5 (by decide)) (by omega) (by omega) fun M' i1 i2 => step M' _ _ i1 i2 (by omega) (by omega)
    · obtain ⟨M', i1, i2, i3⟩ := it_all hI (l4 := nI (6 * i)) (hin 1 (by decide)) (hin 2 (by decide)) (hin 3 (by decide)) (hin 4 (by decide)) (hin 5 (by decide)) n hn (fun z => hx (.inl z)) (fun z => hx (.inr z))
      exact i3 p l e s m args below meth c D ad cA A cells slots Q (hC cells slots (by omega) (by omega)) (step M' cells slots i1 i2 (by omega) (by omega))
end LWL
