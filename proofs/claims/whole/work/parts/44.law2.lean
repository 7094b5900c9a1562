/-! LAWS: five points in whatever order -/
set_option maxRecDepth 100000 in
theorem t5_tab : ((List.range 1024).all fun mk => decide ((bs_F 5 fun a b c d => os_F (xm_F mk) a b c d (10 - a - b - c - d)).isSome = b5_F (xm_F mk) 0 1 2 3 4)) = true := by decide +kernel
set_option maxRecDepth 100000 in
theorem e5_tab : ((List.range 5).all fun a => (List.range 5).all fun b => (List.range 5).all fun c => (List.range 5).all fun d => decide (a = b) || (decide (b = c) || (decide (a = c) || (decide (d = a) || (decide (d = b) || (decide (d = c) || (decide (10 - a - b - c - d < 5) && (decide (10 - a - b - c - d ≠ a) && (decide (10 - a - b - c - d ≠ b) && (decide (10 - a - b - c - d ≠ c) && decide (10 - a - b - c - d ≠ d))))))))))) = true := by decide +kernel
theorem e5_ok {a b c d : Nat} (ha : a < 5) (hb : b < 5) (hc : c < 5) (hd : d < 5) (h1 : a ≠ b) (h2 : b ≠ c) (h3 : a ≠ c) (h4 : d ≠ a) (h5 : d ≠ b) (h6 : d ≠ c) : 10 - a - b - c - d < 5 ∧ 10 - a - b - c - d ≠ a ∧ 10 - a - b - c - d ≠ b ∧ 10 - a - b - c - d ≠ c ∧ 10 - a - b - c - d ≠ d := by
  have t := pt_all (pt_all (pt_all (pt_all e5_tab ha) hb) hc) hd
  rw [decide_eq_false h1, decide_eq_false h2, decide_eq_false h3, decide_eq_false h4, decide_eq_false h5, decide_eq_false h6] at t
  simpa using t
theorem bs_5 {n : Nat} {B : Nat → Nat → Nat → Bool} {g : Nat → Nat} (hs : sy_P n B) (hg : ∀ q, q < 5 → g q < n) (hj : ∀ p q, p < 5 → q < 5 → g p = g q → p = q) : (bs_F 5 fun a b c d => os_F B (g a) (g b) (g c) (g d) (g (10 - a - b - c - d))).isSome = b5_F B (g 0) (g 1) (g 2) (g 3) (g 4) := by
  have hC := sy_g hs hg hj
  have e : ∀ i j k, i < 5 → j < 5 → k < 5 → i ≠ j → j ≠ k → i ≠ k → B (g i) (g j) (g k) = xm_F (mk_F 10 fun i j k => B (g i) (g j) (g k)) i j k := fun i j k hi hj hk h1 h2 h3 => mk_x hC w5_ok (by decide) hi hj hk h1 h2 h3
  have hlt : mk_F 10 (fun i j k => B (g i) (g j) (g k)) < 1024 := pb_lt _ 10
  have t := of_decide_eq_true (pt_all t5_tab hlt)
  generalize mk_F 10 (fun i j k => B (g i) (g j) (g k)) = mk at *
  have eo : ∀ a b c d f, a < 5 → b < 5 → c < 5 → d < 5 → f < 5 → a ≠ b → a ≠ c → a ≠ d → a ≠ f → b ≠ c → b ≠ d → b ≠ f → c ≠ d → c ≠ f → d ≠ f → os_F B (g a) (g b) (g c) (g d) (g f) = os_F (xm_F mk) a b c d f := fun a b c d f ha hb hc hd hf h1 h2 h3 h4 h5 h6 h7 h8 h9 h10 => by
    unfold os_F
    rw [e a b c ha hb hc h1 h5 h2, e a d f ha hd hf h3 h10 h4, e a b d ha hb hd h1 h6 h3, e a c f ha hc hf h2 h9 h4, e a b f ha hb hf h1 h7 h4, e a c d ha hc hd h2 h8 h3]
  have e1 : (bs_F 5 fun a b c d => os_F B (g a) (g b) (g c) (g d) (g (10 - a - b - c - d))) = bs_F 5 fun a b c d => os_F (xm_F mk) a b c d (10 - a - b - c - d) := bs_cong fun a b c d ha hb hc hd h1 h2 h3 h4 h5 h6 => by
    obtain ⟨q1, q2, q3, q4, q5⟩ := e5_ok ha hb hc hd h1 h2 h3 h4 h5 h6
    exact eo a b c d _ ha hb hc hd q1 h1 h3 (fun z => h4 z.symm) (fun z => q2 z.symm) h2 (fun z => h5 z.symm) (fun z => q3 z.symm) (fun z => h6 z.symm) (fun z => q4 z.symm) (fun z => q5 z.symm)
  rw [e1, t]
  unfold b5_F
  rw [eo 0 1 2 3 4, eo 1 0 2 3 4, eo 2 0 1 3 4, eo 3 0 1 2 4, eo 4 0 1 2 3] <;> decide
