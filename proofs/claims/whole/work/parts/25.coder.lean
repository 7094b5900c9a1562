/-! Coder: rows, names -/
/-- all threes of n points in their order -/
def tl_F (n : Nat) : List (Nat × Nat × Nat) := (List.range n).flatMap fun i => (List.range n).flatMap fun j => ((List.range n).filter fun k => decide (i < j) && decide (j < k)).map fun k => (i, j, k)
def tr_F (n p : Nat) : Nat × Nat × Nat := (tl_F n).getD p (0, 0, 0)
set_option maxRecDepth 100000 in
theorem tr_tab : ((List.range 11).all fun n => decide ((tl_F n).length = rk_0 n n) && ((List.range n).all fun i => (List.range n).all fun j => (List.range n).all fun k => !(decide (i < j) && decide (j < k)) || decide (tr_F n (rk_F n i j k) = (i, j, k))) && ((List.range (rk_0 n n)).all fun p => decide ((tr_F n p).1 < (tr_F n p).2.1) && (decide ((tr_F n p).2.1 < (tr_F n p).2.2) && (decide ((tr_F n p).2.2 < n) && decide (rk_F n (tr_F n p).1 (tr_F n p).2.1 (tr_F n p).2.2 = p))))) = true := by decide +kernel
theorem tr_at {n i j k : Nat} (hn : n ≤ 10) (h1 : i < j) (h2 : j < k) (hk : k < n) : tr_F n (rk_F n i j k) = (i, j, k) := by
  have h := pt_all tr_tab (i := n) (by omega)
  rw [Bool.and_eq_true, Bool.and_eq_true] at h
  have h3 := pt_all (pt_all (pt_all h.1.2 (i := i) (by omega)) (i := j) (by omega)) (i := k) hk
  simpa [h1, h2] using h3
theorem tr_of {n p : Nat} (hn : n ≤ 10) (hp : p < rk_0 n n) : ∃ i j k, i < j ∧ j < k ∧ k < n ∧ rk_F n i j k = p ∧ tr_F n p = (i, j, k) := by
  have h := pt_all tr_tab (i := n) (by omega)
  rw [Bool.and_eq_true, Bool.and_eq_true] at h
  have h3 := pt_all h.2 hp
  simp only [Bool.and_eq_true, decide_eq_true_eq] at h3
  exact ⟨_, _, _, h3.1, h3.2.1, h3.2.2.1, h3.2.2.2, rfl⟩
theorem rk_end (n : Nat) : rk_F n n (n + 1) (n + 2) = rk_0 n n := by
  unfold rk_F
  rw [rk_i0 n n (n + 1) (by omega)]
  omega
/-- the row by the names g -/
def rw_F (n : Nat) (B : Nat → Nat → Nat → Bool) (g : Nat → Nat) (mr : Bool) (p : Nat) : Int32 := if B (g (tr_F n p).1) (g (tr_F n p).2.1) (g (tr_F n p).2.2) != mr then 1 else 2
theorem rw_at {n i j k : Nat} {B : Nat → Nat → Nat → Bool} {g : Nat → Nat} {mr : Bool} (hn : n ≤ 10) (h1 : i < j) (h2 : j < k) (hk : k < n) : rw_F n B g mr (rk_F n i j k) = if B (g i) (g j) (g k) != mr then 1 else 2 := by
  unfold rw_F
  rw [tr_at hn h1 h2 hk]
def eq_F (f w : Nat → Int32) : Nat → Bool
  | 0 => true
  | p + 1 => eq_F f w p && decide (w p = f p)
theorem eq_succ (f w : Nat → Int32) (p : Nat) : eq_F f w (p + 1) = (eq_F f w p && decide (w p = f p)) := rfl
theorem eq_iff {f w : Nat → Int32} : ∀ {p : Nat}, eq_F f w p = true ↔ ∀ q, q < p → w q = f q
  | 0 => by simp [eq_F]
  | p + 1 => by
    rw [eq_succ, Bool.and_eq_true, eq_iff, decide_eq_true_eq]
    constructor
    · intro h q hq
      rcases Nat.lt_succ_iff_lt_or_eq.mp hq with h1 | h1
      · exact h.1 q h1
      · rw [h1]; exact h.2
    · intro h
      exact ⟨fun q hq => h q (by omega), h p (by omega)⟩
def co_F (f w : Nat → Int32) (p : Nat) : Nat → Int32 := fun q => if q < p then w q else f q
theorem co_zero (f w : Nat → Int32) : co_F f w 0 = f := by
  funext q
  exact if_neg (Nat.not_lt_zero q)
theorem co_at (f w : Nat → Int32) (p : Nat) : co_F f w p p = f p := if_neg (Nat.lt_irrefl p)
theorem co_step (f w : Nat → Int32) (p : Nat) : upd (co_F f w p) p (w p) = co_F f w (p + 1) := by
  funext q
  unfold upd co_F
  by_cases h : q = p
  · rw [if_pos h, if_pos (by omega), h]
  · rw [if_neg h]
    by_cases h2 : q < p
    · rw [if_pos h2, if_pos (by omega)]
    · rw [if_neg h2, if_neg (by omega)]
theorem co_eq {f w : Nat → Int32} {p : Nat} (h : eq_F f w p = true) : co_F f w p = f := by
  funext q
  unfold co_F
  split
  · exact eq_iff.mp h q (by assumption)
  · rfl
/-- the row is found to be behind at p -/
def rt_F (f w : Nat → Int32) (p : Nat) : Bool := eq_F f w p && decide (f p < w p)
def of_M (M : pt_M) (k t N : Nat) (w : Nat → Int32) : pt_M := if ((List.range N).all fun p => !rt_F (pt_A M k t) w p) = true then pt_wA M k t (co_F (pt_A M k t) w N) else M
theorem fs_none {α : Type} {f : Nat → Option α} : ∀ {d i : Nat}, fs_F d i f = none ↔ ∀ j, i ≤ j → j < i + d → f j = none
  | 0, i => ⟨fun _ j h1 h2 => by omega, fun _ => rfl⟩
  | d + 1, i => by
    unfold fs_F
    cases hf : f i with
    | some v => exact ⟨fun z => (by cases z), fun z => (by have := z i (Nat.le_refl i) (by omega); rw [hf] at this; cases this)⟩
    | none =>
      rw [fs_none]
      constructor
      · intro h j h1 h2
        rcases Nat.eq_or_lt_of_le h1 with e | e
        · rw [← e]; exact hf
        · exact h j (by omega) (by omega)
      · exact fun h j h1 h2 => h j (by omega) (by omega)
theorem of_nest {fst w : Nat → Int32} {n : Nat} (hn : n ≤ 10) : (fs_F (n - 0) 0 fun i => fs_F (n - (i + 1)) (i + 1) fun j => fs_F (n - (j + 1)) (j + 1) fun k => if rt_F fst w (rk_F n i j k) then some () else none) = none ↔ ((List.range (rk_0 n n)).all fun p => !rt_F fst w p) = true := by
  rw [fs_none, List.all_eq_true]
  constructor
  · intro h p hp
    obtain ⟨i, j, k, h1, h2, h3, h4, -⟩ := tr_of hn (List.mem_range.mp hp)
    have e1 := h i (by omega) (by omega)
    rw [fs_none] at e1
    have e2 := e1 j (by omega) (by omega)
    rw [fs_none] at e2
    have e3 := e2 k (by omega) (by omega)
    rw [h4] at e3
    cases hr : rt_F fst w p
    · rfl
    · rw [hr] at e3
      cases e3
  · intro h i _ hi
    rw [fs_none]
    intro j hj0 hj
    rw [fs_none]
    intro k hk0 hk
    obtain ⟨hr1, hr2⟩ := rk_lt n hn i (by omega) j (by omega) k (by omega) (by omega) (by omega)
    have e := h _ (List.mem_range.mpr hr1)
    cases hr : rt_F fst w (rk_F n i j k)
    · simp
    · rw [hr] at e
      cases e
theorem rX0_offerRow_117 {vs : List pt_V} {M M' : pt_M} {L : List (Nat × pt_V)} (hvs : (vs.map pt_w).sum ≤ 11) (hX : M'.2.2.2.2 = M.2.2.2.2) (h : pt_Go YX0_offerRow (0, pt_en 0 vs, [], M) (117, L, [], M')) : pt_Does yX0_offerRow YX0_offerRow vs M none M' := pt_does_go tX0_offerRow_ok nX0_offerRow hvs hX ⟨_, by with_unfolding_all rfl, rfl, rfl⟩ h
theorem rX0_offerRow_166 {vs : List pt_V} {M M' : pt_M} {L : List (Nat × pt_V)} (hvs : (vs.map pt_w).sum ≤ 11) (hX : M'.2.2.2.2 = M.2.2.2.2) (h : pt_Go YX0_offerRow (0, pt_en 0 vs, [], M) (166, L, [], M')) : pt_Does yX0_offerRow YX0_offerRow vs M none M' := pt_does_go tX0_offerRow_ok nX0_offerRow hvs hX ⟨_, by with_unfolding_all rfl, rfl, rfl⟩ h
set_option maxRecDepth 100000 in
theorem gX0_offerRow12_0_1 (t : Nat) (x : Int32)  (M : pt_M) :
    pt_Go YX0_offerRow (0, [(0, pt_r 5 0), (1, pt_r 3 t), (2, pt_i x), (3, pt_r 12 t)], [], M)
      (9, [(0, pt_r 5 0), (1, pt_r 3 t), (2, pt_i x), (3, pt_r 12 t), (4, pt_i 0), (5, pt_i 0), (6, pt_i 0)], [], M) :=
  pt_run_ok tX0_offerRow_ok 6 [] (P := True) (by with_unfolding_all rfl) trivial
set_option maxRecDepth 100000 in
theorem gX0_offerRow12_9_1 (t : Nat) (l2 : Int32) (l4 : Int32) (l5 : Int32) (l6 : Int32)  (M : pt_M) (h1 : t < 7) (h2 : ¬ (pt_F M 3 0 t) ≤ l6) :
    pt_Go YX0_offerRow (9, [(0, pt_r 5 0), (1, pt_r 3 t), (2, pt_i l2), (3, pt_r 12 t), (4, pt_i l4), (5, pt_i l5), (6, pt_i l6)], [], M)
      (24, [(0, pt_r 5 0), (1, pt_r 3 t), (2, pt_i l2), (3, pt_r 12 t), (4, pt_i l4), (5, pt_i l5), (6, pt_i l6), (7, pt_i (l6 + 1))], [], M) :=
  pt_run_ok tX0_offerRow_ok 8 [.inl false] (P := (t < 7) ∧ (¬ (pt_F M 3 0 t) ≤ l6) ∧ True) (by with_unfolding_all rfl) ⟨h1, h2, trivial⟩
set_option maxRecDepth 100000 in
theorem gX0_offerRow12_9_2 (t : Nat) (l2 : Int32) (l4 : Int32) (l5 : Int32) (l6 : Int32)  (M : pt_M) (h1 : t < 7) (h2 : (pt_F M 3 0 t) ≤ l6) :
    pt_Go YX0_offerRow (9, [(0, pt_r 5 0), (1, pt_r 3 t), (2, pt_i l2), (3, pt_r 12 t), (4, pt_i l4), (5, pt_i l5), (6, pt_i l6)], [], M)
      (166, [(0, pt_r 5 0), (1, pt_r 3 t), (2, pt_i l2), (3, pt_r 12 t), (4, pt_i l4), (5, pt_i l5), (6, pt_i l6)], [], M) :=
  pt_run_ok tX0_offerRow_ok 4 [.inl true] (P := (t < 7) ∧ ((pt_F M 3 0 t) ≤ l6) ∧ True) (by with_unfolding_all rfl) ⟨h1, h2, trivial⟩
set_option maxRecDepth 100000 in
theorem gX0_offerRow12_24_1 (t : Nat) (l2 : Int32) (l4 : Int32) (l5 : Int32) (l6 : Int32) (l7 : Int32)  (M : pt_M) (h1 : t < 7) (h2 : ¬ (pt_F M 3 0 t) ≤ l7) :
    pt_Go YX0_offerRow (24, [(0, pt_r 5 0), (1, pt_r 3 t), (2, pt_i l2), (3, pt_r 12 t), (4, pt_i l4), (5, pt_i l5), (6, pt_i l6), (7, pt_i l7)], [], M)
      (39, [(0, pt_r 5 0), (1, pt_r 3 t), (2, pt_i l2), (3, pt_r 12 t), (4, pt_i l4), (5, pt_i l5), (6, pt_i l6), (7, pt_i l7), (8, pt_i (l7 + 1))], [], M) :=
  pt_run_ok tX0_offerRow_ok 8 [.inl false] (P := (t < 7) ∧ (¬ (pt_F M 3 0 t) ≤ l7) ∧ True) (by with_unfolding_all rfl) ⟨h1, h2, trivial⟩
set_option maxRecDepth 100000 in
theorem gX0_offerRow12_24_2 (t : Nat) (l2 : Int32) (l4 : Int32) (l5 : Int32) (l6 : Int32) (l7 : Int32)  (M : pt_M) (h1 : t < 7) (h2 : (pt_F M 3 0 t) ≤ l7) :
    pt_Go YX0_offerRow (24, [(0, pt_r 5 0), (1, pt_r 3 t), (2, pt_i l2), (3, pt_r 12 t), (4, pt_i l4), (5, pt_i l5), (6, pt_i l6), (7, pt_i l7)], [], M)
      (9, [(0, pt_r 5 0), (1, pt_r 3 t), (2, pt_i l2), (3, pt_r 12 t), (4, pt_i l4), (5, pt_i l5), (6, pt_i (l6 + 1))], [], M) :=
  (pt_run_ok tX0_offerRow_ok 6 [.inl true] (P := (t < 7) ∧ ((pt_F M 3 0 t) ≤ l7) ∧ True) (by with_unfolding_all rfl) ⟨h1, h2, trivial⟩ : pt_Go YX0_offerRow _ (9, [(0, pt_r 5 0), (1, pt_r 3 t), (2, pt_i l2), (3, pt_r 12 t), (4, pt_i l4), (5, pt_i l5), (6, pt_i (l6 + 1)), (7, pt_i l7)], [], M)).tr (pt_pick [0, 1, 2, 3, 4, 5, 6] (by with_unfolding_all rfl))
set_option maxRecDepth 100000 in
theorem gX0_offerRow12_39_1 (t : Nat) (l2 : Int32) (l4 : Int32) (l5 : Int32) (l6 : Int32) (l7 : Int32) (l8 : Int32)  (M : pt_M) (h1 : t < 7) (h2 : ¬ (pt_F M 3 0 t) ≤ l8) (h3 : ¬ (nI 120) ≤ l5) (h4 : pt_in l6 10) (h5 : pt_in l7 10) (h6 : pt_in l8 10) (h7 : pt_in (pt_A M 15 0 (pt_nt l6)) 10) (h8 : pt_in (pt_A M 15 0 (pt_nt l7)) 10) (h9 : ¬ (lb_F M t (pt_A M 15 0 (pt_nt l6)) (pt_A M 15 0 (pt_nt l7)) (pt_A M 15 0 (pt_nt l8))) = l2) (h10 : l4 = 0) (h11 : pt_in l5 120) (h12 : ¬ 1 ≤ (pt_A M 12 t (pt_nt l5))) :
    pt_Go YX0_offerRow (39, [(0, pt_r 5 0), (1, pt_r 3 t), (2, pt_i l2), (3, pt_r 12 t), (4, pt_i l4), (5, pt_i l5), (6, pt_i l6), (7, pt_i l7), (8, pt_i l8)], [], M)
      (117, [(0, pt_r 5 0), (1, pt_r 3 t), (2, pt_i l2), (3, pt_r 12 t), (4, pt_i l4), (5, pt_i l5), (6, pt_i l6), (7, pt_i l7), (8, pt_i l8), (9, pt_i 1), (10, pt_i 1)], [], M) :=
  pt_run_ok tX0_offerRow_ok 39 [.inl false, .inl false, .inr (4, some (pt_i (lb_F M t (pt_A M 15 0 (pt_nt l6)) (pt_A M 15 0 (pt_nt l7)) (pt_A M 15 0 (pt_nt l8)))), M), .inl false, .inl false, .inl false, .inl false] (P := (t < 7) ∧ (¬ (pt_F M 3 0 t) ≤ l8) ∧ (t < 7) ∧ (¬ (nI 120) ≤ l5) ∧ (pt_in l6 10) ∧ (pt_in l7 10) ∧ (pt_in l8 10) ∧ pt_Cal YX0_offerRow (.invokevirtual 83) [pt_r 3 t, pt_i (pt_A M 15 0 (pt_nt l6)), pt_i (pt_A M 15 0 (pt_nt l7)), pt_i (pt_A M 15 0 (pt_nt l8))] M (some (pt_i (lb_F M t (pt_A M 15 0 (pt_nt l6)) (pt_A M 15 0 (pt_nt l7)) (pt_A M 15 0 (pt_nt l8))))) M ∧ (¬ (lb_F M t (pt_A M 15 0 (pt_nt l6)) (pt_A M 15 0 (pt_nt l7)) (pt_A M 15 0 (pt_nt l8))) = l2) ∧ (¬ (1 : Int32) = (0 : Int32)) ∧ (l4 = 0) ∧ ((pt_in l5 120) ∧ (t < 7)) ∧ (¬ 1 ≤ (pt_A M 12 t (pt_nt l5))) ∧ True) (by with_unfolding_all rfl) ⟨h1, h2, h1, h3, h4, h5, h6, (pt_callV (i := t) kX0_offerRow_83 mX4_isLeft rfl h1 rfl (dX4_isLeft_v h1 h7 h8)), h9, (by decide), h10, ⟨h11, h1⟩, h12, trivial⟩
set_option maxRecDepth 100000 in
theorem gX0_offerRow12_39_2 (t : Nat) (l2 : Int32) (l4 : Int32) (l5 : Int32) (l6 : Int32) (l7 : Int32) (l8 : Int32)  (M : pt_M) (h1 : t < 7) (h2 : ¬ (pt_F M 3 0 t) ≤ l8) (h3 : ¬ (nI 120) ≤ l5) (h4 : pt_in l6 10) (h5 : pt_in l7 10) (h6 : pt_in l8 10) (h7 : pt_in (pt_A M 15 0 (pt_nt l6)) 10) (h8 : pt_in (pt_A M 15 0 (pt_nt l7)) 10) (h9 : ¬ (lb_F M t (pt_A M 15 0 (pt_nt l6)) (pt_A M 15 0 (pt_nt l7)) (pt_A M 15 0 (pt_nt l8))) = l2) (h10 : l4 = 0) (h11 : pt_in l5 120) (h12 : 1 ≤ (pt_A M 12 t (pt_nt l5))) (h13 : ¬ (pt_A M 12 t (pt_nt l5)) ≤ 1) :
    pt_Go YX0_offerRow (39, [(0, pt_r 5 0), (1, pt_r 3 t), (2, pt_i l2), (3, pt_r 12 t), (4, pt_i l4), (5, pt_i l5), (6, pt_i l6), (7, pt_i l7), (8, pt_i l8)], [], M)
      (39, [(0, pt_r 5 0), (1, pt_r 3 t), (2, pt_i l2), (3, pt_r 12 t), (4, pt_i 1), (5, pt_i (l5 + 1)), (6, pt_i l6), (7, pt_i l7), (8, pt_i (l8 + 1))], [], (pt_wA M 12 t (upd (pt_A M 12 t) (pt_nt l5) 1))) :=
  (pt_run_ok tX0_offerRow_ok 56 [.inl false, .inl false, .inr (4, some (pt_i (lb_F M t (pt_A M 15 0 (pt_nt l6)) (pt_A M 15 0 (pt_nt l7)) (pt_A M 15 0 (pt_nt l8)))), M), .inl false, .inl false, .inl false, .inl true, .inl false, .inl false] (P := (t < 7) ∧ (¬ (pt_F M 3 0 t) ≤ l8) ∧ (t < 7) ∧ (¬ (nI 120) ≤ l5) ∧ (pt_in l6 10) ∧ (pt_in l7 10) ∧ (pt_in l8 10) ∧ pt_Cal YX0_offerRow (.invokevirtual 83) [pt_r 3 t, pt_i (pt_A M 15 0 (pt_nt l6)), pt_i (pt_A M 15 0 (pt_nt l7)), pt_i (pt_A M 15 0 (pt_nt l8))] M (some (pt_i (lb_F M t (pt_A M 15 0 (pt_nt l6)) (pt_A M 15 0 (pt_nt l7)) (pt_A M 15 0 (pt_nt l8))))) M ∧ (¬ (lb_F M t (pt_A M 15 0 (pt_nt l6)) (pt_A M 15 0 (pt_nt l7)) (pt_A M 15 0 (pt_nt l8))) = l2) ∧ (¬ (1 : Int32) = (0 : Int32)) ∧ (l4 = 0) ∧ ((pt_in l5 120) ∧ (t < 7)) ∧ (1 ≤ (pt_A M 12 t (pt_nt l5))) ∧ (l4 = 0) ∧ ((pt_in l5 120) ∧ (t < 7)) ∧ (¬ (pt_A M 12 t (pt_nt l5)) ≤ 1) ∧ ((pt_in l5 120) ∧ (t < 7)) ∧ True) (by with_unfolding_all rfl) ⟨h1, h2, h1, h3, h4, h5, h6, (pt_callV (i := t) kX0_offerRow_83 mX4_isLeft rfl h1 rfl (dX4_isLeft_v h1 h7 h8)), h9, (by decide), h10, ⟨h11, h1⟩, h12, h10, ⟨h11, h1⟩, h13, ⟨h11, h1⟩, trivial⟩ : pt_Go YX0_offerRow _ (39, [(0, pt_r 5 0), (1, pt_r 3 t), (2, pt_i l2), (3, pt_r 12 t), (4, pt_i 1), (5, pt_i (l5 + 1)), (6, pt_i l6), (7, pt_i l7), (8, pt_i (l8 + 1)), (9, pt_i 1), (10, pt_i 1)], [], (pt_wA M 12 t (upd (pt_A M 12 t) (pt_nt l5) 1)))).tr (pt_pick [0, 1, 2, 3, 4, 5, 6, 7, 8] (by with_unfolding_all rfl))
set_option maxRecDepth 100000 in
theorem gX0_offerRow12_39_3 (t : Nat) (l2 : Int32) (l4 : Int32) (l5 : Int32) (l6 : Int32) (l7 : Int32) (l8 : Int32)  (M : pt_M) (h1 : t < 7) (h2 : ¬ (pt_F M 3 0 t) ≤ l8) (h3 : ¬ (nI 120) ≤ l5) (h4 : pt_in l6 10) (h5 : pt_in l7 10) (h6 : pt_in l8 10) (h7 : pt_in (pt_A M 15 0 (pt_nt l6)) 10) (h8 : pt_in (pt_A M 15 0 (pt_nt l7)) 10) (h9 : ¬ (lb_F M t (pt_A M 15 0 (pt_nt l6)) (pt_A M 15 0 (pt_nt l7)) (pt_A M 15 0 (pt_nt l8))) = l2) (h10 : l4 = 0) (h11 : pt_in l5 120) (h12 : 1 ≤ (pt_A M 12 t (pt_nt l5))) (h13 : (pt_A M 12 t (pt_nt l5)) ≤ 1) :
    pt_Go YX0_offerRow (39, [(0, pt_r 5 0), (1, pt_r 3 t), (2, pt_i l2), (3, pt_r 12 t), (4, pt_i l4), (5, pt_i l5), (6, pt_i l6), (7, pt_i l7), (8, pt_i l8)], [], M)
      (39, [(0, pt_r 5 0), (1, pt_r 3 t), (2, pt_i l2), (3, pt_r 12 t), (4, pt_i 0), (5, pt_i (l5 + 1)), (6, pt_i l6), (7, pt_i l7), (8, pt_i (l8 + 1))], [], (pt_wA M 12 t (upd (pt_A M 12 t) (pt_nt l5) 1))) :=
  (pt_run_ok tX0_offerRow_ok 55 [.inl false, .inl false, .inr (4, some (pt_i (lb_F M t (pt_A M 15 0 (pt_nt l6)) (pt_A M 15 0 (pt_nt l7)) (pt_A M 15 0 (pt_nt l8)))), M), .inl false, .inl false, .inl false, .inl true, .inl false, .inl true] (P := (t < 7) ∧ (¬ (pt_F M 3 0 t) ≤ l8) ∧ (t < 7) ∧ (¬ (nI 120) ≤ l5) ∧ (pt_in l6 10) ∧ (pt_in l7 10) ∧ (pt_in l8 10) ∧ pt_Cal YX0_offerRow (.invokevirtual 83) [pt_r 3 t, pt_i (pt_A M 15 0 (pt_nt l6)), pt_i (pt_A M 15 0 (pt_nt l7)), pt_i (pt_A M 15 0 (pt_nt l8))] M (some (pt_i (lb_F M t (pt_A M 15 0 (pt_nt l6)) (pt_A M 15 0 (pt_nt l7)) (pt_A M 15 0 (pt_nt l8))))) M ∧ (¬ (lb_F M t (pt_A M 15 0 (pt_nt l6)) (pt_A M 15 0 (pt_nt l7)) (pt_A M 15 0 (pt_nt l8))) = l2) ∧ (¬ (1 : Int32) = (0 : Int32)) ∧ (l4 = 0) ∧ ((pt_in l5 120) ∧ (t < 7)) ∧ (1 ≤ (pt_A M 12 t (pt_nt l5))) ∧ (l4 = 0) ∧ ((pt_in l5 120) ∧ (t < 7)) ∧ ((pt_A M 12 t (pt_nt l5)) ≤ 1) ∧ ((pt_in l5 120) ∧ (t < 7)) ∧ True) (by with_unfolding_all rfl) ⟨h1, h2, h1, h3, h4, h5, h6, (pt_callV (i := t) kX0_offerRow_83 mX4_isLeft rfl h1 rfl (dX4_isLeft_v h1 h7 h8)), h9, (by decide), h10, ⟨h11, h1⟩, h12, h10, ⟨h11, h1⟩, h13, ⟨h11, h1⟩, trivial⟩ : pt_Go YX0_offerRow _ (39, [(0, pt_r 5 0), (1, pt_r 3 t), (2, pt_i l2), (3, pt_r 12 t), (4, pt_i 0), (5, pt_i (l5 + 1)), (6, pt_i l6), (7, pt_i l7), (8, pt_i (l8 + 1)), (9, pt_i 1), (10, pt_i 1)], [], (pt_wA M 12 t (upd (pt_A M 12 t) (pt_nt l5) 1)))).tr (pt_pick [0, 1, 2, 3, 4, 5, 6, 7, 8] (by with_unfolding_all rfl))
set_option maxRecDepth 100000 in
theorem gX0_offerRow12_39_4 (t : Nat) (l2 : Int32) (l4 : Int32) (l5 : Int32) (l6 : Int32) (l7 : Int32) (l8 : Int32)  (M : pt_M) (h1 : t < 7) (h2 : ¬ (pt_F M 3 0 t) ≤ l8) (h3 : ¬ (nI 120) ≤ l5) (h4 : pt_in l6 10) (h5 : pt_in l7 10) (h6 : pt_in l8 10) (h7 : pt_in (pt_A M 15 0 (pt_nt l6)) 10) (h8 : pt_in (pt_A M 15 0 (pt_nt l7)) 10) (h9 : ¬ (lb_F M t (pt_A M 15 0 (pt_nt l6)) (pt_A M 15 0 (pt_nt l7)) (pt_A M 15 0 (pt_nt l8))) = l2) (h10 : ¬ l4 = 0) (h11 : pt_in l5 120) :
    pt_Go YX0_offerRow (39, [(0, pt_r 5 0), (1, pt_r 3 t), (2, pt_i l2), (3, pt_r 12 t), (4, pt_i l4), (5, pt_i l5), (6, pt_i l6), (7, pt_i l7), (8, pt_i l8)], [], M)
      (39, [(0, pt_r 5 0), (1, pt_r 3 t), (2, pt_i l2), (3, pt_r 12 t), (4, pt_i 1), (5, pt_i (l5 + 1)), (6, pt_i l6), (7, pt_i l7), (8, pt_i (l8 + 1))], [], (pt_wA M 12 t (upd (pt_A M 12 t) (pt_nt l5) 1))) :=
  (pt_run_ok tX0_offerRow_ok 46 [.inl false, .inl false, .inr (4, some (pt_i (lb_F M t (pt_A M 15 0 (pt_nt l6)) (pt_A M 15 0 (pt_nt l7)) (pt_A M 15 0 (pt_nt l8)))), M), .inl false, .inl false, .inl true, .inl true] (P := (t < 7) ∧ (¬ (pt_F M 3 0 t) ≤ l8) ∧ (t < 7) ∧ (¬ (nI 120) ≤ l5) ∧ (pt_in l6 10) ∧ (pt_in l7 10) ∧ (pt_in l8 10) ∧ pt_Cal YX0_offerRow (.invokevirtual 83) [pt_r 3 t, pt_i (pt_A M 15 0 (pt_nt l6)), pt_i (pt_A M 15 0 (pt_nt l7)), pt_i (pt_A M 15 0 (pt_nt l8))] M (some (pt_i (lb_F M t (pt_A M 15 0 (pt_nt l6)) (pt_A M 15 0 (pt_nt l7)) (pt_A M 15 0 (pt_nt l8))))) M ∧ (¬ (lb_F M t (pt_A M 15 0 (pt_nt l6)) (pt_A M 15 0 (pt_nt l7)) (pt_A M 15 0 (pt_nt l8))) = l2) ∧ (¬ (1 : Int32) = (0 : Int32)) ∧ (¬ l4 = 0) ∧ (¬ l4 = 0) ∧ ((pt_in l5 120) ∧ (t < 7)) ∧ True) (by with_unfolding_all rfl) ⟨h1, h2, h1, h3, h4, h5, h6, (pt_callV (i := t) kX0_offerRow_83 mX4_isLeft rfl h1 rfl (dX4_isLeft_v h1 h7 h8)), h9, (by decide), h10, h10, ⟨h11, h1⟩, trivial⟩ : pt_Go YX0_offerRow _ (39, [(0, pt_r 5 0), (1, pt_r 3 t), (2, pt_i l2), (3, pt_r 12 t), (4, pt_i 1), (5, pt_i (l5 + 1)), (6, pt_i l6), (7, pt_i l7), (8, pt_i (l8 + 1)), (9, pt_i 1), (10, pt_i 1)], [], (pt_wA M 12 t (upd (pt_A M 12 t) (pt_nt l5) 1)))).tr (pt_pick [0, 1, 2, 3, 4, 5, 6, 7, 8] (by with_unfolding_all rfl))
set_option maxRecDepth 100000 in
theorem gX0_offerRow12_39_5 (t : Nat) (l2 : Int32) (l4 : Int32) (l5 : Int32) (l6 : Int32) (l7 : Int32) (l8 : Int32)  (M : pt_M) (h1 : t < 7) (h2 : ¬ (pt_F M 3 0 t) ≤ l8) (h3 : ¬ (nI 120) ≤ l5) (h4 : pt_in l6 10) (h5 : pt_in l7 10) (h6 : pt_in l8 10) (h7 : pt_in (pt_A M 15 0 (pt_nt l6)) 10) (h8 : pt_in (pt_A M 15 0 (pt_nt l7)) 10) (h9 : (lb_F M t (pt_A M 15 0 (pt_nt l6)) (pt_A M 15 0 (pt_nt l7)) (pt_A M 15 0 (pt_nt l8))) = l2) (h10 : l4 = 0) (h11 : pt_in l5 120) (h12 : ¬ 2 ≤ (pt_A M 12 t (pt_nt l5))) :
    pt_Go YX0_offerRow (39, [(0, pt_r 5 0), (1, pt_r 3 t), (2, pt_i l2), (3, pt_r 12 t), (4, pt_i l4), (5, pt_i l5), (6, pt_i l6), (7, pt_i l7), (8, pt_i l8)], [], M)
      (117, [(0, pt_r 5 0), (1, pt_r 3 t), (2, pt_i l2), (3, pt_r 12 t), (4, pt_i l4), (5, pt_i l5), (6, pt_i l6), (7, pt_i l7), (8, pt_i l8), (9, pt_i 0), (10, pt_i 2)], [], M) :=
  pt_run_ok tX0_offerRow_ok 37 [.inl false, .inl false, .inr (4, some (pt_i (lb_F M t (pt_A M 15 0 (pt_nt l6)) (pt_A M 15 0 (pt_nt l7)) (pt_A M 15 0 (pt_nt l8)))), M), .inl true, .inl true, .inl false, .inl false] (P := (t < 7) ∧ (¬ (pt_F M 3 0 t) ≤ l8) ∧ (t < 7) ∧ (¬ (nI 120) ≤ l5) ∧ (pt_in l6 10) ∧ (pt_in l7 10) ∧ (pt_in l8 10) ∧ pt_Cal YX0_offerRow (.invokevirtual 83) [pt_r 3 t, pt_i (pt_A M 15 0 (pt_nt l6)), pt_i (pt_A M 15 0 (pt_nt l7)), pt_i (pt_A M 15 0 (pt_nt l8))] M (some (pt_i (lb_F M t (pt_A M 15 0 (pt_nt l6)) (pt_A M 15 0 (pt_nt l7)) (pt_A M 15 0 (pt_nt l8))))) M ∧ ((lb_F M t (pt_A M 15 0 (pt_nt l6)) (pt_A M 15 0 (pt_nt l7)) (pt_A M 15 0 (pt_nt l8))) = l2) ∧ ((0 : Int32) = (0 : Int32)) ∧ (l4 = 0) ∧ ((pt_in l5 120) ∧ (t < 7)) ∧ (¬ 2 ≤ (pt_A M 12 t (pt_nt l5))) ∧ True) (by with_unfolding_all rfl) ⟨h1, h2, h1, h3, h4, h5, h6, (pt_callV (i := t) kX0_offerRow_83 mX4_isLeft rfl h1 rfl (dX4_isLeft_v h1 h7 h8)), h9, (by decide), h10, ⟨h11, h1⟩, h12, trivial⟩
set_option maxRecDepth 100000 in
theorem gX0_offerRow12_39_6 (t : Nat) (l2 : Int32) (l4 : Int32) (l5 : Int32) (l6 : Int32) (l7 : Int32) (l8 : Int32)  (M : pt_M) (h1 : t < 7) (h2 : ¬ (pt_F M 3 0 t) ≤ l8) (h3 : ¬ (nI 120) ≤ l5) (h4 : pt_in l6 10) (h5 : pt_in l7 10) (h6 : pt_in l8 10) (h7 : pt_in (pt_A M 15 0 (pt_nt l6)) 10) (h8 : pt_in (pt_A M 15 0 (pt_nt l7)) 10) (h9 : (lb_F M t (pt_A M 15 0 (pt_nt l6)) (pt_A M 15 0 (pt_nt l7)) (pt_A M 15 0 (pt_nt l8))) = l2) (h10 : l4 = 0) (h11 : pt_in l5 120) (h12 : 2 ≤ (pt_A M 12 t (pt_nt l5))) (h13 : ¬ (pt_A M 12 t (pt_nt l5)) ≤ 2) :
    pt_Go YX0_offerRow (39, [(0, pt_r 5 0), (1, pt_r 3 t), (2, pt_i l2), (3, pt_r 12 t), (4, pt_i l4), (5, pt_i l5), (6, pt_i l6), (7, pt_i l7), (8, pt_i l8)], [], M)
      (39, [(0, pt_r 5 0), (1, pt_r 3 t), (2, pt_i l2), (3, pt_r 12 t), (4, pt_i 1), (5, pt_i (l5 + 1)), (6, pt_i l6), (7, pt_i l7), (8, pt_i (l8 + 1))], [], (pt_wA M 12 t (upd (pt_A M 12 t) (pt_nt l5) 2))) :=
  (pt_run_ok tX0_offerRow_ok 54 [.inl false, .inl false, .inr (4, some (pt_i (lb_F M t (pt_A M 15 0 (pt_nt l6)) (pt_A M 15 0 (pt_nt l7)) (pt_A M 15 0 (pt_nt l8)))), M), .inl true, .inl true, .inl false, .inl true, .inl false, .inl false] (P := (t < 7) ∧ (¬ (pt_F M 3 0 t) ≤ l8) ∧ (t < 7) ∧ (¬ (nI 120) ≤ l5) ∧ (pt_in l6 10) ∧ (pt_in l7 10) ∧ (pt_in l8 10) ∧ pt_Cal YX0_offerRow (.invokevirtual 83) [pt_r 3 t, pt_i (pt_A M 15 0 (pt_nt l6)), pt_i (pt_A M 15 0 (pt_nt l7)), pt_i (pt_A M 15 0 (pt_nt l8))] M (some (pt_i (lb_F M t (pt_A M 15 0 (pt_nt l6)) (pt_A M 15 0 (pt_nt l7)) (pt_A M 15 0 (pt_nt l8))))) M ∧ ((lb_F M t (pt_A M 15 0 (pt_nt l6)) (pt_A M 15 0 (pt_nt l7)) (pt_A M 15 0 (pt_nt l8))) = l2) ∧ ((0 : Int32) = (0 : Int32)) ∧ (l4 = 0) ∧ ((pt_in l5 120) ∧ (t < 7)) ∧ (2 ≤ (pt_A M 12 t (pt_nt l5))) ∧ (l4 = 0) ∧ ((pt_in l5 120) ∧ (t < 7)) ∧ (¬ (pt_A M 12 t (pt_nt l5)) ≤ 2) ∧ ((pt_in l5 120) ∧ (t < 7)) ∧ True) (by with_unfolding_all rfl) ⟨h1, h2, h1, h3, h4, h5, h6, (pt_callV (i := t) kX0_offerRow_83 mX4_isLeft rfl h1 rfl (dX4_isLeft_v h1 h7 h8)), h9, (by decide), h10, ⟨h11, h1⟩, h12, h10, ⟨h11, h1⟩, h13, ⟨h11, h1⟩, trivial⟩ : pt_Go YX0_offerRow _ (39, [(0, pt_r 5 0), (1, pt_r 3 t), (2, pt_i l2), (3, pt_r 12 t), (4, pt_i 1), (5, pt_i (l5 + 1)), (6, pt_i l6), (7, pt_i l7), (8, pt_i (l8 + 1)), (9, pt_i 0), (10, pt_i 2)], [], (pt_wA M 12 t (upd (pt_A M 12 t) (pt_nt l5) 2)))).tr (pt_pick [0, 1, 2, 3, 4, 5, 6, 7, 8] (by with_unfolding_all rfl))
set_option maxRecDepth 100000 in
theorem gX0_offerRow12_39_7 (t : Nat) (l2 : Int32) (l4 : Int32) (l5 : Int32) (l6 : Int32) (l7 : Int32) (l8 : Int32)  (M : pt_M) (h1 : t < 7) (h2 : ¬ (pt_F M 3 0 t) ≤ l8) (h3 : ¬ (nI 120) ≤ l5) (h4 : pt_in l6 10) (h5 : pt_in l7 10) (h6 : pt_in l8 10) (h7 : pt_in (pt_A M 15 0 (pt_nt l6)) 10) (h8 : pt_in (pt_A M 15 0 (pt_nt l7)) 10) (h9 : (lb_F M t (pt_A M 15 0 (pt_nt l6)) (pt_A M 15 0 (pt_nt l7)) (pt_A M 15 0 (pt_nt l8))) = l2) (h10 : l4 = 0) (h11 : pt_in l5 120) (h12 : 2 ≤ (pt_A M 12 t (pt_nt l5))) (h13 : (pt_A M 12 t (pt_nt l5)) ≤ 2) :
    pt_Go YX0_offerRow (39, [(0, pt_r 5 0), (1, pt_r 3 t), (2, pt_i l2), (3, pt_r 12 t), (4, pt_i l4), (5, pt_i l5), (6, pt_i l6), (7, pt_i l7), (8, pt_i l8)], [], M)
      (39, [(0, pt_r 5 0), (1, pt_r 3 t), (2, pt_i l2), (3, pt_r 12 t), (4, pt_i 0), (5, pt_i (l5 + 1)), (6, pt_i l6), (7, pt_i l7), (8, pt_i (l8 + 1))], [], (pt_wA M 12 t (upd (pt_A M 12 t) (pt_nt l5) 2))) :=
  (pt_run_ok tX0_offerRow_ok 53 [.inl false, .inl false, .inr (4, some (pt_i (lb_F M t (pt_A M 15 0 (pt_nt l6)) (pt_A M 15 0 (pt_nt l7)) (pt_A M 15 0 (pt_nt l8)))), M), .inl true, .inl true, .inl false, .inl true, .inl false, .inl true] (P := (t < 7) ∧ (¬ (pt_F M 3 0 t) ≤ l8) ∧ (t < 7) ∧ (¬ (nI 120) ≤ l5) ∧ (pt_in l6 10) ∧ (pt_in l7 10) ∧ (pt_in l8 10) ∧ pt_Cal YX0_offerRow (.invokevirtual 83) [pt_r 3 t, pt_i (pt_A M 15 0 (pt_nt l6)), pt_i (pt_A M 15 0 (pt_nt l7)), pt_i (pt_A M 15 0 (pt_nt l8))] M (some (pt_i (lb_F M t (pt_A M 15 0 (pt_nt l6)) (pt_A M 15 0 (pt_nt l7)) (pt_A M 15 0 (pt_nt l8))))) M ∧ ((lb_F M t (pt_A M 15 0 (pt_nt l6)) (pt_A M 15 0 (pt_nt l7)) (pt_A M 15 0 (pt_nt l8))) = l2) ∧ ((0 : Int32) = (0 : Int32)) ∧ (l4 = 0) ∧ ((pt_in l5 120) ∧ (t < 7)) ∧ (2 ≤ (pt_A M 12 t (pt_nt l5))) ∧ (l4 = 0) ∧ ((pt_in l5 120) ∧ (t < 7)) ∧ ((pt_A M 12 t (pt_nt l5)) ≤ 2) ∧ ((pt_in l5 120) ∧ (t < 7)) ∧ True) (by with_unfolding_all rfl) ⟨h1, h2, h1, h3, h4, h5, h6, (pt_callV (i := t) kX0_offerRow_83 mX4_isLeft rfl h1 rfl (dX4_isLeft_v h1 h7 h8)), h9, (by decide), h10, ⟨h11, h1⟩, h12, h10, ⟨h11, h1⟩, h13, ⟨h11, h1⟩, trivial⟩ : pt_Go YX0_offerRow _ (39, [(0, pt_r 5 0), (1, pt_r 3 t), (2, pt_i l2), (3, pt_r 12 t), (4, pt_i 0), (5, pt_i (l5 + 1)), (6, pt_i l6), (7, pt_i l7), (8, pt_i (l8 + 1)), (9, pt_i 0), (10, pt_i 2)], [], (pt_wA M 12 t (upd (pt_A M 12 t) (pt_nt l5) 2)))).tr (pt_pick [0, 1, 2, 3, 4, 5, 6, 7, 8] (by with_unfolding_all rfl))
set_option maxRecDepth 100000 in
theorem gX0_offerRow12_39_8 (t : Nat) (l2 : Int32) (l4 : Int32) (l5 : Int32) (l6 : Int32) (l7 : Int32) (l8 : Int32)  (M : pt_M) (h1 : t < 7) (h2 : ¬ (pt_F M 3 0 t) ≤ l8) (h3 : ¬ (nI 120) ≤ l5) (h4 : pt_in l6 10) (h5 : pt_in l7 10) (h6 : pt_in l8 10) (h7 : pt_in (pt_A M 15 0 (pt_nt l6)) 10) (h8 : pt_in (pt_A M 15 0 (pt_nt l7)) 10) (h9 : (lb_F M t (pt_A M 15 0 (pt_nt l6)) (pt_A M 15 0 (pt_nt l7)) (pt_A M 15 0 (pt_nt l8))) = l2) (h10 : ¬ l4 = 0) (h11 : pt_in l5 120) :
    pt_Go YX0_offerRow (39, [(0, pt_r 5 0), (1, pt_r 3 t), (2, pt_i l2), (3, pt_r 12 t), (4, pt_i l4), (5, pt_i l5), (6, pt_i l6), (7, pt_i l7), (8, pt_i l8)], [], M)
      (39, [(0, pt_r 5 0), (1, pt_r 3 t), (2, pt_i l2), (3, pt_r 12 t), (4, pt_i 1), (5, pt_i (l5 + 1)), (6, pt_i l6), (7, pt_i l7), (8, pt_i (l8 + 1))], [], (pt_wA M 12 t (upd (pt_A M 12 t) (pt_nt l5) 2))) :=
  (pt_run_ok tX0_offerRow_ok 44 [.inl false, .inl false, .inr (4, some (pt_i (lb_F M t (pt_A M 15 0 (pt_nt l6)) (pt_A M 15 0 (pt_nt l7)) (pt_A M 15 0 (pt_nt l8)))), M), .inl true, .inl true, .inl true, .inl true] (P := (t < 7) ∧ (¬ (pt_F M 3 0 t) ≤ l8) ∧ (t < 7) ∧ (¬ (nI 120) ≤ l5) ∧ (pt_in l6 10) ∧ (pt_in l7 10) ∧ (pt_in l8 10) ∧ pt_Cal YX0_offerRow (.invokevirtual 83) [pt_r 3 t, pt_i (pt_A M 15 0 (pt_nt l6)), pt_i (pt_A M 15 0 (pt_nt l7)), pt_i (pt_A M 15 0 (pt_nt l8))] M (some (pt_i (lb_F M t (pt_A M 15 0 (pt_nt l6)) (pt_A M 15 0 (pt_nt l7)) (pt_A M 15 0 (pt_nt l8))))) M ∧ ((lb_F M t (pt_A M 15 0 (pt_nt l6)) (pt_A M 15 0 (pt_nt l7)) (pt_A M 15 0 (pt_nt l8))) = l2) ∧ ((0 : Int32) = (0 : Int32)) ∧ (¬ l4 = 0) ∧ (¬ l4 = 0) ∧ ((pt_in l5 120) ∧ (t < 7)) ∧ True) (by with_unfolding_all rfl) ⟨h1, h2, h1, h3, h4, h5, h6, (pt_callV (i := t) kX0_offerRow_83 mX4_isLeft rfl h1 rfl (dX4_isLeft_v h1 h7 h8)), h9, (by decide), h10, h10, ⟨h11, h1⟩, trivial⟩ : pt_Go YX0_offerRow _ (39, [(0, pt_r 5 0), (1, pt_r 3 t), (2, pt_i l2), (3, pt_r 12 t), (4, pt_i 1), (5, pt_i (l5 + 1)), (6, pt_i l6), (7, pt_i l7), (8, pt_i (l8 + 1)), (9, pt_i 0), (10, pt_i 2)], [], (pt_wA M 12 t (upd (pt_A M 12 t) (pt_nt l5) 2)))).tr (pt_pick [0, 1, 2, 3, 4, 5, 6, 7, 8] (by with_unfolding_all rfl))
set_option maxRecDepth 100000 in
theorem gX0_offerRow12_39_9 (t : Nat) (l2 : Int32) (l4 : Int32) (l5 : Int32) (l6 : Int32) (l7 : Int32) (l8 : Int32)  (M : pt_M) (h1 : t < 7) (h2 : ¬ (pt_F M 3 0 t) ≤ l8) (h3 : (nI 120) ≤ l5) :
    pt_Go YX0_offerRow (39, [(0, pt_r 5 0), (1, pt_r 3 t), (2, pt_i l2), (3, pt_r 12 t), (4, pt_i l4), (5, pt_i l5), (6, pt_i l6), (7, pt_i l7), (8, pt_i l8)], [], M)
      (24, [(0, pt_r 5 0), (1, pt_r 3 t), (2, pt_i l2), (3, pt_r 12 t), (4, pt_i l4), (5, pt_i l5), (6, pt_i l6), (7, pt_i (l7 + 1))], [], M) :=
  (pt_run_ok tX0_offerRow_ok 10 [.inl false, .inl true] (P := (t < 7) ∧ (¬ (pt_F M 3 0 t) ≤ l8) ∧ (t < 7) ∧ ((nI 120) ≤ l5) ∧ True) (by with_unfolding_all rfl) ⟨h1, h2, h1, h3, trivial⟩ : pt_Go YX0_offerRow _ (24, [(0, pt_r 5 0), (1, pt_r 3 t), (2, pt_i l2), (3, pt_r 12 t), (4, pt_i l4), (5, pt_i l5), (6, pt_i l6), (7, pt_i (l7 + 1)), (8, pt_i l8)], [], M)).tr (pt_pick [0, 1, 2, 3, 4, 5, 6, 7] (by with_unfolding_all rfl))
set_option maxRecDepth 100000 in
theorem gX0_offerRow12_39_10 (t : Nat) (l2 : Int32) (l4 : Int32) (l5 : Int32) (l6 : Int32) (l7 : Int32) (l8 : Int32)  (M : pt_M) (h1 : t < 7) (h2 : (pt_F M 3 0 t) ≤ l8) :
    pt_Go YX0_offerRow (39, [(0, pt_r 5 0), (1, pt_r 3 t), (2, pt_i l2), (3, pt_r 12 t), (4, pt_i l4), (5, pt_i l5), (6, pt_i l6), (7, pt_i l7), (8, pt_i l8)], [], M)
      (24, [(0, pt_r 5 0), (1, pt_r 3 t), (2, pt_i l2), (3, pt_r 12 t), (4, pt_i l4), (5, pt_i l5), (6, pt_i l6), (7, pt_i (l7 + 1))], [], M) :=
  (pt_run_ok tX0_offerRow_ok 6 [.inl true] (P := (t < 7) ∧ ((pt_F M 3 0 t) ≤ l8) ∧ True) (by with_unfolding_all rfl) ⟨h1, h2, trivial⟩ : pt_Go YX0_offerRow _ (24, [(0, pt_r 5 0), (1, pt_r 3 t), (2, pt_i l2), (3, pt_r 12 t), (4, pt_i l4), (5, pt_i l5), (6, pt_i l6), (7, pt_i (l7 + 1)), (8, pt_i l8)], [], M)).tr (pt_pick [0, 1, 2, 3, 4, 5, 6, 7] (by with_unfolding_all rfl))
theorem of_step_12 {t n i j k p : Nat} {mr : Bool} {g : Nat → Nat} {B : Nat → Nat → Nat → Bool} {M : pt_M} {fst w : Nat → Int32} (h : tb_P M t n B) (hg : ∀ i, i < n → pt_A M 15 0 i = nI (g i) ∧ g i < 10) (hfe : pt_A M 12 t = fst) (hi : i < n) (hj : j < n) (hk : k < n) (hpl : p < 120) (hwp : w p = if B (g i) (g j) (g k) != mr then 1 else 2) : (∀ v : Unit, (if rt_F fst w p then some () else none) = some v → pt_Go YX0_offerRow (39, [(0, pt_r 5 0), (1, pt_r 3 t), (2, pt_i (pt_b mr)), (3, pt_r 12 t), (4, pt_i (pt_b (!eq_F fst w p))), (5, pt_i (nI p)), (6, pt_i (nI i)), (7, pt_i (nI j)), (8, pt_i (nI k))], [], pt_wA M 12 t (co_F fst w p)) (117, [], [], M)) ∧ ((if rt_F fst w p then some () else none) = none → pt_Go YX0_offerRow (39, [(0, pt_r 5 0), (1, pt_r 3 t), (2, pt_i (pt_b mr)), (3, pt_r 12 t), (4, pt_i (pt_b (!eq_F fst w p))), (5, pt_i (nI p)), (6, pt_i (nI i)), (7, pt_i (nI j)), (8, pt_i (nI k))], [], pt_wA M 12 t (co_F fst w p)) (39, [(0, pt_r 5 0), (1, pt_r 3 t), (2, pt_i (pt_b mr)), (3, pt_r 12 t), (4, pt_i (pt_b (!eq_F fst w (p + 1)))), (5, pt_i (nI (p + 1))), (6, pt_i (nI i)), (7, pt_i (nI j)), (8, pt_i (nI (k + 1)))], [], pt_wA M 12 t (co_F fst w (p + 1)))) := by
  obtain ⟨ht, hn, hs, hB⟩ := h
  have hlt : ∀ i, i < n → ¬ pt_F M 3 0 t ≤ nI i := fun i hi => by rw [hs]; exact nI_ge hi (by omega)
  have hp : ∀ i, i < n → pt_in (nI i) 10 := fun i hi => pt_in_nI (by omega) (by decide)
  have hA : ∀ a, a < n → pt_A (pt_wA M 12 t (co_F fst w p)) 15 0 (pt_nt (nI a)) = nI (g a) := fun a ha => by
    rw [pt_A_wA', if_neg (fun z => absurd z.1 (by decide)), pt_nt_nI (by omega)]
    exact (hg a ha).1
  have e1 := hA i hi
  have e2 := hA j hj
  have e3 := hA k hk
  have hB' : ct_B (pt_wA M 12 t (co_F fst w p)) t B := fun a c ha hc => by
    rw [pt_A_wA', if_neg (fun z => absurd z.1 (by decide))]
    exact hB a c ha hc
  have el : lb_F (pt_wA M 12 t (co_F fst w p)) t (nI (g i)) (nI (g j)) (nI (g k)) = pt_b (B (g i) (g j) (g k)) := lb_B hB' (hg i hi).2 (hg j hj).2 (hg k hk).2
  have ef : pt_A (pt_wA M 12 t (co_F fst w p)) 12 t (pt_nt (nI p)) = fst p := by
    rw [pt_A_wA, pt_nt_nI (by omega)]
    exact co_at fst w p
  have g1 : pt_in (pt_A (pt_wA M 12 t (co_F fst w p)) 15 0 (pt_nt (nI i))) 10 := by rw [e1]; exact pt_in_nI (hg i hi).2 (by decide)
  have g2 : pt_in (pt_A (pt_wA M 12 t (co_F fst w p)) 15 0 (pt_nt (nI j))) 10 := by rw [e2]; exact pt_in_nI (hg j hj).2 (by decide)
  have g5 : pt_in (nI p) 120 := pt_in_nI (by omega) (by decide)
  have g5' : ¬ nI 120 ≤ nI p := nI_ge (by omega) (by decide)
  have hF : ¬ pt_F (pt_wA M 12 t (co_F fst w p)) 3 0 t ≤ nI k := hlt k hk
  have hst : pt_wA (pt_wA M 12 t (co_F fst w p)) 12 t (upd (pt_A (pt_wA M 12 t (co_F fst w p)) 12 t) (pt_nt (nI p)) (w p)) = pt_wA M 12 t (co_F fst w (p + 1)) := by
    rw [pt_wA_wA, pt_A_wA, pt_nt_nI (by omega), co_step]
  have hM : eq_F fst w p = true → pt_wA M 12 t (co_F fst w p) = M := fun he => by rw [co_eq he, ← hfe, pt_wA_self]
  cases hbv : (B (g i) (g j) (g k) != mr)
  · rw [hbv] at hwp
    have hwp : w p = 2 := hwp
    have hl : lb_F (pt_wA M 12 t (co_F fst w p)) t (pt_A (pt_wA M 12 t (co_F fst w p)) 15 0 (pt_nt (nI i))) (pt_A (pt_wA M 12 t (co_F fst w p)) 15 0 (pt_nt (nI j))) (pt_A (pt_wA M 12 t (co_F fst w p)) 15 0 (pt_nt (nI k))) = pt_b mr := by
      rw [e1, e2, e3, el, pt_b_eq]
      simpa using hbv
    cases he : eq_F fst w p
    · refine ⟨fun v z => by simp [rt_F, he] at z, fun _ => (gX0_offerRow12_39_8 t (pt_b mr) _ (nI p) (nI i) (nI j) (nI k) (pt_wA M 12 t (co_F fst w p)) ht hF g5' (hp i hi) (hp j hj) (hp k hk) g1 g2 hl (by decide) g5).to ?_⟩
      rw [hwp] at hst
      rw [hst, nI_1, nI_1, eq_succ, he]
      rfl
    · by_cases c1 : w p ≤ fst p
      · by_cases c2 : fst p ≤ w p
        · refine ⟨fun v z => by simp [rt_F, Int32.not_lt.mpr c1] at z, fun _ => (gX0_offerRow12_39_7 t (pt_b mr) _ (nI p) (nI i) (nI j) (nI k) (pt_wA M 12 t (co_F fst w p)) ht hF g5' (hp i hi) (hp j hj) (hp k hk) g1 g2 hl rfl g5 (by rw [ef, ← hwp]; exact c1) (by rw [ef, ← hwp]; exact c2)).to ?_⟩
          have c3 : w p = fst p := Int32.le_antisymm c1 c2
          rw [hwp] at hst
          rw [hst, nI_1, nI_1, eq_succ, he, c3]
          simp
          rfl
        · refine ⟨fun v z => by simp [rt_F, Int32.not_lt.mpr c1] at z, fun _ => (gX0_offerRow12_39_6 t (pt_b mr) _ (nI p) (nI i) (nI j) (nI k) (pt_wA M 12 t (co_F fst w p)) ht hF g5' (hp i hi) (hp j hj) (hp k hk) g1 g2 hl rfl g5 (by rw [ef, ← hwp]; exact c1) (by rw [ef, ← hwp]; exact c2)).to ?_⟩
          have c3 : ¬ w p = fst p := fun z => c2 (by rw [z]; exact Int32.le_refl _)
          rw [hwp] at hst
          rw [hst, nI_1, nI_1, eq_succ, he, decide_eq_false c3]
          rfl
      · refine ⟨fun v z => ((gX0_offerRow12_39_5 t (pt_b mr) _ (nI p) (nI i) (nI j) (nI k) (pt_wA M 12 t (co_F fst w p)) ht hF g5' (hp i hi) (hp j hj) (hp k hk) g1 g2 hl rfl g5 (by rw [ef, ← hwp]; exact c1)).tr pt_dropA).toM (hM he), fun z => by simp [rt_F, he, Int32.not_le.mp c1] at z⟩
  · rw [hbv] at hwp
    have hwp : w p = 1 := hwp
    have hl : ¬ lb_F (pt_wA M 12 t (co_F fst w p)) t (pt_A (pt_wA M 12 t (co_F fst w p)) 15 0 (pt_nt (nI i))) (pt_A (pt_wA M 12 t (co_F fst w p)) 15 0 (pt_nt (nI j))) (pt_A (pt_wA M 12 t (co_F fst w p)) 15 0 (pt_nt (nI k))) = pt_b mr := by
      rw [e1, e2, e3, el, pt_b_eq]
      simpa using hbv
    cases he : eq_F fst w p
    · refine ⟨fun v z => by simp [rt_F, he] at z, fun _ => (gX0_offerRow12_39_4 t (pt_b mr) _ (nI p) (nI i) (nI j) (nI k) (pt_wA M 12 t (co_F fst w p)) ht hF g5' (hp i hi) (hp j hj) (hp k hk) g1 g2 hl (by decide) g5).to ?_⟩
      rw [hwp] at hst
      rw [hst, nI_1, nI_1, eq_succ, he]
      rfl
    · by_cases c1 : w p ≤ fst p
      · by_cases c2 : fst p ≤ w p
        · refine ⟨fun v z => by simp [rt_F, Int32.not_lt.mpr c1] at z, fun _ => (gX0_offerRow12_39_3 t (pt_b mr) _ (nI p) (nI i) (nI j) (nI k) (pt_wA M 12 t (co_F fst w p)) ht hF g5' (hp i hi) (hp j hj) (hp k hk) g1 g2 hl rfl g5 (by rw [ef, ← hwp]; exact c1) (by rw [ef, ← hwp]; exact c2)).to ?_⟩
          have c3 : w p = fst p := Int32.le_antisymm c1 c2
          rw [hwp] at hst
          rw [hst, nI_1, nI_1, eq_succ, he, c3]
          simp
          rfl
        · refine ⟨fun v z => by simp [rt_F, Int32.not_lt.mpr c1] at z, fun _ => (gX0_offerRow12_39_2 t (pt_b mr) _ (nI p) (nI i) (nI j) (nI k) (pt_wA M 12 t (co_F fst w p)) ht hF g5' (hp i hi) (hp j hj) (hp k hk) g1 g2 hl rfl g5 (by rw [ef, ← hwp]; exact c1) (by rw [ef, ← hwp]; exact c2)).to ?_⟩
          have c3 : ¬ w p = fst p := fun z => c2 (by rw [z]; exact Int32.le_refl _)
          rw [hwp] at hst
          rw [hst, nI_1, nI_1, eq_succ, he, decide_eq_false c3]
          rfl
      · refine ⟨fun v z => ((gX0_offerRow12_39_1 t (pt_b mr) _ (nI p) (nI i) (nI j) (nI k) (pt_wA M 12 t (co_F fst w p)) ht hF g5' (hp i hi) (hp j hj) (hp k hk) g1 g2 hl rfl g5 (by rw [ef, ← hwp]; exact c1)).tr pt_dropA).toM (hM he), fun z => by simp [rt_F, he, Int32.not_le.mp c1] at z⟩
theorem dX0_offerRow_12 {t n : Nat} {mr : Bool} {g : Nat → Nat} {B : Nat → Nat → Nat → Bool} {M : pt_M} (h : tb_P M t n B) (hg : ∀ i, i < n → pt_A M 15 0 i = nI (g i) ∧ g i < 10) : pt_Does yX0_offerRow YX0_offerRow [pt_r 5 0, pt_r 3 t, pt_i (pt_b mr), pt_r 12 t] M none (of_M M 12 t (rk_0 n n) (rw_F n B g mr)) := by
  obtain ⟨ht, hn, hs, hB⟩ := h
  have hlt : ∀ i, i < n → ¬ pt_F M 3 0 t ≤ nI i := fun i hi => by rw [hs]; exact nI_ge hi (by omega)
  have hle : pt_F M 3 0 t ≤ nI n := by rw [hs]; exact Int32.le_refl _
  have hp : ∀ i, i < n → pt_in (nI i) 10 := fun i hi => pt_in_nI (by omega) (by decide)
  generalize hw : rw_F n B g mr = w
  generalize hfe : pt_A M 12 t = fst
  have K := pt_nest (α := Unit) (Y := YX0_offerRow) (σ := (0, [(0, pt_r 5 0), (1, pt_r 3 t), (2, pt_i (pt_b mr)), (3, pt_r 12 t)], [], M)) (τ := (166, [], [], pt_wA M 12 t (co_F fst w (rk_F n n (n + 1) (n + 2))))) (R := fun _ => (117, [], [], M)) (n := n) (i := 0)
    (S := fun i => (9, [(0, pt_r 5 0), (1, pt_r 3 t), (2, pt_i (pt_b mr)), (3, pt_r 12 t), (4, pt_i (pt_b (!eq_F fst w (rk_F n i (i + 1) (i + 2))))), (5, pt_i (nI (rk_F n i (i + 1) (i + 2)))), (6, pt_i (nI i))], [], pt_wA M 12 t (co_F fst w (rk_F n i (i + 1) (i + 2)))))
    (f := fun i => fs_F (n - (i + 1)) (i + 1) fun j => fs_F (n - (j + 1)) (j + 1) fun k => if rt_F fst w (rk_F n i j k) then some () else none)
    (Nat.zero_le n) ((gX0_offerRow12_0_1 t (pt_b mr) M).to (by rw [← hfe, show rk_F n 0 (0 + 1) (0 + 2) = 0 from rfl, co_zero, pt_wA_self]; rfl)) ((gX0_offerRow12_9_2 t (pt_b mr) (pt_b (!eq_F fst w (rk_F n n (n + 1) (n + 2)))) (nI (rk_F n n (n + 1) (n + 2))) (nI n) (pt_wA M 12 t (co_F fst w (rk_F n n (n + 1) (n + 2)))) ht hle).tr pt_dropA) fun i _ hi =>
    pt_nest (S := fun j => (24, [(0, pt_r 5 0), (1, pt_r 3 t), (2, pt_i (pt_b mr)), (3, pt_r 12 t), (4, pt_i (pt_b (!eq_F fst w (rk_F n i j (j + 1))))), (5, pt_i (nI (rk_F n i j (j + 1)))), (6, pt_i (nI i)), (7, pt_i (nI j))], [], pt_wA M 12 t (co_F fst w (rk_F n i j (j + 1)))))
      (by omega) ((gX0_offerRow12_9_1 t (pt_b mr) (pt_b (!eq_F fst w (rk_F n i (i + 1) (i + 2)))) (nI (rk_F n i (i + 1) (i + 2))) (nI i) (pt_wA M 12 t (co_F fst w (rk_F n i (i + 1) (i + 2)))) ht (hlt i hi)).to (by rw [nI_1])) ((gX0_offerRow12_24_2 t (pt_b mr) (pt_b (!eq_F fst w (rk_F n i n (n + 1)))) (nI (rk_F n i n (n + 1))) (nI i) (nI n) (pt_wA M 12 t (co_F fst w (rk_F n i n (n + 1)))) ht hle).to (by rw [nI_1, rk_i (n + 1) (Nat.le_refl _)])) fun j hj0 hj =>
    pt_nest (S := fun k => (39, [(0, pt_r 5 0), (1, pt_r 3 t), (2, pt_i (pt_b mr)), (3, pt_r 12 t), (4, pt_i (pt_b (!eq_F fst w (rk_F n i j k)))), (5, pt_i (nI (rk_F n i j k))), (6, pt_i (nI i)), (7, pt_i (nI j)), (8, pt_i (nI k))], [], pt_wA M 12 t (co_F fst w (rk_F n i j k))))
      (by omega) ((gX0_offerRow12_24_1 t (pt_b mr) (pt_b (!eq_F fst w (rk_F n i j (j + 1)))) (nI (rk_F n i j (j + 1))) (nI i) (nI j) (pt_wA M 12 t (co_F fst w (rk_F n i j (j + 1)))) ht (hlt j hj)).to (by rw [nI_1])) ((gX0_offerRow12_39_10 t (pt_b mr) (pt_b (!eq_F fst w (rk_F n i j n))) (nI (rk_F n i j n)) (nI i) (nI j) (nI n) (pt_wA M 12 t (co_F fst w (rk_F n i j n))) ht hle).to (by rw [nI_1, rk_j (by omega) hj])) fun k hk0 hk => by
      obtain ⟨hr1, hr2⟩ := rk_lt n hn i hi j hj k hk (by omega) (by omega)
      have hwp : w (rk_F n i j k) = if B (g i) (g j) (g k) != mr then 1 else 2 := by rw [← hw]; exact rw_at hn (by omega) (by omega) hk
      have e := of_step_12 (mr := mr) (w := w) ⟨ht, hn, hs, hB⟩ hg hfe hi hj hk (show rk_F n i j k < 120 by omega) hwp
      rw [← rk_k (n := n) (i := i) (show j < k by omega)] at e
      exact e
  have hall := of_nest (fst := fst) (w := w) (n := n) hn
  have hend : rk_F n n (n + 1) (n + 2) = rk_0 n n := rk_end n
  unfold of_M
  rw [hfe]
  cases hq : (List.range (rk_0 n n)).all fun p => !rt_F fst w p
  · rw [if_neg (by simp)]
    cases hf : (fs_F (n - 0) 0 fun i => fs_F (n - (i + 1)) (i + 1) fun j => fs_F (n - (j + 1)) (j + 1) fun k => if rt_F fst w (rk_F n i j k) then some () else none) with
    | some v => exact rX0_offerRow_117 (Nat.le_of_ble_eq_true rfl) rfl (K.1 v hf)
    | none => rw [hall.mp hf] at hq; cases hq
  · rw [if_pos rfl]
    refine rX0_offerRow_166 (Nat.le_of_ble_eq_true rfl) rfl ((K.2 (hall.mpr hq)).toM ?_)
    rw [hend]
set_option maxRecDepth 100000 in
theorem gX0_offerRow13_0_1 (t : Nat) (x : Int32)  (M : pt_M) :
    pt_Go YX0_offerRow (0, [(0, pt_r 5 0), (1, pt_r 3 t), (2, pt_i x), (3, pt_r 13 t)], [], M)
      (9, [(0, pt_r 5 0), (1, pt_r 3 t), (2, pt_i x), (3, pt_r 13 t), (4, pt_i 0), (5, pt_i 0), (6, pt_i 0)], [], M) :=
  pt_run_ok tX0_offerRow_ok 6 [] (P := True) (by with_unfolding_all rfl) trivial
set_option maxRecDepth 100000 in
theorem gX0_offerRow13_9_1 (t : Nat) (l2 : Int32) (l4 : Int32) (l5 : Int32) (l6 : Int32)  (M : pt_M) (h1 : t < 7) (h2 : ¬ (pt_F M 3 0 t) ≤ l6) :
    pt_Go YX0_offerRow (9, [(0, pt_r 5 0), (1, pt_r 3 t), (2, pt_i l2), (3, pt_r 13 t), (4, pt_i l4), (5, pt_i l5), (6, pt_i l6)], [], M)
      (24, [(0, pt_r 5 0), (1, pt_r 3 t), (2, pt_i l2), (3, pt_r 13 t), (4, pt_i l4), (5, pt_i l5), (6, pt_i l6), (7, pt_i (l6 + 1))], [], M) :=
  pt_run_ok tX0_offerRow_ok 8 [.inl false] (P := (t < 7) ∧ (¬ (pt_F M 3 0 t) ≤ l6) ∧ True) (by with_unfolding_all rfl) ⟨h1, h2, trivial⟩
set_option maxRecDepth 100000 in
theorem gX0_offerRow13_9_2 (t : Nat) (l2 : Int32) (l4 : Int32) (l5 : Int32) (l6 : Int32)  (M : pt_M) (h1 : t < 7) (h2 : (pt_F M 3 0 t) ≤ l6) :
    pt_Go YX0_offerRow (9, [(0, pt_r 5 0), (1, pt_r 3 t), (2, pt_i l2), (3, pt_r 13 t), (4, pt_i l4), (5, pt_i l5), (6, pt_i l6)], [], M)
      (166, [(0, pt_r 5 0), (1, pt_r 3 t), (2, pt_i l2), (3, pt_r 13 t), (4, pt_i l4), (5, pt_i l5), (6, pt_i l6)], [], M) :=
  pt_run_ok tX0_offerRow_ok 4 [.inl true] (P := (t < 7) ∧ ((pt_F M 3 0 t) ≤ l6) ∧ True) (by with_unfolding_all rfl) ⟨h1, h2, trivial⟩
set_option maxRecDepth 100000 in
theorem gX0_offerRow13_24_1 (t : Nat) (l2 : Int32) (l4 : Int32) (l5 : Int32) (l6 : Int32) (l7 : Int32)  (M : pt_M) (h1 : t < 7) (h2 : ¬ (pt_F M 3 0 t) ≤ l7) :
    pt_Go YX0_offerRow (24, [(0, pt_r 5 0), (1, pt_r 3 t), (2, pt_i l2), (3, pt_r 13 t), (4, pt_i l4), (5, pt_i l5), (6, pt_i l6), (7, pt_i l7)], [], M)
      (39, [(0, pt_r 5 0), (1, pt_r 3 t), (2, pt_i l2), (3, pt_r 13 t), (4, pt_i l4), (5, pt_i l5), (6, pt_i l6), (7, pt_i l7), (8, pt_i (l7 + 1))], [], M) :=
  pt_run_ok tX0_offerRow_ok 8 [.inl false] (P := (t < 7) ∧ (¬ (pt_F M 3 0 t) ≤ l7) ∧ True) (by with_unfolding_all rfl) ⟨h1, h2, trivial⟩
set_option maxRecDepth 100000 in
theorem gX0_offerRow13_24_2 (t : Nat) (l2 : Int32) (l4 : Int32) (l5 : Int32) (l6 : Int32) (l7 : Int32)  (M : pt_M) (h1 : t < 7) (h2 : (pt_F M 3 0 t) ≤ l7) :
    pt_Go YX0_offerRow (24, [(0, pt_r 5 0), (1, pt_r 3 t), (2, pt_i l2), (3, pt_r 13 t), (4, pt_i l4), (5, pt_i l5), (6, pt_i l6), (7, pt_i l7)], [], M)
      (9, [(0, pt_r 5 0), (1, pt_r 3 t), (2, pt_i l2), (3, pt_r 13 t), (4, pt_i l4), (5, pt_i l5), (6, pt_i (l6 + 1))], [], M) :=
  (pt_run_ok tX0_offerRow_ok 6 [.inl true] (P := (t < 7) ∧ ((pt_F M 3 0 t) ≤ l7) ∧ True) (by with_unfolding_all rfl) ⟨h1, h2, trivial⟩ : pt_Go YX0_offerRow _ (9, [(0, pt_r 5 0), (1, pt_r 3 t), (2, pt_i l2), (3, pt_r 13 t), (4, pt_i l4), (5, pt_i l5), (6, pt_i (l6 + 1)), (7, pt_i l7)], [], M)).tr (pt_pick [0, 1, 2, 3, 4, 5, 6] (by with_unfolding_all rfl))
set_option maxRecDepth 100000 in
theorem gX0_offerRow13_39_1 (t : Nat) (l2 : Int32) (l4 : Int32) (l5 : Int32) (l6 : Int32) (l7 : Int32) (l8 : Int32)  (M : pt_M) (h1 : t < 7) (h2 : ¬ (pt_F M 3 0 t) ≤ l8) (h3 : ¬ (nI 120) ≤ l5) (h4 : pt_in l6 10) (h5 : pt_in l7 10) (h6 : pt_in l8 10) (h7 : pt_in (pt_A M 15 0 (pt_nt l6)) 10) (h8 : pt_in (pt_A M 15 0 (pt_nt l7)) 10) (h9 : ¬ (lb_F M t (pt_A M 15 0 (pt_nt l6)) (pt_A M 15 0 (pt_nt l7)) (pt_A M 15 0 (pt_nt l8))) = l2) (h10 : l4 = 0) (h11 : pt_in l5 120) (h12 : ¬ 1 ≤ (pt_A M 13 t (pt_nt l5))) :
    pt_Go YX0_offerRow (39, [(0, pt_r 5 0), (1, pt_r 3 t), (2, pt_i l2), (3, pt_r 13 t), (4, pt_i l4), (5, pt_i l5), (6, pt_i l6), (7, pt_i l7), (8, pt_i l8)], [], M)
      (117, [(0, pt_r 5 0), (1, pt_r 3 t), (2, pt_i l2), (3, pt_r 13 t), (4, pt_i l4), (5, pt_i l5), (6, pt_i l6), (7, pt_i l7), (8, pt_i l8), (9, pt_i 1), (10, pt_i 1)], [], M) :=
  pt_run_ok tX0_offerRow_ok 39 [.inl false, .inl false, .inr (4, some (pt_i (lb_F M t (pt_A M 15 0 (pt_nt l6)) (pt_A M 15 0 (pt_nt l7)) (pt_A M 15 0 (pt_nt l8)))), M), .inl false, .inl false, .inl false, .inl false] (P := (t < 7) ∧ (¬ (pt_F M 3 0 t) ≤ l8) ∧ (t < 7) ∧ (¬ (nI 120) ≤ l5) ∧ (pt_in l6 10) ∧ (pt_in l7 10) ∧ (pt_in l8 10) ∧ pt_Cal YX0_offerRow (.invokevirtual 83) [pt_r 3 t, pt_i (pt_A M 15 0 (pt_nt l6)), pt_i (pt_A M 15 0 (pt_nt l7)), pt_i (pt_A M 15 0 (pt_nt l8))] M (some (pt_i (lb_F M t (pt_A M 15 0 (pt_nt l6)) (pt_A M 15 0 (pt_nt l7)) (pt_A M 15 0 (pt_nt l8))))) M ∧ (¬ (lb_F M t (pt_A M 15 0 (pt_nt l6)) (pt_A M 15 0 (pt_nt l7)) (pt_A M 15 0 (pt_nt l8))) = l2) ∧ (¬ (1 : Int32) = (0 : Int32)) ∧ (l4 = 0) ∧ ((pt_in l5 120) ∧ (t < 7)) ∧ (¬ 1 ≤ (pt_A M 13 t (pt_nt l5))) ∧ True) (by with_unfolding_all rfl) ⟨h1, h2, h1, h3, h4, h5, h6, (pt_callV (i := t) kX0_offerRow_83 mX4_isLeft rfl h1 rfl (dX4_isLeft_v h1 h7 h8)), h9, (by decide), h10, ⟨h11, h1⟩, h12, trivial⟩
set_option maxRecDepth 100000 in
theorem gX0_offerRow13_39_2 (t : Nat) (l2 : Int32) (l4 : Int32) (l5 : Int32) (l6 : Int32) (l7 : Int32) (l8 : Int32)  (M : pt_M) (h1 : t < 7) (h2 : ¬ (pt_F M 3 0 t) ≤ l8) (h3 : ¬ (nI 120) ≤ l5) (h4 : pt_in l6 10) (h5 : pt_in l7 10) (h6 : pt_in l8 10) (h7 : pt_in (pt_A M 15 0 (pt_nt l6)) 10) (h8 : pt_in (pt_A M 15 0 (pt_nt l7)) 10) (h9 : ¬ (lb_F M t (pt_A M 15 0 (pt_nt l6)) (pt_A M 15 0 (pt_nt l7)) (pt_A M 15 0 (pt_nt l8))) = l2) (h10 : l4 = 0) (h11 : pt_in l5 120) (h12 : 1 ≤ (pt_A M 13 t (pt_nt l5))) (h13 : ¬ (pt_A M 13 t (pt_nt l5)) ≤ 1) :
    pt_Go YX0_offerRow (39, [(0, pt_r 5 0), (1, pt_r 3 t), (2, pt_i l2), (3, pt_r 13 t), (4, pt_i l4), (5, pt_i l5), (6, pt_i l6), (7, pt_i l7), (8, pt_i l8)], [], M)
      (39, [(0, pt_r 5 0), (1, pt_r 3 t), (2, pt_i l2), (3, pt_r 13 t), (4, pt_i 1), (5, pt_i (l5 + 1)), (6, pt_i l6), (7, pt_i l7), (8, pt_i (l8 + 1))], [], (pt_wA M 13 t (upd (pt_A M 13 t) (pt_nt l5) 1))) :=
  (pt_run_ok tX0_offerRow_ok 56 [.inl false, .inl false, .inr (4, some (pt_i (lb_F M t (pt_A M 15 0 (pt_nt l6)) (pt_A M 15 0 (pt_nt l7)) (pt_A M 15 0 (pt_nt l8)))), M), .inl false, .inl false, .inl false, .inl true, .inl false, .inl false] (P := (t < 7) ∧ (¬ (pt_F M 3 0 t) ≤ l8) ∧ (t < 7) ∧ (¬ (nI 120) ≤ l5) ∧ (pt_in l6 10) ∧ (pt_in l7 10) ∧ (pt_in l8 10) ∧ pt_Cal YX0_offerRow (.invokevirtual 83) [pt_r 3 t, pt_i (pt_A M 15 0 (pt_nt l6)), pt_i (pt_A M 15 0 (pt_nt l7)), pt_i (pt_A M 15 0 (pt_nt l8))] M (some (pt_i (lb_F M t (pt_A M 15 0 (pt_nt l6)) (pt_A M 15 0 (pt_nt l7)) (pt_A M 15 0 (pt_nt l8))))) M ∧ (¬ (lb_F M t (pt_A M 15 0 (pt_nt l6)) (pt_A M 15 0 (pt_nt l7)) (pt_A M 15 0 (pt_nt l8))) = l2) ∧ (¬ (1 : Int32) = (0 : Int32)) ∧ (l4 = 0) ∧ ((pt_in l5 120) ∧ (t < 7)) ∧ (1 ≤ (pt_A M 13 t (pt_nt l5))) ∧ (l4 = 0) ∧ ((pt_in l5 120) ∧ (t < 7)) ∧ (¬ (pt_A M 13 t (pt_nt l5)) ≤ 1) ∧ ((pt_in l5 120) ∧ (t < 7)) ∧ True) (by with_unfolding_all rfl) ⟨h1, h2, h1, h3, h4, h5, h6, (pt_callV (i := t) kX0_offerRow_83 mX4_isLeft rfl h1 rfl (dX4_isLeft_v h1 h7 h8)), h9, (by decide), h10, ⟨h11, h1⟩, h12, h10, ⟨h11, h1⟩, h13, ⟨h11, h1⟩, trivial⟩ : pt_Go YX0_offerRow _ (39, [(0, pt_r 5 0), (1, pt_r 3 t), (2, pt_i l2), (3, pt_r 13 t), (4, pt_i 1), (5, pt_i (l5 + 1)), (6, pt_i l6), (7, pt_i l7), (8, pt_i (l8 + 1)), (9, pt_i 1), (10, pt_i 1)], [], (pt_wA M 13 t (upd (pt_A M 13 t) (pt_nt l5) 1)))).tr (pt_pick [0, 1, 2, 3, 4, 5, 6, 7, 8] (by with_unfolding_all rfl))
set_option maxRecDepth 100000 in
theorem gX0_offerRow13_39_3 (t : Nat) (l2 : Int32) (l4 : Int32) (l5 : Int32) (l6 : Int32) (l7 : Int32) (l8 : Int32)  (M : pt_M) (h1 : t < 7) (h2 : ¬ (pt_F M 3 0 t) ≤ l8) (h3 : ¬ (nI 120) ≤ l5) (h4 : pt_in l6 10) (h5 : pt_in l7 10) (h6 : pt_in l8 10) (h7 : pt_in (pt_A M 15 0 (pt_nt l6)) 10) (h8 : pt_in (pt_A M 15 0 (pt_nt l7)) 10) (h9 : ¬ (lb_F M t (pt_A M 15 0 (pt_nt l6)) (pt_A M 15 0 (pt_nt l7)) (pt_A M 15 0 (pt_nt l8))) = l2) (h10 : l4 = 0) (h11 : pt_in l5 120) (h12 : 1 ≤ (pt_A M 13 t (pt_nt l5))) (h13 : (pt_A M 13 t (pt_nt l5)) ≤ 1) :
    pt_Go YX0_offerRow (39, [(0, pt_r 5 0), (1, pt_r 3 t), (2, pt_i l2), (3, pt_r 13 t), (4, pt_i l4), (5, pt_i l5), (6, pt_i l6), (7, pt_i l7), (8, pt_i l8)], [], M)
      (39, [(0, pt_r 5 0), (1, pt_r 3 t), (2, pt_i l2), (3, pt_r 13 t), (4, pt_i 0), (5, pt_i (l5 + 1)), (6, pt_i l6), (7, pt_i l7), (8, pt_i (l8 + 1))], [], (pt_wA M 13 t (upd (pt_A M 13 t) (pt_nt l5) 1))) :=
  (pt_run_ok tX0_offerRow_ok 55 [.inl false, .inl false, .inr (4, some (pt_i (lb_F M t (pt_A M 15 0 (pt_nt l6)) (pt_A M 15 0 (pt_nt l7)) (pt_A M 15 0 (pt_nt l8)))), M), .inl false, .inl false, .inl false, .inl true, .inl false, .inl true] (P := (t < 7) ∧ (¬ (pt_F M 3 0 t) ≤ l8) ∧ (t < 7) ∧ (¬ (nI 120) ≤ l5) ∧ (pt_in l6 10) ∧ (pt_in l7 10) ∧ (pt_in l8 10) ∧ pt_Cal YX0_offerRow (.invokevirtual 83) [pt_r 3 t, pt_i (pt_A M 15 0 (pt_nt l6)), pt_i (pt_A M 15 0 (pt_nt l7)), pt_i (pt_A M 15 0 (pt_nt l8))] M (some (pt_i (lb_F M t (pt_A M 15 0 (pt_nt l6)) (pt_A M 15 0 (pt_nt l7)) (pt_A M 15 0 (pt_nt l8))))) M ∧ (¬ (lb_F M t (pt_A M 15 0 (pt_nt l6)) (pt_A M 15 0 (pt_nt l7)) (pt_A M 15 0 (pt_nt l8))) = l2) ∧ (¬ (1 : Int32) = (0 : Int32)) ∧ (l4 = 0) ∧ ((pt_in l5 120) ∧ (t < 7)) ∧ (1 ≤ (pt_A M 13 t (pt_nt l5))) ∧ (l4 = 0) ∧ ((pt_in l5 120) ∧ (t < 7)) ∧ ((pt_A M 13 t (pt_nt l5)) ≤ 1) ∧ ((pt_in l5 120) ∧ (t < 7)) ∧ True) (by with_unfolding_all rfl) ⟨h1, h2, h1, h3, h4, h5, h6, (pt_callV (i := t) kX0_offerRow_83 mX4_isLeft rfl h1 rfl (dX4_isLeft_v h1 h7 h8)), h9, (by decide), h10, ⟨h11, h1⟩, h12, h10, ⟨h11, h1⟩, h13, ⟨h11, h1⟩, trivial⟩ : pt_Go YX0_offerRow _ (39, [(0, pt_r 5 0), (1, pt_r 3 t), (2, pt_i l2), (3, pt_r 13 t), (4, pt_i 0), (5, pt_i (l5 + 1)), (6, pt_i l6), (7, pt_i l7), (8, pt_i (l8 + 1)), (9, pt_i 1), (10, pt_i 1)], [], (pt_wA M 13 t (upd (pt_A M 13 t) (pt_nt l5) 1)))).tr (pt_pick [0, 1, 2, 3, 4, 5, 6, 7, 8] (by with_unfolding_all rfl))
set_option maxRecDepth 100000 in
theorem gX0_offerRow13_39_4 (t : Nat) (l2 : Int32) (l4 : Int32) (l5 : Int32) (l6 : Int32) (l7 : Int32) (l8 : Int32)  (M : pt_M) (h1 : t < 7) (h2 : ¬ (pt_F M 3 0 t) ≤ l8) (h3 : ¬ (nI 120) ≤ l5) (h4 : pt_in l6 10) (h5 : pt_in l7 10) (h6 : pt_in l8 10) (h7 : pt_in (pt_A M 15 0 (pt_nt l6)) 10) (h8 : pt_in (pt_A M 15 0 (pt_nt l7)) 10) (h9 : ¬ (lb_F M t (pt_A M 15 0 (pt_nt l6)) (pt_A M 15 0 (pt_nt l7)) (pt_A M 15 0 (pt_nt l8))) = l2) (h10 : ¬ l4 = 0) (h11 : pt_in l5 120) :
    pt_Go YX0_offerRow (39, [(0, pt_r 5 0), (1, pt_r 3 t), (2, pt_i l2), (3, pt_r 13 t), (4, pt_i l4), (5, pt_i l5), (6, pt_i l6), (7, pt_i l7), (8, pt_i l8)], [], M)
      (39, [(0, pt_r 5 0), (1, pt_r 3 t), (2, pt_i l2), (3, pt_r 13 t), (4, pt_i 1), (5, pt_i (l5 + 1)), (6, pt_i l6), (7, pt_i l7), (8, pt_i (l8 + 1))], [], (pt_wA M 13 t (upd (pt_A M 13 t) (pt_nt l5) 1))) :=
  (pt_run_ok tX0_offerRow_ok 46 [.inl false, .inl false, .inr (4, some (pt_i (lb_F M t (pt_A M 15 0 (pt_nt l6)) (pt_A M 15 0 (pt_nt l7)) (pt_A M 15 0 (pt_nt l8)))), M), .inl false, .inl false, .inl true, .inl true] (P := (t < 7) ∧ (¬ (pt_F M 3 0 t) ≤ l8) ∧ (t < 7) ∧ (¬ (nI 120) ≤ l5) ∧ (pt_in l6 10) ∧ (pt_in l7 10) ∧ (pt_in l8 10) ∧ pt_Cal YX0_offerRow (.invokevirtual 83) [pt_r 3 t, pt_i (pt_A M 15 0 (pt_nt l6)), pt_i (pt_A M 15 0 (pt_nt l7)), pt_i (pt_A M 15 0 (pt_nt l8))] M (some (pt_i (lb_F M t (pt_A M 15 0 (pt_nt l6)) (pt_A M 15 0 (pt_nt l7)) (pt_A M 15 0 (pt_nt l8))))) M ∧ (¬ (lb_F M t (pt_A M 15 0 (pt_nt l6)) (pt_A M 15 0 (pt_nt l7)) (pt_A M 15 0 (pt_nt l8))) = l2) ∧ (¬ (1 : Int32) = (0 : Int32)) ∧ (¬ l4 = 0) ∧ (¬ l4 = 0) ∧ ((pt_in l5 120) ∧ (t < 7)) ∧ True) (by with_unfolding_all rfl) ⟨h1, h2, h1, h3, h4, h5, h6, (pt_callV (i := t) kX0_offerRow_83 mX4_isLeft rfl h1 rfl (dX4_isLeft_v h1 h7 h8)), h9, (by decide), h10, h10, ⟨h11, h1⟩, trivial⟩ : pt_Go YX0_offerRow _ (39, [(0, pt_r 5 0), (1, pt_r 3 t), (2, pt_i l2), (3, pt_r 13 t), (4, pt_i 1), (5, pt_i (l5 + 1)), (6, pt_i l6), (7, pt_i l7), (8, pt_i (l8 + 1)), (9, pt_i 1), (10, pt_i 1)], [], (pt_wA M 13 t (upd (pt_A M 13 t) (pt_nt l5) 1)))).tr (pt_pick [0, 1, 2, 3, 4, 5, 6, 7, 8] (by with_unfolding_all rfl))
set_option maxRecDepth 100000 in
theorem gX0_offerRow13_39_5 (t : Nat) (l2 : Int32) (l4 : Int32) (l5 : Int32) (l6 : Int32) (l7 : Int32) (l8 : Int32)  (M : pt_M) (h1 : t < 7) (h2 : ¬ (pt_F M 3 0 t) ≤ l8) (h3 : ¬ (nI 120) ≤ l5) (h4 : pt_in l6 10) (h5 : pt_in l7 10) (h6 : pt_in l8 10) (h7 : pt_in (pt_A M 15 0 (pt_nt l6)) 10) (h8 : pt_in (pt_A M 15 0 (pt_nt l7)) 10) (h9 : (lb_F M t (pt_A M 15 0 (pt_nt l6)) (pt_A M 15 0 (pt_nt l7)) (pt_A M 15 0 (pt_nt l8))) = l2) (h10 : l4 = 0) (h11 : pt_in l5 120) (h12 : ¬ 2 ≤ (pt_A M 13 t (pt_nt l5))) :
    pt_Go YX0_offerRow (39, [(0, pt_r 5 0), (1, pt_r 3 t), (2, pt_i l2), (3, pt_r 13 t), (4, pt_i l4), (5, pt_i l5), (6, pt_i l6), (7, pt_i l7), (8, pt_i l8)], [], M)
      (117, [(0, pt_r 5 0), (1, pt_r 3 t), (2, pt_i l2), (3, pt_r 13 t), (4, pt_i l4), (5, pt_i l5), (6, pt_i l6), (7, pt_i l7), (8, pt_i l8), (9, pt_i 0), (10, pt_i 2)], [], M) :=
  pt_run_ok tX0_offerRow_ok 37 [.inl false, .inl false, .inr (4, some (pt_i (lb_F M t (pt_A M 15 0 (pt_nt l6)) (pt_A M 15 0 (pt_nt l7)) (pt_A M 15 0 (pt_nt l8)))), M), .inl true, .inl true, .inl false, .inl false] (P := (t < 7) ∧ (¬ (pt_F M 3 0 t) ≤ l8) ∧ (t < 7) ∧ (¬ (nI 120) ≤ l5) ∧ (pt_in l6 10) ∧ (pt_in l7 10) ∧ (pt_in l8 10) ∧ pt_Cal YX0_offerRow (.invokevirtual 83) [pt_r 3 t, pt_i (pt_A M 15 0 (pt_nt l6)), pt_i (pt_A M 15 0 (pt_nt l7)), pt_i (pt_A M 15 0 (pt_nt l8))] M (some (pt_i (lb_F M t (pt_A M 15 0 (pt_nt l6)) (pt_A M 15 0 (pt_nt l7)) (pt_A M 15 0 (pt_nt l8))))) M ∧ ((lb_F M t (pt_A M 15 0 (pt_nt l6)) (pt_A M 15 0 (pt_nt l7)) (pt_A M 15 0 (pt_nt l8))) = l2) ∧ ((0 : Int32) = (0 : Int32)) ∧ (l4 = 0) ∧ ((pt_in l5 120) ∧ (t < 7)) ∧ (¬ 2 ≤ (pt_A M 13 t (pt_nt l5))) ∧ True) (by with_unfolding_all rfl) ⟨h1, h2, h1, h3, h4, h5, h6, (pt_callV (i := t) kX0_offerRow_83 mX4_isLeft rfl h1 rfl (dX4_isLeft_v h1 h7 h8)), h9, (by decide), h10, ⟨h11, h1⟩, h12, trivial⟩
set_option maxRecDepth 100000 in
theorem gX0_offerRow13_39_6 (t : Nat) (l2 : Int32) (l4 : Int32) (l5 : Int32) (l6 : Int32) (l7 : Int32) (l8 : Int32)  (M : pt_M) (h1 : t < 7) (h2 : ¬ (pt_F M 3 0 t) ≤ l8) (h3 : ¬ (nI 120) ≤ l5) (h4 : pt_in l6 10) (h5 : pt_in l7 10) (h6 : pt_in l8 10) (h7 : pt_in (pt_A M 15 0 (pt_nt l6)) 10) (h8 : pt_in (pt_A M 15 0 (pt_nt l7)) 10) (h9 : (lb_F M t (pt_A M 15 0 (pt_nt l6)) (pt_A M 15 0 (pt_nt l7)) (pt_A M 15 0 (pt_nt l8))) = l2) (h10 : l4 = 0) (h11 : pt_in l5 120) (h12 : 2 ≤ (pt_A M 13 t (pt_nt l5))) (h13 : ¬ (pt_A M 13 t (pt_nt l5)) ≤ 2) :
    pt_Go YX0_offerRow (39, [(0, pt_r 5 0), (1, pt_r 3 t), (2, pt_i l2), (3, pt_r 13 t), (4, pt_i l4), (5, pt_i l5), (6, pt_i l6), (7, pt_i l7), (8, pt_i l8)], [], M)
      (39, [(0, pt_r 5 0), (1, pt_r 3 t), (2, pt_i l2), (3, pt_r 13 t), (4, pt_i 1), (5, pt_i (l5 + 1)), (6, pt_i l6), (7, pt_i l7), (8, pt_i (l8 + 1))], [], (pt_wA M 13 t (upd (pt_A M 13 t) (pt_nt l5) 2))) :=
  (pt_run_ok tX0_offerRow_ok 54 [.inl false, .inl false, .inr (4, some (pt_i (lb_F M t (pt_A M 15 0 (pt_nt l6)) (pt_A M 15 0 (pt_nt l7)) (pt_A M 15 0 (pt_nt l8)))), M), .inl true, .inl true, .inl false, .inl true, .inl false, .inl false] (P := (t < 7) ∧ (¬ (pt_F M 3 0 t) ≤ l8) ∧ (t < 7) ∧ (¬ (nI 120) ≤ l5) ∧ (pt_in l6 10) ∧ (pt_in l7 10) ∧ (pt_in l8 10) ∧ pt_Cal YX0_offerRow (.invokevirtual 83) [pt_r 3 t, pt_i (pt_A M 15 0 (pt_nt l6)), pt_i (pt_A M 15 0 (pt_nt l7)), pt_i (pt_A M 15 0 (pt_nt l8))] M (some (pt_i (lb_F M t (pt_A M 15 0 (pt_nt l6)) (pt_A M 15 0 (pt_nt l7)) (pt_A M 15 0 (pt_nt l8))))) M ∧ ((lb_F M t (pt_A M 15 0 (pt_nt l6)) (pt_A M 15 0 (pt_nt l7)) (pt_A M 15 0 (pt_nt l8))) = l2) ∧ ((0 : Int32) = (0 : Int32)) ∧ (l4 = 0) ∧ ((pt_in l5 120) ∧ (t < 7)) ∧ (2 ≤ (pt_A M 13 t (pt_nt l5))) ∧ (l4 = 0) ∧ ((pt_in l5 120) ∧ (t < 7)) ∧ (¬ (pt_A M 13 t (pt_nt l5)) ≤ 2) ∧ ((pt_in l5 120) ∧ (t < 7)) ∧ True) (by with_unfolding_all rfl) ⟨h1, h2, h1, h3, h4, h5, h6, (pt_callV (i := t) kX0_offerRow_83 mX4_isLeft rfl h1 rfl (dX4_isLeft_v h1 h7 h8)), h9, (by decide), h10, ⟨h11, h1⟩, h12, h10, ⟨h11, h1⟩, h13, ⟨h11, h1⟩, trivial⟩ : pt_Go YX0_offerRow _ (39, [(0, pt_r 5 0), (1, pt_r 3 t), (2, pt_i l2), (3, pt_r 13 t), (4, pt_i 1), (5, pt_i (l5 + 1)), (6, pt_i l6), (7, pt_i l7), (8, pt_i (l8 + 1)), (9, pt_i 0), (10, pt_i 2)], [], (pt_wA M 13 t (upd (pt_A M 13 t) (pt_nt l5) 2)))).tr (pt_pick [0, 1, 2, 3, 4, 5, 6, 7, 8] (by with_unfolding_all rfl))
set_option maxRecDepth 100000 in
theorem gX0_offerRow13_39_7 (t : Nat) (l2 : Int32) (l4 : Int32) (l5 : Int32) (l6 : Int32) (l7 : Int32) (l8 : Int32)  (M : pt_M) (h1 : t < 7) (h2 : ¬ (pt_F M 3 0 t) ≤ l8) (h3 : ¬ (nI 120) ≤ l5) (h4 : pt_in l6 10) (h5 : pt_in l7 10) (h6 : pt_in l8 10) (h7 : pt_in (pt_A M 15 0 (pt_nt l6)) 10) (h8 : pt_in (pt_A M 15 0 (pt_nt l7)) 10) (h9 : (lb_F M t (pt_A M 15 0 (pt_nt l6)) (pt_A M 15 0 (pt_nt l7)) (pt_A M 15 0 (pt_nt l8))) = l2) (h10 : l4 = 0) (h11 : pt_in l5 120) (h12 : 2 ≤ (pt_A M 13 t (pt_nt l5))) (h13 : (pt_A M 13 t (pt_nt l5)) ≤ 2) :
    pt_Go YX0_offerRow (39, [(0, pt_r 5 0), (1, pt_r 3 t), (2, pt_i l2), (3, pt_r 13 t), (4, pt_i l4), (5, pt_i l5), (6, pt_i l6), (7, pt_i l7), (8, pt_i l8)], [], M)
      (39, [(0, pt_r 5 0), (1, pt_r 3 t), (2, pt_i l2), (3, pt_r 13 t), (4, pt_i 0), (5, pt_i (l5 + 1)), (6, pt_i l6), (7, pt_i l7), (8, pt_i (l8 + 1))], [], (pt_wA M 13 t (upd (pt_A M 13 t) (pt_nt l5) 2))) :=
  (pt_run_ok tX0_offerRow_ok 53 [.inl false, .inl false, .inr (4, some (pt_i (lb_F M t (pt_A M 15 0 (pt_nt l6)) (pt_A M 15 0 (pt_nt l7)) (pt_A M 15 0 (pt_nt l8)))), M), .inl true, .inl true, .inl false, .inl true, .inl false, .inl true] (P := (t < 7) ∧ (¬ (pt_F M 3 0 t) ≤ l8) ∧ (t < 7) ∧ (¬ (nI 120) ≤ l5) ∧ (pt_in l6 10) ∧ (pt_in l7 10) ∧ (pt_in l8 10) ∧ pt_Cal YX0_offerRow (.invokevirtual 83) [pt_r 3 t, pt_i (pt_A M 15 0 (pt_nt l6)), pt_i (pt_A M 15 0 (pt_nt l7)), pt_i (pt_A M 15 0 (pt_nt l8))] M (some (pt_i (lb_F M t (pt_A M 15 0 (pt_nt l6)) (pt_A M 15 0 (pt_nt l7)) (pt_A M 15 0 (pt_nt l8))))) M ∧ ((lb_F M t (pt_A M 15 0 (pt_nt l6)) (pt_A M 15 0 (pt_nt l7)) (pt_A M 15 0 (pt_nt l8))) = l2) ∧ ((0 : Int32) = (0 : Int32)) ∧ (l4 = 0) ∧ ((pt_in l5 120) ∧ (t < 7)) ∧ (2 ≤ (pt_A M 13 t (pt_nt l5))) ∧ (l4 = 0) ∧ ((pt_in l5 120) ∧ (t < 7)) ∧ ((pt_A M 13 t (pt_nt l5)) ≤ 2) ∧ ((pt_in l5 120) ∧ (t < 7)) ∧ True) (by with_unfolding_all rfl) ⟨h1, h2, h1, h3, h4, h5, h6, (pt_callV (i := t) kX0_offerRow_83 mX4_isLeft rfl h1 rfl (dX4_isLeft_v h1 h7 h8)), h9, (by decide), h10, ⟨h11, h1⟩, h12, h10, ⟨h11, h1⟩, h13, ⟨h11, h1⟩, trivial⟩ : pt_Go YX0_offerRow _ (39, [(0, pt_r 5 0), (1, pt_r 3 t), (2, pt_i l2), (3, pt_r 13 t), (4, pt_i 0), (5, pt_i (l5 + 1)), (6, pt_i l6), (7, pt_i l7), (8, pt_i (l8 + 1)), (9, pt_i 0), (10, pt_i 2)], [], (pt_wA M 13 t (upd (pt_A M 13 t) (pt_nt l5) 2)))).tr (pt_pick [0, 1, 2, 3, 4, 5, 6, 7, 8] (by with_unfolding_all rfl))
set_option maxRecDepth 100000 in
theorem gX0_offerRow13_39_8 (t : Nat) (l2 : Int32) (l4 : Int32) (l5 : Int32) (l6 : Int32) (l7 : Int32) (l8 : Int32)  (M : pt_M) (h1 : t < 7) (h2 : ¬ (pt_F M 3 0 t) ≤ l8) (h3 : ¬ (nI 120) ≤ l5) (h4 : pt_in l6 10) (h5 : pt_in l7 10) (h6 : pt_in l8 10) (h7 : pt_in (pt_A M 15 0 (pt_nt l6)) 10) (h8 : pt_in (pt_A M 15 0 (pt_nt l7)) 10) (h9 : (lb_F M t (pt_A M 15 0 (pt_nt l6)) (pt_A M 15 0 (pt_nt l7)) (pt_A M 15 0 (pt_nt l8))) = l2) (h10 : ¬ l4 = 0) (h11 : pt_in l5 120) :
    pt_Go YX0_offerRow (39, [(0, pt_r 5 0), (1, pt_r 3 t), (2, pt_i l2), (3, pt_r 13 t), (4, pt_i l4), (5, pt_i l5), (6, pt_i l6), (7, pt_i l7), (8, pt_i l8)], [], M)
      (39, [(0, pt_r 5 0), (1, pt_r 3 t), (2, pt_i l2), (3, pt_r 13 t), (4, pt_i 1), (5, pt_i (l5 + 1)), (6, pt_i l6), (7, pt_i l7), (8, pt_i (l8 + 1))], [], (pt_wA M 13 t (upd (pt_A M 13 t) (pt_nt l5) 2))) :=
  (pt_run_ok tX0_offerRow_ok 44 [.inl false, .inl false, .inr (4, some (pt_i (lb_F M t (pt_A M 15 0 (pt_nt l6)) (pt_A M 15 0 (pt_nt l7)) (pt_A M 15 0 (pt_nt l8)))), M), .inl true, .inl true, .inl true, .inl true] (P := (t < 7) ∧ (¬ (pt_F M 3 0 t) ≤ l8) ∧ (t < 7) ∧ (¬ (nI 120) ≤ l5) ∧ (pt_in l6 10) ∧ (pt_in l7 10) ∧ (pt_in l8 10) ∧ pt_Cal YX0_offerRow (.invokevirtual 83) [pt_r 3 t, pt_i (pt_A M 15 0 (pt_nt l6)), pt_i (pt_A M 15 0 (pt_nt l7)), pt_i (pt_A M 15 0 (pt_nt l8))] M (some (pt_i (lb_F M t (pt_A M 15 0 (pt_nt l6)) (pt_A M 15 0 (pt_nt l7)) (pt_A M 15 0 (pt_nt l8))))) M ∧ ((lb_F M t (pt_A M 15 0 (pt_nt l6)) (pt_A M 15 0 (pt_nt l7)) (pt_A M 15 0 (pt_nt l8))) = l2) ∧ ((0 : Int32) = (0 : Int32)) ∧ (¬ l4 = 0) ∧ (¬ l4 = 0) ∧ ((pt_in l5 120) ∧ (t < 7)) ∧ True) (by with_unfolding_all rfl) ⟨h1, h2, h1, h3, h4, h5, h6, (pt_callV (i := t) kX0_offerRow_83 mX4_isLeft rfl h1 rfl (dX4_isLeft_v h1 h7 h8)), h9, (by decide), h10, h10, ⟨h11, h1⟩, trivial⟩ : pt_Go YX0_offerRow _ (39, [(0, pt_r 5 0), (1, pt_r 3 t), (2, pt_i l2), (3, pt_r 13 t), (4, pt_i 1), (5, pt_i (l5 + 1)), (6, pt_i l6), (7, pt_i l7), (8, pt_i (l8 + 1)), (9, pt_i 0), (10, pt_i 2)], [], (pt_wA M 13 t (upd (pt_A M 13 t) (pt_nt l5) 2)))).tr (pt_pick [0, 1, 2, 3, 4, 5, 6, 7, 8] (by with_unfolding_all rfl))
set_option maxRecDepth 100000 in
theorem gX0_offerRow13_39_9 (t : Nat) (l2 : Int32) (l4 : Int32) (l5 : Int32) (l6 : Int32) (l7 : Int32) (l8 : Int32)  (M : pt_M) (h1 : t < 7) (h2 : ¬ (pt_F M 3 0 t) ≤ l8) (h3 : (nI 120) ≤ l5) :
    pt_Go YX0_offerRow (39, [(0, pt_r 5 0), (1, pt_r 3 t), (2, pt_i l2), (3, pt_r 13 t), (4, pt_i l4), (5, pt_i l5), (6, pt_i l6), (7, pt_i l7), (8, pt_i l8)], [], M)
      (24, [(0, pt_r 5 0), (1, pt_r 3 t), (2, pt_i l2), (3, pt_r 13 t), (4, pt_i l4), (5, pt_i l5), (6, pt_i l6), (7, pt_i (l7 + 1))], [], M) :=
  (pt_run_ok tX0_offerRow_ok 10 [.inl false, .inl true] (P := (t < 7) ∧ (¬ (pt_F M 3 0 t) ≤ l8) ∧ (t < 7) ∧ ((nI 120) ≤ l5) ∧ True) (by with_unfolding_all rfl) ⟨h1, h2, h1, h3, trivial⟩ : pt_Go YX0_offerRow _ (24, [(0, pt_r 5 0), (1, pt_r 3 t), (2, pt_i l2), (3, pt_r 13 t), (4, pt_i l4), (5, pt_i l5), (6, pt_i l6), (7, pt_i (l7 + 1)), (8, pt_i l8)], [], M)).tr (pt_pick [0, 1, 2, 3, 4, 5, 6, 7] (by with_unfolding_all rfl))
set_option maxRecDepth 100000 in
theorem gX0_offerRow13_39_10 (t : Nat) (l2 : Int32) (l4 : Int32) (l5 : Int32) (l6 : Int32) (l7 : Int32) (l8 : Int32)  (M : pt_M) (h1 : t < 7) (h2 : (pt_F M 3 0 t) ≤ l8) :
    pt_Go YX0_offerRow (39, [(0, pt_r 5 0), (1, pt_r 3 t), (2, pt_i l2), (3, pt_r 13 t), (4, pt_i l4), (5, pt_i l5), (6, pt_i l6), (7, pt_i l7), (8, pt_i l8)], [], M)
      (24, [(0, pt_r 5 0), (1, pt_r 3 t), (2, pt_i l2), (3, pt_r 13 t), (4, pt_i l4), (5, pt_i l5), (6, pt_i l6), (7, pt_i (l7 + 1))], [], M) :=
  (pt_run_ok tX0_offerRow_ok 6 [.inl true] (P := (t < 7) ∧ ((pt_F M 3 0 t) ≤ l8) ∧ True) (by with_unfolding_all rfl) ⟨h1, h2, trivial⟩ : pt_Go YX0_offerRow _ (24, [(0, pt_r 5 0), (1, pt_r 3 t), (2, pt_i l2), (3, pt_r 13 t), (4, pt_i l4), (5, pt_i l5), (6, pt_i l6), (7, pt_i (l7 + 1)), (8, pt_i l8)], [], M)).tr (pt_pick [0, 1, 2, 3, 4, 5, 6, 7] (by with_unfolding_all rfl))
theorem of_step_13 {t n i j k p : Nat} {mr : Bool} {g : Nat → Nat} {B : Nat → Nat → Nat → Bool} {M : pt_M} {fst w : Nat → Int32} (h : tb_P M t n B) (hg : ∀ i, i < n → pt_A M 15 0 i = nI (g i) ∧ g i < 10) (hfe : pt_A M 13 t = fst) (hi : i < n) (hj : j < n) (hk : k < n) (hpl : p < 120) (hwp : w p = if B (g i) (g j) (g k) != mr then 1 else 2) : (∀ v : Unit, (if rt_F fst w p then some () else none) = some v → pt_Go YX0_offerRow (39, [(0, pt_r 5 0), (1, pt_r 3 t), (2, pt_i (pt_b mr)), (3, pt_r 13 t), (4, pt_i (pt_b (!eq_F fst w p))), (5, pt_i (nI p)), (6, pt_i (nI i)), (7, pt_i (nI j)), (8, pt_i (nI k))], [], pt_wA M 13 t (co_F fst w p)) (117, [], [], M)) ∧ ((if rt_F fst w p then some () else none) = none → pt_Go YX0_offerRow (39, [(0, pt_r 5 0), (1, pt_r 3 t), (2, pt_i (pt_b mr)), (3, pt_r 13 t), (4, pt_i (pt_b (!eq_F fst w p))), (5, pt_i (nI p)), (6, pt_i (nI i)), (7, pt_i (nI j)), (8, pt_i (nI k))], [], pt_wA M 13 t (co_F fst w p)) (39, [(0, pt_r 5 0), (1, pt_r 3 t), (2, pt_i (pt_b mr)), (3, pt_r 13 t), (4, pt_i (pt_b (!eq_F fst w (p + 1)))), (5, pt_i (nI (p + 1))), (6, pt_i (nI i)), (7, pt_i (nI j)), (8, pt_i (nI (k + 1)))], [], pt_wA M 13 t (co_F fst w (p + 1)))) := by
  obtain ⟨ht, hn, hs, hB⟩ := h
  have hlt : ∀ i, i < n → ¬ pt_F M 3 0 t ≤ nI i := fun i hi => by rw [hs]; exact nI_ge hi (by omega)
  have hp : ∀ i, i < n → pt_in (nI i) 10 := fun i hi => pt_in_nI (by omega) (by decide)
  have hA : ∀ a, a < n → pt_A (pt_wA M 13 t (co_F fst w p)) 15 0 (pt_nt (nI a)) = nI (g a) := fun a ha => by
    rw [pt_A_wA', if_neg (fun z => absurd z.1 (by decide)), pt_nt_nI (by omega)]
    exact (hg a ha).1
  have e1 := hA i hi
  have e2 := hA j hj
  have e3 := hA k hk
  have hB' : ct_B (pt_wA M 13 t (co_F fst w p)) t B := fun a c ha hc => by
    rw [pt_A_wA', if_neg (fun z => absurd z.1 (by decide))]
    exact hB a c ha hc
  have el : lb_F (pt_wA M 13 t (co_F fst w p)) t (nI (g i)) (nI (g j)) (nI (g k)) = pt_b (B (g i) (g j) (g k)) := lb_B hB' (hg i hi).2 (hg j hj).2 (hg k hk).2
  have ef : pt_A (pt_wA M 13 t (co_F fst w p)) 13 t (pt_nt (nI p)) = fst p := by
    rw [pt_A_wA, pt_nt_nI (by omega)]
    exact co_at fst w p
  have g1 : pt_in (pt_A (pt_wA M 13 t (co_F fst w p)) 15 0 (pt_nt (nI i))) 10 := by rw [e1]; exact pt_in_nI (hg i hi).2 (by decide)
  have g2 : pt_in (pt_A (pt_wA M 13 t (co_F fst w p)) 15 0 (pt_nt (nI j))) 10 := by rw [e2]; exact pt_in_nI (hg j hj).2 (by decide)
  have g5 : pt_in (nI p) 120 := pt_in_nI (by omega) (by decide)
  have g5' : ¬ nI 120 ≤ nI p := nI_ge (by omega) (by decide)
  have hF : ¬ pt_F (pt_wA M 13 t (co_F fst w p)) 3 0 t ≤ nI k := hlt k hk
  have hst : pt_wA (pt_wA M 13 t (co_F fst w p)) 13 t (upd (pt_A (pt_wA M 13 t (co_F fst w p)) 13 t) (pt_nt (nI p)) (w p)) = pt_wA M 13 t (co_F fst w (p + 1)) := by
    rw [pt_wA_wA, pt_A_wA, pt_nt_nI (by omega), co_step]
  have hM : eq_F fst w p = true → pt_wA M 13 t (co_F fst w p) = M := fun he => by rw [co_eq he, ← hfe, pt_wA_self]
  cases hbv : (B (g i) (g j) (g k) != mr)
  · rw [hbv] at hwp
    have hwp : w p = 2 := hwp
    have hl : lb_F (pt_wA M 13 t (co_F fst w p)) t (pt_A (pt_wA M 13 t (co_F fst w p)) 15 0 (pt_nt (nI i))) (pt_A (pt_wA M 13 t (co_F fst w p)) 15 0 (pt_nt (nI j))) (pt_A (pt_wA M 13 t (co_F fst w p)) 15 0 (pt_nt (nI k))) = pt_b mr := by
      rw [e1, e2, e3, el, pt_b_eq]
      simpa using hbv
    cases he : eq_F fst w p
    · refine ⟨fun v z => by simp [rt_F, he] at z, fun _ => (gX0_offerRow13_39_8 t (pt_b mr) _ (nI p) (nI i) (nI j) (nI k) (pt_wA M 13 t (co_F fst w p)) ht hF g5' (hp i hi) (hp j hj) (hp k hk) g1 g2 hl (by decide) g5).to ?_⟩
      rw [hwp] at hst
      rw [hst, nI_1, nI_1, eq_succ, he]
      rfl
    · by_cases c1 : w p ≤ fst p
      · by_cases c2 : fst p ≤ w p
        · refine ⟨fun v z => by simp [rt_F, Int32.not_lt.mpr c1] at z, fun _ => (gX0_offerRow13_39_7 t (pt_b mr) _ (nI p) (nI i) (nI j) (nI k) (pt_wA M 13 t (co_F fst w p)) ht hF g5' (hp i hi) (hp j hj) (hp k hk) g1 g2 hl rfl g5 (by rw [ef, ← hwp]; exact c1) (by rw [ef, ← hwp]; exact c2)).to ?_⟩
          have c3 : w p = fst p := Int32.le_antisymm c1 c2
          rw [hwp] at hst
          rw [hst, nI_1, nI_1, eq_succ, he, c3]
          simp
          rfl
        · refine ⟨fun v z => by simp [rt_F, Int32.not_lt.mpr c1] at z, fun _ => (gX0_offerRow13_39_6 t (pt_b mr) _ (nI p) (nI i) (nI j) (nI k) (pt_wA M 13 t (co_F fst w p)) ht hF g5' (hp i hi) (hp j hj) (hp k hk) g1 g2 hl rfl g5 (by rw [ef, ← hwp]; exact c1) (by rw [ef, ← hwp]; exact c2)).to ?_⟩
          have c3 : ¬ w p = fst p := fun z => c2 (by rw [z]; exact Int32.le_refl _)
          rw [hwp] at hst
          rw [hst, nI_1, nI_1, eq_succ, he, decide_eq_false c3]
          rfl
      · refine ⟨fun v z => ((gX0_offerRow13_39_5 t (pt_b mr) _ (nI p) (nI i) (nI j) (nI k) (pt_wA M 13 t (co_F fst w p)) ht hF g5' (hp i hi) (hp j hj) (hp k hk) g1 g2 hl rfl g5 (by rw [ef, ← hwp]; exact c1)).tr pt_dropA).toM (hM he), fun z => by simp [rt_F, he, Int32.not_le.mp c1] at z⟩
  · rw [hbv] at hwp
    have hwp : w p = 1 := hwp
    have hl : ¬ lb_F (pt_wA M 13 t (co_F fst w p)) t (pt_A (pt_wA M 13 t (co_F fst w p)) 15 0 (pt_nt (nI i))) (pt_A (pt_wA M 13 t (co_F fst w p)) 15 0 (pt_nt (nI j))) (pt_A (pt_wA M 13 t (co_F fst w p)) 15 0 (pt_nt (nI k))) = pt_b mr := by
      rw [e1, e2, e3, el, pt_b_eq]
      simpa using hbv
    cases he : eq_F fst w p
    · refine ⟨fun v z => by simp [rt_F, he] at z, fun _ => (gX0_offerRow13_39_4 t (pt_b mr) _ (nI p) (nI i) (nI j) (nI k) (pt_wA M 13 t (co_F fst w p)) ht hF g5' (hp i hi) (hp j hj) (hp k hk) g1 g2 hl (by decide) g5).to ?_⟩
      rw [hwp] at hst
      rw [hst, nI_1, nI_1, eq_succ, he]
      rfl
    · by_cases c1 : w p ≤ fst p
      · by_cases c2 : fst p ≤ w p
        · refine ⟨fun v z => by simp [rt_F, Int32.not_lt.mpr c1] at z, fun _ => (gX0_offerRow13_39_3 t (pt_b mr) _ (nI p) (nI i) (nI j) (nI k) (pt_wA M 13 t (co_F fst w p)) ht hF g5' (hp i hi) (hp j hj) (hp k hk) g1 g2 hl rfl g5 (by rw [ef, ← hwp]; exact c1) (by rw [ef, ← hwp]; exact c2)).to ?_⟩
          have c3 : w p = fst p := Int32.le_antisymm c1 c2
          rw [hwp] at hst
          rw [hst, nI_1, nI_1, eq_succ, he, c3]
          simp
          rfl
        · refine ⟨fun v z => by simp [rt_F, Int32.not_lt.mpr c1] at z, fun _ => (gX0_offerRow13_39_2 t (pt_b mr) _ (nI p) (nI i) (nI j) (nI k) (pt_wA M 13 t (co_F fst w p)) ht hF g5' (hp i hi) (hp j hj) (hp k hk) g1 g2 hl rfl g5 (by rw [ef, ← hwp]; exact c1) (by rw [ef, ← hwp]; exact c2)).to ?_⟩
          have c3 : ¬ w p = fst p := fun z => c2 (by rw [z]; exact Int32.le_refl _)
          rw [hwp] at hst
          rw [hst, nI_1, nI_1, eq_succ, he, decide_eq_false c3]
          rfl
      · refine ⟨fun v z => ((gX0_offerRow13_39_1 t (pt_b mr) _ (nI p) (nI i) (nI j) (nI k) (pt_wA M 13 t (co_F fst w p)) ht hF g5' (hp i hi) (hp j hj) (hp k hk) g1 g2 hl rfl g5 (by rw [ef, ← hwp]; exact c1)).tr pt_dropA).toM (hM he), fun z => by simp [rt_F, he, Int32.not_le.mp c1] at z⟩
theorem dX0_offerRow_13 {t n : Nat} {mr : Bool} {g : Nat → Nat} {B : Nat → Nat → Nat → Bool} {M : pt_M} (h : tb_P M t n B) (hg : ∀ i, i < n → pt_A M 15 0 i = nI (g i) ∧ g i < 10) : pt_Does yX0_offerRow YX0_offerRow [pt_r 5 0, pt_r 3 t, pt_i (pt_b mr), pt_r 13 t] M none (of_M M 13 t (rk_0 n n) (rw_F n B g mr)) := by
  obtain ⟨ht, hn, hs, hB⟩ := h
  have hlt : ∀ i, i < n → ¬ pt_F M 3 0 t ≤ nI i := fun i hi => by rw [hs]; exact nI_ge hi (by omega)
  have hle : pt_F M 3 0 t ≤ nI n := by rw [hs]; exact Int32.le_refl _
  have hp : ∀ i, i < n → pt_in (nI i) 10 := fun i hi => pt_in_nI (by omega) (by decide)
  generalize hw : rw_F n B g mr = w
  generalize hfe : pt_A M 13 t = fst
  have K := pt_nest (α := Unit) (Y := YX0_offerRow) (σ := (0, [(0, pt_r 5 0), (1, pt_r 3 t), (2, pt_i (pt_b mr)), (3, pt_r 13 t)], [], M)) (τ := (166, [], [], pt_wA M 13 t (co_F fst w (rk_F n n (n + 1) (n + 2))))) (R := fun _ => (117, [], [], M)) (n := n) (i := 0)
    (S := fun i => (9, [(0, pt_r 5 0), (1, pt_r 3 t), (2, pt_i (pt_b mr)), (3, pt_r 13 t), (4, pt_i (pt_b (!eq_F fst w (rk_F n i (i + 1) (i + 2))))), (5, pt_i (nI (rk_F n i (i + 1) (i + 2)))), (6, pt_i (nI i))], [], pt_wA M 13 t (co_F fst w (rk_F n i (i + 1) (i + 2)))))
    (f := fun i => fs_F (n - (i + 1)) (i + 1) fun j => fs_F (n - (j + 1)) (j + 1) fun k => if rt_F fst w (rk_F n i j k) then some () else none)
    (Nat.zero_le n) ((gX0_offerRow13_0_1 t (pt_b mr) M).to (by rw [← hfe, show rk_F n 0 (0 + 1) (0 + 2) = 0 from rfl, co_zero, pt_wA_self]; rfl)) ((gX0_offerRow13_9_2 t (pt_b mr) (pt_b (!eq_F fst w (rk_F n n (n + 1) (n + 2)))) (nI (rk_F n n (n + 1) (n + 2))) (nI n) (pt_wA M 13 t (co_F fst w (rk_F n n (n + 1) (n + 2)))) ht hle).tr pt_dropA) fun i _ hi =>
    pt_nest (S := fun j => (24, [(0, pt_r 5 0), (1, pt_r 3 t), (2, pt_i (pt_b mr)), (3, pt_r 13 t), (4, pt_i (pt_b (!eq_F fst w (rk_F n i j (j + 1))))), (5, pt_i (nI (rk_F n i j (j + 1)))), (6, pt_i (nI i)), (7, pt_i (nI j))], [], pt_wA M 13 t (co_F fst w (rk_F n i j (j + 1)))))
      (by omega) ((gX0_offerRow13_9_1 t (pt_b mr) (pt_b (!eq_F fst w (rk_F n i (i + 1) (i + 2)))) (nI (rk_F n i (i + 1) (i + 2))) (nI i) (pt_wA M 13 t (co_F fst w (rk_F n i (i + 1) (i + 2)))) ht (hlt i hi)).to (by rw [nI_1])) ((gX0_offerRow13_24_2 t (pt_b mr) (pt_b (!eq_F fst w (rk_F n i n (n + 1)))) (nI (rk_F n i n (n + 1))) (nI i) (nI n) (pt_wA M 13 t (co_F fst w (rk_F n i n (n + 1)))) ht hle).to (by rw [nI_1, rk_i (n + 1) (Nat.le_refl _)])) fun j hj0 hj =>
    pt_nest (S := fun k => (39, [(0, pt_r 5 0), (1, pt_r 3 t), (2, pt_i (pt_b mr)), (3, pt_r 13 t), (4, pt_i (pt_b (!eq_F fst w (rk_F n i j k)))), (5, pt_i (nI (rk_F n i j k))), (6, pt_i (nI i)), (7, pt_i (nI j)), (8, pt_i (nI k))], [], pt_wA M 13 t (co_F fst w (rk_F n i j k))))
      (by omega) ((gX0_offerRow13_24_1 t (pt_b mr) (pt_b (!eq_F fst w (rk_F n i j (j + 1)))) (nI (rk_F n i j (j + 1))) (nI i) (nI j) (pt_wA M 13 t (co_F fst w (rk_F n i j (j + 1)))) ht (hlt j hj)).to (by rw [nI_1])) ((gX0_offerRow13_39_10 t (pt_b mr) (pt_b (!eq_F fst w (rk_F n i j n))) (nI (rk_F n i j n)) (nI i) (nI j) (nI n) (pt_wA M 13 t (co_F fst w (rk_F n i j n))) ht hle).to (by rw [nI_1, rk_j (by omega) hj])) fun k hk0 hk => by
      obtain ⟨hr1, hr2⟩ := rk_lt n hn i hi j hj k hk (by omega) (by omega)
      have hwp : w (rk_F n i j k) = if B (g i) (g j) (g k) != mr then 1 else 2 := by rw [← hw]; exact rw_at hn (by omega) (by omega) hk
      have e := of_step_13 (mr := mr) (w := w) ⟨ht, hn, hs, hB⟩ hg hfe hi hj hk (show rk_F n i j k < 120 by omega) hwp
      rw [← rk_k (n := n) (i := i) (show j < k by omega)] at e
      exact e
  have hall := of_nest (fst := fst) (w := w) (n := n) hn
  have hend : rk_F n n (n + 1) (n + 2) = rk_0 n n := rk_end n
  unfold of_M
  rw [hfe]
  cases hq : (List.range (rk_0 n n)).all fun p => !rt_F fst w p
  · rw [if_neg (by simp)]
    cases hf : (fs_F (n - 0) 0 fun i => fs_F (n - (i + 1)) (i + 1) fun j => fs_F (n - (j + 1)) (j + 1) fun k => if rt_F fst w (rk_F n i j k) then some () else none) with
    | some v => exact rX0_offerRow_117 (Nat.le_of_ble_eq_true rfl) rfl (K.1 v hf)
    | none => rw [hall.mp hf] at hq; cases hq
  · rw [if_pos rfl]
    refine rX0_offerRow_166 (Nat.le_of_ble_eq_true rfl) rfl ((K.2 (hall.mpr hq)).toM ?_)
    rw [hend]
