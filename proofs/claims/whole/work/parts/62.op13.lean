/-! THE MODEL: wasSwapped, isNext, maySwap -/
def wz_F (M : pt_M) (x y : Int32) : Int32 := if pt_A M 43 0 (pt_nt ((10 * x) + y)) < 0 then 0 else 1
theorem rX7_wasSwapped_19 {vs : List pt_V} {M M' : pt_M} {x : Int32} {L : List (Nat × pt_V)} (hn : narrow .boolean (.int x) = .int x) (hvs : (vs.map pt_w).sum ≤ 3) (hX : M'.2.2.2.2 = M.2.2.2.2) (h : pt_Go YX7_wasSwapped (0, pt_en 0 vs, [], M) (19, L, [pt_i x], M')) : pt_Does yX7_wasSwapped YX7_wasSwapped vs M (some (pt_i x)) M' := pt_does_go tX7_wasSwapped_ok nX7_wasSwapped hvs hX ⟨_, by with_unfolding_all rfl, rfl, _, rfl, hn⟩ h
set_option maxRecDepth 100000 in
theorem gX7_wasSwapped_0_1 (x1 : Int32) (x2 : Int32)  (M : pt_M) (h1 : pt_in ((10 * x1) + x2) 100) (h2 : ¬ (pt_A M 43 0 (pt_nt ((10 * x1) + x2))) < 0) :
    pt_Go YX7_wasSwapped (0, [(0, pt_r 7 0), (1, pt_i x1), (2, pt_i x2)], [], M)
      (19, [(0, pt_r 7 0), (1, pt_i x1), (2, pt_i x2)], [pt_i 1], M) :=
  pt_run_ok tX7_wasSwapped_ok 11 [.inl false] (P := (pt_in ((10 * x1) + x2) 100) ∧ (¬ (pt_A M 43 0 (pt_nt ((10 * x1) + x2))) < 0) ∧ True) (by with_unfolding_all rfl) ⟨h1, h2, trivial⟩
set_option maxRecDepth 100000 in
theorem gX7_wasSwapped_0_2 (x1 : Int32) (x2 : Int32)  (M : pt_M) (h1 : pt_in ((10 * x1) + x2) 100) (h2 : (pt_A M 43 0 (pt_nt ((10 * x1) + x2))) < 0) :
    pt_Go YX7_wasSwapped (0, [(0, pt_r 7 0), (1, pt_i x1), (2, pt_i x2)], [], M)
      (19, [(0, pt_r 7 0), (1, pt_i x1), (2, pt_i x2)], [pt_i 0], M) :=
  pt_run_ok tX7_wasSwapped_ok 10 [.inl true] (P := (pt_in ((10 * x1) + x2) 100) ∧ ((pt_A M 43 0 (pt_nt ((10 * x1) + x2))) < 0) ∧ True) (by with_unfolding_all rfl) ⟨h1, h2, trivial⟩
theorem dX7_wasSwapped {M : pt_M} {x y : Int32} (h : pt_in ((10 * x) + y) 100) : pt_Does yX7_wasSwapped YX7_wasSwapped [pt_r 7 0, pt_i x, pt_i y] M (some (pt_i (wz_F M x y))) M := by
  unfold wz_F
  by_cases c : pt_A M 43 0 (pt_nt ((10 * x) + y)) < 0
  · rw [if_pos c]
    exact rX7_wasSwapped_19 rfl (Nat.le_of_ble_eq_true rfl) rfl (gX7_wasSwapped_0_2 x y M h c)
  · rw [if_neg c]
    exact rX7_wasSwapped_19 rfl (Nat.le_of_ble_eq_true rfl) rfl (gX7_wasSwapped_0_1 x y M h c)
def sw2_F (W : Nat → Nat → Bool) (x y : Nat) : Bool := if x < y then W x y else W y x
/-- the model's 'when' tells the swapped pairs W -/
def wh_P (M : pt_M) (n : Nat) (W : Nat → Nat → Bool) : Prop := ∀ i j, i < j → j < n → wz_F M (nI i) (nI j) = pt_b (W i j)
theorem rX7_isNext_135 {vs : List pt_V} {M M' : pt_M} {x : Int32} {L : List (Nat × pt_V)} (hn : narrow .boolean (.int x) = .int x) (hvs : (vs.map pt_w).sum ≤ 15) (hX : M'.2.2.2.2 = M.2.2.2.2) (h : pt_Go YX7_isNext (0, pt_en 0 vs, [], M) (135, L, [pt_i x], M')) : pt_Does yX7_isNext YX7_isNext vs M (some (pt_i x)) M' := pt_does_go tX7_isNext_ok nX7_isNext hvs hX ⟨_, by with_unfolding_all rfl, rfl, _, rfl, hn⟩ h
theorem rX7_isNext_215 {vs : List pt_V} {M M' : pt_M} {x : Int32} {L : List (Nat × pt_V)} (hn : narrow .boolean (.int x) = .int x) (hvs : (vs.map pt_w).sum ≤ 15) (hX : M'.2.2.2.2 = M.2.2.2.2) (h : pt_Go YX7_isNext (0, pt_en 0 vs, [], M) (215, L, [pt_i x], M')) : pt_Does yX7_isNext YX7_isNext vs M (some (pt_i x)) M' := pt_does_go tX7_isNext_ok nX7_isNext hvs hX ⟨_, by with_unfolding_all rfl, rfl, _, rfl, hn⟩ h
set_option maxRecDepth 100000 in
theorem gX7_isNext_0_1 (x1 : Int32) (x2 : Int32) (x3 : Int32) (x4 : Int32) (n : Nat) (B : Nat → Nat → Nat → Bool) (M : pt_M) (h1 : ¬ x2 ≤ x4) :
    pt_Go YX7_isNext (0, [(0, pt_r 7 0), (1, pt_i x1), (2, pt_i x2), (3, pt_i x3), (4, pt_i x4)], [], M)
      (14, [(0, pt_r 7 0), (1, pt_i x1), (2, pt_i x2), (3, pt_i x3), (4, pt_i x4), (5, pt_i x4)], [], M) :=
  pt_run_ok tX7_isNext_ok 6 [.inl false] (P := (¬ x2 ≤ x4) ∧ True) (by with_unfolding_all rfl) ⟨h1, trivial⟩
set_option maxRecDepth 100000 in
theorem gX7_isNext_0_2 (x1 : Int32) (x2 : Int32) (x3 : Int32) (x4 : Int32) (n : Nat) (B : Nat → Nat → Nat → Bool) (M : pt_M) (h1 : x2 ≤ x4) :
    pt_Go YX7_isNext (0, [(0, pt_r 7 0), (1, pt_i x1), (2, pt_i x2), (3, pt_i x3), (4, pt_i x4)], [], M)
      (14, [(0, pt_r 7 0), (1, pt_i x1), (2, pt_i x2), (3, pt_i x3), (4, pt_i x4), (5, pt_i x2)], [], M) :=
  pt_run_ok tX7_isNext_ok 5 [.inl true] (P := (x2 ≤ x4) ∧ True) (by with_unfolding_all rfl) ⟨h1, trivial⟩
set_option maxRecDepth 100000 in
theorem gX7_isNext_14_1 (l1 : Int32) (l2 : Int32) (l3 : Int32) (l4 : Int32) (l5 : Int32) (n : Nat) (B : Nat → Nat → Nat → Bool) (M : pt_M) (h1 : ¬ l4 ≤ l3) :
    pt_Go YX7_isNext (14, [(0, pt_r 7 0), (1, pt_i l1), (2, pt_i l2), (3, pt_i l3), (4, pt_i l4), (5, pt_i l5)], [], M)
      (28, [(0, pt_r 7 0), (1, pt_i l1), (2, pt_i l2), (3, pt_i l3), (4, pt_i l4), (5, pt_i l5), (6, pt_i l4)], [], M) :=
  pt_run_ok tX7_isNext_ok 6 [.inl false] (P := (¬ l4 ≤ l3) ∧ True) (by with_unfolding_all rfl) ⟨h1, trivial⟩
set_option maxRecDepth 100000 in
theorem gX7_isNext_14_2 (l1 : Int32) (l2 : Int32) (l3 : Int32) (l4 : Int32) (l5 : Int32) (n : Nat) (B : Nat → Nat → Nat → Bool) (M : pt_M) (h1 : l4 ≤ l3) :
    pt_Go YX7_isNext (14, [(0, pt_r 7 0), (1, pt_i l1), (2, pt_i l2), (3, pt_i l3), (4, pt_i l4), (5, pt_i l5)], [], M)
      (28, [(0, pt_r 7 0), (1, pt_i l1), (2, pt_i l2), (3, pt_i l3), (4, pt_i l4), (5, pt_i l5), (6, pt_i l3)], [], M) :=
  pt_run_ok tX7_isNext_ok 5 [.inl true] (P := (l4 ≤ l3) ∧ True) (by with_unfolding_all rfl) ⟨h1, trivial⟩
set_option maxRecDepth 100000 in
theorem gX7_isNext_28_1 (l1 : Int32) (l2 : Int32) (l3 : Int32) (l4 : Int32) (l5 : Int32) (l6 : Int32) (n : Nat) (B : Nat → Nat → Nat → Bool) (M : pt_M) (h1 : pt_in ((10 * l5) + ((((l2 + l3) + l4) - l5) - l6)) 100) (h2 : pt_in ((10 * l5) + l6) 100) (h3 : pt_in ((10 * ((((l2 + l3) + l4) - l5) - l6)) + l6) 100) (h4 : tq_P M l1 l5 ((((l2 + l3) + l4) - l5) - l6) l6 n B) :
    pt_Go YX7_isNext (28, [(0, pt_r 7 0), (1, pt_i l1), (2, pt_i l2), (3, pt_i l3), (4, pt_i l4), (5, pt_i l5), (6, pt_i l6)], [], M)
      (85, [(2, pt_i l2), (3, pt_i l3), (5, pt_i l5), (6, pt_i l6), (8, pt_i (wz_F M l5 ((((l2 + l3) + l4) - l5) - l6))), (9, pt_i (wz_F M l5 l6)), (10, pt_i (wz_F M ((((l2 + l3) + l4) - l5) - l6) l6)), (11, pt_i (tl_I B l5 ((((l2 + l3) + l4) - l5) - l6) l6))], [], M) :=
  (pt_run_ok tX7_isNext_ok 32 [.inr (3, some (pt_i (wz_F M l5 ((((l2 + l3) + l4) - l5) - l6))), M), .inr (3, some (pt_i (wz_F M l5 l6)), M), .inr (3, some (pt_i (wz_F M ((((l2 + l3) + l4) - l5) - l6) l6)), M), .inr (5, some (pt_i (tl_I B l5 ((((l2 + l3) + l4) - l5) - l6) l6)), M)] (P := pt_Cal YX7_isNext (.invokevirtual 183) [pt_r 7 0, pt_i l5, pt_i ((((l2 + l3) + l4) - l5) - l6)] M (some (pt_i (wz_F M l5 ((((l2 + l3) + l4) - l5) - l6)))) M ∧ pt_Cal YX7_isNext (.invokevirtual 183) [pt_r 7 0, pt_i l5, pt_i l6] M (some (pt_i (wz_F M l5 l6))) M ∧ pt_Cal YX7_isNext (.invokevirtual 183) [pt_r 7 0, pt_i ((((l2 + l3) + l4) - l5) - l6), pt_i l6] M (some (pt_i (wz_F M ((((l2 + l3) + l4) - l5) - l6) l6))) M ∧ pt_Cal YX7_isNext (.invokevirtual 118) [pt_r 7 0, pt_i l1, pt_i l5, pt_i ((((l2 + l3) + l4) - l5) - l6), pt_i l6] M (some (pt_i (tl_I B l5 ((((l2 + l3) + l4) - l5) - l6) l6))) M ∧ True) (by with_unfolding_all rfl) ⟨(pt_callV (i := 0) kX7_isNext_183 mX7_wasSwapped rfl (by decide) rfl (dX7_wasSwapped h1)), (pt_callV (i := 0) kX7_isNext_183 mX7_wasSwapped rfl (by decide) rfl (dX7_wasSwapped h2)), (pt_callV (i := 0) kX7_isNext_183 mX7_wasSwapped rfl (by decide) rfl (dX7_wasSwapped h3)), (pt_callV (i := 0) kX7_isNext_118 mX7_left rfl (by decide) rfl (dX7_left_t h4)), trivial⟩ : pt_Go YX7_isNext _ (85, [(0, pt_r 7 0), (1, pt_i l1), (2, pt_i l2), (3, pt_i l3), (4, pt_i l4), (5, pt_i l5), (6, pt_i l6), (7, pt_i ((((l2 + l3) + l4) - l5) - l6)), (8, pt_i (wz_F M l5 ((((l2 + l3) + l4) - l5) - l6))), (9, pt_i (wz_F M l5 l6)), (10, pt_i (wz_F M ((((l2 + l3) + l4) - l5) - l6) l6)), (11, pt_i (tl_I B l5 ((((l2 + l3) + l4) - l5) - l6) l6))], [], M)).tr (pt_pick [2, 3, 5, 6, 8, 9, 10, 11] (by with_unfolding_all rfl))
set_option maxRecDepth 100000 in
theorem gX7_isNext_85_1 (l2 : Int32) (l3 : Int32) (l5 : Int32) (l6 : Int32) (l8 : Int32) (l9 : Int32) (l10 : Int32) (l11 : Int32) (n : Nat) (B : Nat → Nat → Nat → Bool) (M : pt_M) (h1 : l2 = l5) (h2 : l3 = l6) (h3 : ¬ l11 = 0) (h4 : ¬ l8 = 0) (h5 : l10 = 0) :
    pt_Go YX7_isNext (85, [(2, pt_i l2), (3, pt_i l3), (5, pt_i l5), (6, pt_i l6), (8, pt_i l8), (9, pt_i l9), (10, pt_i l10), (11, pt_i l11)], [], M)
      (135, [(2, pt_i l2), (3, pt_i l3), (5, pt_i l5), (6, pt_i l6), (8, pt_i l8), (9, pt_i l9), (10, pt_i l10), (11, pt_i l11)], [pt_i 1], M) :=
  pt_run_ok tX7_isNext_ok 14 [.inl false, .inl false, .inl false, .inl false, .inl false] (P := (l2 = l5) ∧ (l3 = l6) ∧ (¬ l11 = 0) ∧ (¬ l8 = 0) ∧ (l10 = 0) ∧ True) (by with_unfolding_all rfl) ⟨h1, h2, h3, h4, h5, trivial⟩
set_option maxRecDepth 100000 in
theorem gX7_isNext_85_2 (l2 : Int32) (l3 : Int32) (l5 : Int32) (l6 : Int32) (l8 : Int32) (l9 : Int32) (l10 : Int32) (l11 : Int32) (n : Nat) (B : Nat → Nat → Nat → Bool) (M : pt_M) (h1 : l2 = l5) (h2 : l3 = l6) (h3 : ¬ l11 = 0) (h4 : ¬ l8 = 0) (h5 : ¬ l10 = 0) :
    pt_Go YX7_isNext (85, [(2, pt_i l2), (3, pt_i l3), (5, pt_i l5), (6, pt_i l6), (8, pt_i l8), (9, pt_i l9), (10, pt_i l10), (11, pt_i l11)], [], M)
      (135, [(2, pt_i l2), (3, pt_i l3), (5, pt_i l5), (6, pt_i l6), (8, pt_i l8), (9, pt_i l9), (10, pt_i l10), (11, pt_i l11)], [pt_i 0], M) :=
  pt_run_ok tX7_isNext_ok 14 [.inl false, .inl false, .inl false, .inl false, .inl true] (P := (l2 = l5) ∧ (l3 = l6) ∧ (¬ l11 = 0) ∧ (¬ l8 = 0) ∧ (¬ l10 = 0) ∧ True) (by with_unfolding_all rfl) ⟨h1, h2, h3, h4, h5, trivial⟩
set_option maxRecDepth 100000 in
theorem gX7_isNext_85_3 (l2 : Int32) (l3 : Int32) (l5 : Int32) (l6 : Int32) (l8 : Int32) (l9 : Int32) (l10 : Int32) (l11 : Int32) (n : Nat) (B : Nat → Nat → Nat → Bool) (M : pt_M) (h1 : l2 = l5) (h2 : l3 = l6) (h3 : ¬ l11 = 0) (h4 : l8 = 0) :
    pt_Go YX7_isNext (85, [(2, pt_i l2), (3, pt_i l3), (5, pt_i l5), (6, pt_i l6), (8, pt_i l8), (9, pt_i l9), (10, pt_i l10), (11, pt_i l11)], [], M)
      (135, [(2, pt_i l2), (3, pt_i l3), (5, pt_i l5), (6, pt_i l6), (8, pt_i l8), (9, pt_i l9), (10, pt_i l10), (11, pt_i l11)], [pt_i 0], M) :=
  pt_run_ok tX7_isNext_ok 12 [.inl false, .inl false, .inl false, .inl true] (P := (l2 = l5) ∧ (l3 = l6) ∧ (¬ l11 = 0) ∧ (l8 = 0) ∧ True) (by with_unfolding_all rfl) ⟨h1, h2, h3, h4, trivial⟩
set_option maxRecDepth 100000 in
theorem gX7_isNext_85_4 (l2 : Int32) (l3 : Int32) (l5 : Int32) (l6 : Int32) (l8 : Int32) (l9 : Int32) (l10 : Int32) (l11 : Int32) (n : Nat) (B : Nat → Nat → Nat → Bool) (M : pt_M) (h1 : l2 = l5) (h2 : l3 = l6) (h3 : l11 = 0) (h4 : ¬ l10 = 0) (h5 : l8 = 0) :
    pt_Go YX7_isNext (85, [(2, pt_i l2), (3, pt_i l3), (5, pt_i l5), (6, pt_i l6), (8, pt_i l8), (9, pt_i l9), (10, pt_i l10), (11, pt_i l11)], [], M)
      (135, [(2, pt_i l2), (3, pt_i l3), (5, pt_i l5), (6, pt_i l6), (8, pt_i l8), (9, pt_i l9), (10, pt_i l10), (11, pt_i l11)], [pt_i 1], M) :=
  pt_run_ok tX7_isNext_ok 14 [.inl false, .inl false, .inl true, .inl false, .inl false] (P := (l2 = l5) ∧ (l3 = l6) ∧ (l11 = 0) ∧ (¬ l10 = 0) ∧ (l8 = 0) ∧ True) (by with_unfolding_all rfl) ⟨h1, h2, h3, h4, h5, trivial⟩
set_option maxRecDepth 100000 in
theorem gX7_isNext_85_5 (l2 : Int32) (l3 : Int32) (l5 : Int32) (l6 : Int32) (l8 : Int32) (l9 : Int32) (l10 : Int32) (l11 : Int32) (n : Nat) (B : Nat → Nat → Nat → Bool) (M : pt_M) (h1 : l2 = l5) (h2 : l3 = l6) (h3 : l11 = 0) (h4 : ¬ l10 = 0) (h5 : ¬ l8 = 0) :
    pt_Go YX7_isNext (85, [(2, pt_i l2), (3, pt_i l3), (5, pt_i l5), (6, pt_i l6), (8, pt_i l8), (9, pt_i l9), (10, pt_i l10), (11, pt_i l11)], [], M)
      (135, [(2, pt_i l2), (3, pt_i l3), (5, pt_i l5), (6, pt_i l6), (8, pt_i l8), (9, pt_i l9), (10, pt_i l10), (11, pt_i l11)], [pt_i 0], M) :=
  pt_run_ok tX7_isNext_ok 13 [.inl false, .inl false, .inl true, .inl false, .inl true] (P := (l2 = l5) ∧ (l3 = l6) ∧ (l11 = 0) ∧ (¬ l10 = 0) ∧ (¬ l8 = 0) ∧ True) (by with_unfolding_all rfl) ⟨h1, h2, h3, h4, h5, trivial⟩
set_option maxRecDepth 100000 in
theorem gX7_isNext_85_6 (l2 : Int32) (l3 : Int32) (l5 : Int32) (l6 : Int32) (l8 : Int32) (l9 : Int32) (l10 : Int32) (l11 : Int32) (n : Nat) (B : Nat → Nat → Nat → Bool) (M : pt_M) (h1 : l2 = l5) (h2 : l3 = l6) (h3 : l11 = 0) (h4 : l10 = 0) :
    pt_Go YX7_isNext (85, [(2, pt_i l2), (3, pt_i l3), (5, pt_i l5), (6, pt_i l6), (8, pt_i l8), (9, pt_i l9), (10, pt_i l10), (11, pt_i l11)], [], M)
      (135, [(2, pt_i l2), (3, pt_i l3), (5, pt_i l5), (6, pt_i l6), (8, pt_i l8), (9, pt_i l9), (10, pt_i l10), (11, pt_i l11)], [pt_i 0], M) :=
  pt_run_ok tX7_isNext_ok 11 [.inl false, .inl false, .inl true, .inl true] (P := (l2 = l5) ∧ (l3 = l6) ∧ (l11 = 0) ∧ (l10 = 0) ∧ True) (by with_unfolding_all rfl) ⟨h1, h2, h3, h4, trivial⟩
set_option maxRecDepth 100000 in
theorem gX7_isNext_85_7 (l2 : Int32) (l3 : Int32) (l5 : Int32) (l6 : Int32) (l8 : Int32) (l9 : Int32) (l10 : Int32) (l11 : Int32) (n : Nat) (B : Nat → Nat → Nat → Bool) (M : pt_M) (h1 : l2 = l5) (h2 : ¬ l3 = l6) (h3 : 1 = l11) (h4 : l9 = 0) (h5 : l10 = 0) :
    pt_Go YX7_isNext (85, [(2, pt_i l2), (3, pt_i l3), (5, pt_i l5), (6, pt_i l6), (8, pt_i l8), (9, pt_i l9), (10, pt_i l10), (11, pt_i l11)], [], M)
      (215, [(2, pt_i l2), (3, pt_i l3), (5, pt_i l5), (6, pt_i l6), (8, pt_i l8), (9, pt_i l9), (10, pt_i l10), (11, pt_i l11), (12, pt_i 1), (13, pt_i 1), (14, pt_i l10)], [pt_i 1], M) :=
  pt_run_ok tX7_isNext_ok 31 [.inl false, .inl true, .inl false, .inl false, .inl false, .inl false, .inl false, .inl false] (P := (l2 = l5) ∧ (¬ l3 = l6) ∧ (l2 = l5) ∧ (1 = l11) ∧ (¬ (1 : Int32) = (0 : Int32)) ∧ (¬ (1 : Int32) = (0 : Int32)) ∧ (l9 = 0) ∧ (l10 = 0) ∧ True) (by with_unfolding_all rfl) ⟨h1, h2, h1, h3, (by decide), (by decide), h4, h5, trivial⟩
set_option maxRecDepth 100000 in
theorem gX7_isNext_85_8 (l2 : Int32) (l3 : Int32) (l5 : Int32) (l6 : Int32) (l8 : Int32) (l9 : Int32) (l10 : Int32) (l11 : Int32) (n : Nat) (B : Nat → Nat → Nat → Bool) (M : pt_M) (h1 : l2 = l5) (h2 : ¬ l3 = l6) (h3 : 1 = l11) (h4 : l9 = 0) (h5 : ¬ l10 = 0) :
    pt_Go YX7_isNext (85, [(2, pt_i l2), (3, pt_i l3), (5, pt_i l5), (6, pt_i l6), (8, pt_i l8), (9, pt_i l9), (10, pt_i l10), (11, pt_i l11)], [], M)
      (215, [(2, pt_i l2), (3, pt_i l3), (5, pt_i l5), (6, pt_i l6), (8, pt_i l8), (9, pt_i l9), (10, pt_i l10), (11, pt_i l11), (12, pt_i 1), (13, pt_i 1), (14, pt_i l10)], [pt_i 0], M) :=
  pt_run_ok tX7_isNext_ok 31 [.inl false, .inl true, .inl false, .inl false, .inl false, .inl false, .inl false, .inl true] (P := (l2 = l5) ∧ (¬ l3 = l6) ∧ (l2 = l5) ∧ (1 = l11) ∧ (¬ (1 : Int32) = (0 : Int32)) ∧ (¬ (1 : Int32) = (0 : Int32)) ∧ (l9 = 0) ∧ (¬ l10 = 0) ∧ True) (by with_unfolding_all rfl) ⟨h1, h2, h1, h3, (by decide), (by decide), h4, h5, trivial⟩
set_option maxRecDepth 100000 in
theorem gX7_isNext_85_9 (l2 : Int32) (l3 : Int32) (l5 : Int32) (l6 : Int32) (l8 : Int32) (l9 : Int32) (l10 : Int32) (l11 : Int32) (n : Nat) (B : Nat → Nat → Nat → Bool) (M : pt_M) (h1 : l2 = l5) (h2 : ¬ l3 = l6) (h3 : 1 = l11) (h4 : ¬ l9 = 0) :
    pt_Go YX7_isNext (85, [(2, pt_i l2), (3, pt_i l3), (5, pt_i l5), (6, pt_i l6), (8, pt_i l8), (9, pt_i l9), (10, pt_i l10), (11, pt_i l11)], [], M)
      (215, [(2, pt_i l2), (3, pt_i l3), (5, pt_i l5), (6, pt_i l6), (8, pt_i l8), (9, pt_i l9), (10, pt_i l10), (11, pt_i l11), (12, pt_i 1), (13, pt_i 1), (14, pt_i l10)], [pt_i 0], M) :=
  pt_run_ok tX7_isNext_ok 29 [.inl false, .inl true, .inl false, .inl false, .inl false, .inl false, .inl true] (P := (l2 = l5) ∧ (¬ l3 = l6) ∧ (l2 = l5) ∧ (1 = l11) ∧ (¬ (1 : Int32) = (0 : Int32)) ∧ (¬ (1 : Int32) = (0 : Int32)) ∧ (¬ l9 = 0) ∧ True) (by with_unfolding_all rfl) ⟨h1, h2, h1, h3, (by decide), (by decide), h4, trivial⟩
set_option maxRecDepth 100000 in
theorem gX7_isNext_85_10 (l2 : Int32) (l3 : Int32) (l5 : Int32) (l6 : Int32) (l8 : Int32) (l9 : Int32) (l10 : Int32) (l11 : Int32) (n : Nat) (B : Nat → Nat → Nat → Bool) (M : pt_M) (h1 : l2 = l5) (h2 : ¬ l3 = l6) (h3 : ¬ 1 = l11) (h4 : ¬ l9 = 0) (h5 : ¬ l10 = 0) :
    pt_Go YX7_isNext (85, [(2, pt_i l2), (3, pt_i l3), (5, pt_i l5), (6, pt_i l6), (8, pt_i l8), (9, pt_i l9), (10, pt_i l10), (11, pt_i l11)], [], M)
      (215, [(2, pt_i l2), (3, pt_i l3), (5, pt_i l5), (6, pt_i l6), (8, pt_i l8), (9, pt_i l9), (10, pt_i l10), (11, pt_i l11), (12, pt_i 1), (13, pt_i 0), (14, pt_i l10)], [pt_i 1], M) :=
  pt_run_ok tX7_isNext_ok 30 [.inl false, .inl true, .inl false, .inl true, .inl false, .inl true, .inl false, .inl false] (P := (l2 = l5) ∧ (¬ l3 = l6) ∧ (l2 = l5) ∧ (¬ 1 = l11) ∧ (¬ (1 : Int32) = (0 : Int32)) ∧ ((0 : Int32) = (0 : Int32)) ∧ (¬ l9 = 0) ∧ (¬ l10 = 0) ∧ True) (by with_unfolding_all rfl) ⟨h1, h2, h1, h3, (by decide), (by decide), h4, h5, trivial⟩
set_option maxRecDepth 100000 in
theorem gX7_isNext_85_11 (l2 : Int32) (l3 : Int32) (l5 : Int32) (l6 : Int32) (l8 : Int32) (l9 : Int32) (l10 : Int32) (l11 : Int32) (n : Nat) (B : Nat → Nat → Nat → Bool) (M : pt_M) (h1 : l2 = l5) (h2 : ¬ l3 = l6) (h3 : ¬ 1 = l11) (h4 : ¬ l9 = 0) (h5 : l10 = 0) :
    pt_Go YX7_isNext (85, [(2, pt_i l2), (3, pt_i l3), (5, pt_i l5), (6, pt_i l6), (8, pt_i l8), (9, pt_i l9), (10, pt_i l10), (11, pt_i l11)], [], M)
      (215, [(2, pt_i l2), (3, pt_i l3), (5, pt_i l5), (6, pt_i l6), (8, pt_i l8), (9, pt_i l9), (10, pt_i l10), (11, pt_i l11), (12, pt_i 1), (13, pt_i 0), (14, pt_i l10)], [pt_i 0], M) :=
  pt_run_ok tX7_isNext_ok 29 [.inl false, .inl true, .inl false, .inl true, .inl false, .inl true, .inl false, .inl true] (P := (l2 = l5) ∧ (¬ l3 = l6) ∧ (l2 = l5) ∧ (¬ 1 = l11) ∧ (¬ (1 : Int32) = (0 : Int32)) ∧ ((0 : Int32) = (0 : Int32)) ∧ (¬ l9 = 0) ∧ (l10 = 0) ∧ True) (by with_unfolding_all rfl) ⟨h1, h2, h1, h3, (by decide), (by decide), h4, h5, trivial⟩
set_option maxRecDepth 100000 in
theorem gX7_isNext_85_12 (l2 : Int32) (l3 : Int32) (l5 : Int32) (l6 : Int32) (l8 : Int32) (l9 : Int32) (l10 : Int32) (l11 : Int32) (n : Nat) (B : Nat → Nat → Nat → Bool) (M : pt_M) (h1 : l2 = l5) (h2 : ¬ l3 = l6) (h3 : ¬ 1 = l11) (h4 : l9 = 0) :
    pt_Go YX7_isNext (85, [(2, pt_i l2), (3, pt_i l3), (5, pt_i l5), (6, pt_i l6), (8, pt_i l8), (9, pt_i l9), (10, pt_i l10), (11, pt_i l11)], [], M)
      (215, [(2, pt_i l2), (3, pt_i l3), (5, pt_i l5), (6, pt_i l6), (8, pt_i l8), (9, pt_i l9), (10, pt_i l10), (11, pt_i l11), (12, pt_i 1), (13, pt_i 0), (14, pt_i l10)], [pt_i 0], M) :=
  pt_run_ok tX7_isNext_ok 27 [.inl false, .inl true, .inl false, .inl true, .inl false, .inl true, .inl true] (P := (l2 = l5) ∧ (¬ l3 = l6) ∧ (l2 = l5) ∧ (¬ 1 = l11) ∧ (¬ (1 : Int32) = (0 : Int32)) ∧ ((0 : Int32) = (0 : Int32)) ∧ (l9 = 0) ∧ True) (by with_unfolding_all rfl) ⟨h1, h2, h1, h3, (by decide), (by decide), h4, trivial⟩
set_option maxRecDepth 100000 in
theorem gX7_isNext_85_13 (l2 : Int32) (l3 : Int32) (l5 : Int32) (l6 : Int32) (l8 : Int32) (l9 : Int32) (l10 : Int32) (l11 : Int32) (n : Nat) (B : Nat → Nat → Nat → Bool) (M : pt_M) (h1 : ¬ l2 = l5) (h2 : 0 = l11) (h3 : l9 = 0) (h4 : l8 = 0) :
    pt_Go YX7_isNext (85, [(2, pt_i l2), (3, pt_i l3), (5, pt_i l5), (6, pt_i l6), (8, pt_i l8), (9, pt_i l9), (10, pt_i l10), (11, pt_i l11)], [], M)
      (215, [(2, pt_i l2), (3, pt_i l3), (5, pt_i l5), (6, pt_i l6), (8, pt_i l8), (9, pt_i l9), (10, pt_i l10), (11, pt_i l11), (12, pt_i 0), (13, pt_i 1), (14, pt_i l8)], [pt_i 1], M) :=
  pt_run_ok tX7_isNext_ok 26 [.inl true, .inl true, .inl false, .inl true, .inl false, .inl false, .inl false] (P := (¬ l2 = l5) ∧ (¬ l2 = l5) ∧ (0 = l11) ∧ ((0 : Int32) = (0 : Int32)) ∧ (¬ (1 : Int32) = (0 : Int32)) ∧ (l9 = 0) ∧ (l8 = 0) ∧ True) (by with_unfolding_all rfl) ⟨h1, h1, h2, (by decide), (by decide), h3, h4, trivial⟩
set_option maxRecDepth 100000 in
theorem gX7_isNext_85_14 (l2 : Int32) (l3 : Int32) (l5 : Int32) (l6 : Int32) (l8 : Int32) (l9 : Int32) (l10 : Int32) (l11 : Int32) (n : Nat) (B : Nat → Nat → Nat → Bool) (M : pt_M) (h1 : ¬ l2 = l5) (h2 : 0 = l11) (h3 : l9 = 0) (h4 : ¬ l8 = 0) :
    pt_Go YX7_isNext (85, [(2, pt_i l2), (3, pt_i l3), (5, pt_i l5), (6, pt_i l6), (8, pt_i l8), (9, pt_i l9), (10, pt_i l10), (11, pt_i l11)], [], M)
      (215, [(2, pt_i l2), (3, pt_i l3), (5, pt_i l5), (6, pt_i l6), (8, pt_i l8), (9, pt_i l9), (10, pt_i l10), (11, pt_i l11), (12, pt_i 0), (13, pt_i 1), (14, pt_i l8)], [pt_i 0], M) :=
  pt_run_ok tX7_isNext_ok 26 [.inl true, .inl true, .inl false, .inl true, .inl false, .inl false, .inl true] (P := (¬ l2 = l5) ∧ (¬ l2 = l5) ∧ (0 = l11) ∧ ((0 : Int32) = (0 : Int32)) ∧ (¬ (1 : Int32) = (0 : Int32)) ∧ (l9 = 0) ∧ (¬ l8 = 0) ∧ True) (by with_unfolding_all rfl) ⟨h1, h1, h2, (by decide), (by decide), h3, h4, trivial⟩
set_option maxRecDepth 100000 in
theorem gX7_isNext_85_15 (l2 : Int32) (l3 : Int32) (l5 : Int32) (l6 : Int32) (l8 : Int32) (l9 : Int32) (l10 : Int32) (l11 : Int32) (n : Nat) (B : Nat → Nat → Nat → Bool) (M : pt_M) (h1 : ¬ l2 = l5) (h2 : 0 = l11) (h3 : ¬ l9 = 0) :
    pt_Go YX7_isNext (85, [(2, pt_i l2), (3, pt_i l3), (5, pt_i l5), (6, pt_i l6), (8, pt_i l8), (9, pt_i l9), (10, pt_i l10), (11, pt_i l11)], [], M)
      (215, [(2, pt_i l2), (3, pt_i l3), (5, pt_i l5), (6, pt_i l6), (8, pt_i l8), (9, pt_i l9), (10, pt_i l10), (11, pt_i l11), (12, pt_i 0), (13, pt_i 1), (14, pt_i l8)], [pt_i 0], M) :=
  pt_run_ok tX7_isNext_ok 24 [.inl true, .inl true, .inl false, .inl true, .inl false, .inl true] (P := (¬ l2 = l5) ∧ (¬ l2 = l5) ∧ (0 = l11) ∧ ((0 : Int32) = (0 : Int32)) ∧ (¬ (1 : Int32) = (0 : Int32)) ∧ (¬ l9 = 0) ∧ True) (by with_unfolding_all rfl) ⟨h1, h1, h2, (by decide), (by decide), h3, trivial⟩
set_option maxRecDepth 100000 in
theorem gX7_isNext_85_16 (l2 : Int32) (l3 : Int32) (l5 : Int32) (l6 : Int32) (l8 : Int32) (l9 : Int32) (l10 : Int32) (l11 : Int32) (n : Nat) (B : Nat → Nat → Nat → Bool) (M : pt_M) (h1 : ¬ l2 = l5) (h2 : ¬ 0 = l11) (h3 : ¬ l9 = 0) (h4 : ¬ l8 = 0) :
    pt_Go YX7_isNext (85, [(2, pt_i l2), (3, pt_i l3), (5, pt_i l5), (6, pt_i l6), (8, pt_i l8), (9, pt_i l9), (10, pt_i l10), (11, pt_i l11)], [], M)
      (215, [(2, pt_i l2), (3, pt_i l3), (5, pt_i l5), (6, pt_i l6), (8, pt_i l8), (9, pt_i l9), (10, pt_i l10), (11, pt_i l11), (12, pt_i 0), (13, pt_i 0), (14, pt_i l8)], [pt_i 1], M) :=
  pt_run_ok tX7_isNext_ok 25 [.inl true, .inl true, .inl true, .inl true, .inl true, .inl false, .inl false] (P := (¬ l2 = l5) ∧ (¬ l2 = l5) ∧ (¬ 0 = l11) ∧ ((0 : Int32) = (0 : Int32)) ∧ ((0 : Int32) = (0 : Int32)) ∧ (¬ l9 = 0) ∧ (¬ l8 = 0) ∧ True) (by with_unfolding_all rfl) ⟨h1, h1, h2, (by decide), (by decide), h3, h4, trivial⟩
set_option maxRecDepth 100000 in
theorem gX7_isNext_85_17 (l2 : Int32) (l3 : Int32) (l5 : Int32) (l6 : Int32) (l8 : Int32) (l9 : Int32) (l10 : Int32) (l11 : Int32) (n : Nat) (B : Nat → Nat → Nat → Bool) (M : pt_M) (h1 : ¬ l2 = l5) (h2 : ¬ 0 = l11) (h3 : ¬ l9 = 0) (h4 : l8 = 0) :
    pt_Go YX7_isNext (85, [(2, pt_i l2), (3, pt_i l3), (5, pt_i l5), (6, pt_i l6), (8, pt_i l8), (9, pt_i l9), (10, pt_i l10), (11, pt_i l11)], [], M)
      (215, [(2, pt_i l2), (3, pt_i l3), (5, pt_i l5), (6, pt_i l6), (8, pt_i l8), (9, pt_i l9), (10, pt_i l10), (11, pt_i l11), (12, pt_i 0), (13, pt_i 0), (14, pt_i l8)], [pt_i 0], M) :=
  pt_run_ok tX7_isNext_ok 24 [.inl true, .inl true, .inl true, .inl true, .inl true, .inl false, .inl true] (P := (¬ l2 = l5) ∧ (¬ l2 = l5) ∧ (¬ 0 = l11) ∧ ((0 : Int32) = (0 : Int32)) ∧ ((0 : Int32) = (0 : Int32)) ∧ (¬ l9 = 0) ∧ (l8 = 0) ∧ True) (by with_unfolding_all rfl) ⟨h1, h1, h2, (by decide), (by decide), h3, h4, trivial⟩
set_option maxRecDepth 100000 in
theorem gX7_isNext_85_18 (l2 : Int32) (l3 : Int32) (l5 : Int32) (l6 : Int32) (l8 : Int32) (l9 : Int32) (l10 : Int32) (l11 : Int32) (n : Nat) (B : Nat → Nat → Nat → Bool) (M : pt_M) (h1 : ¬ l2 = l5) (h2 : ¬ 0 = l11) (h3 : l9 = 0) :
    pt_Go YX7_isNext (85, [(2, pt_i l2), (3, pt_i l3), (5, pt_i l5), (6, pt_i l6), (8, pt_i l8), (9, pt_i l9), (10, pt_i l10), (11, pt_i l11)], [], M)
      (215, [(2, pt_i l2), (3, pt_i l3), (5, pt_i l5), (6, pt_i l6), (8, pt_i l8), (9, pt_i l9), (10, pt_i l10), (11, pt_i l11), (12, pt_i 0), (13, pt_i 0), (14, pt_i l8)], [pt_i 0], M) :=
  pt_run_ok tX7_isNext_ok 22 [.inl true, .inl true, .inl true, .inl true, .inl true, .inl true] (P := (¬ l2 = l5) ∧ (¬ l2 = l5) ∧ (¬ 0 = l11) ∧ ((0 : Int32) = (0 : Int32)) ∧ ((0 : Int32) = (0 : Int32)) ∧ (l9 = 0) ∧ True) (by with_unfolding_all rfl) ⟨h1, h1, h2, (by decide), (by decide), h3, trivial⟩
theorem in_m {a b : Int32} {p8 p9 p10 L : Bool} {n : Nat} {B : Nat → Nat → Nat → Bool} {M : pt_M} : pt_Go YX7_isNext (85, [(2, pt_i a), (3, pt_i b), (5, pt_i a), (6, pt_i b), (8, pt_i (pt_b p8)), (9, pt_i (pt_b p9)), (10, pt_i (pt_b p10)), (11, pt_i (pt_b L))], [], M) (135, [], [pt_i (pt_b (if L then p8 && !p10 else p10 && !p8))], M) := by
  cases L <;> cases p8 <;> cases p10
  · exact (gX7_isNext_85_6 a b a b _ _ _ _ n B M rfl rfl rfl rfl).tr pt_dropA
  · exact (gX7_isNext_85_4 a b a b _ _ _ _ n B M rfl rfl rfl (by decide) rfl).tr pt_dropA
  · exact (gX7_isNext_85_6 a b a b _ _ _ _ n B M rfl rfl rfl rfl).tr pt_dropA
  · exact (gX7_isNext_85_5 a b a b _ _ _ _ n B M rfl rfl rfl (by decide) (by decide)).tr pt_dropA
  · exact (gX7_isNext_85_3 a b a b _ _ _ _ n B M rfl rfl (by decide) rfl).tr pt_dropA
  · exact (gX7_isNext_85_3 a b a b _ _ _ _ n B M rfl rfl (by decide) rfl).tr pt_dropA
  · exact (gX7_isNext_85_1 a b a b _ _ _ _ n B M rfl rfl (by decide) (by decide) rfl).tr pt_dropA
  · exact (gX7_isNext_85_2 a b a b _ _ _ _ n B M rfl rfl (by decide) (by decide) (by decide)).tr pt_dropA
theorem in_l {a b k : Int32} {p8 p9 p10 L : Bool} {n : Nat} {B : Nat → Nat → Nat → Bool} {M : pt_M} (h : ¬ b = k) : pt_Go YX7_isNext (85, [(2, pt_i a), (3, pt_i b), (5, pt_i a), (6, pt_i k), (8, pt_i (pt_b p8)), (9, pt_i (pt_b p9)), (10, pt_i (pt_b p10)), (11, pt_i (pt_b L))], [], M) (215, [], [pt_i (pt_b (if L then !p9 && !p10 else p9 && p10))], M) := by
  cases L <;> cases p9 <;> cases p10
  · exact (gX7_isNext_85_12 a b a k _ _ _ _ n B M rfl h (by decide) rfl).tr pt_dropA
  · exact (gX7_isNext_85_12 a b a k _ _ _ _ n B M rfl h (by decide) rfl).tr pt_dropA
  · exact (gX7_isNext_85_11 a b a k _ _ _ _ n B M rfl h (by decide) (by decide) rfl).tr pt_dropA
  · exact (gX7_isNext_85_10 a b a k _ _ _ _ n B M rfl h (by decide) (by decide) (by decide)).tr pt_dropA
  · exact (gX7_isNext_85_7 a b a k _ _ _ _ n B M rfl h rfl rfl rfl).tr pt_dropA
  · exact (gX7_isNext_85_8 a b a k _ _ _ _ n B M rfl h rfl rfl (by decide)).tr pt_dropA
  · exact (gX7_isNext_85_9 a b a k _ _ _ _ n B M rfl h rfl (by decide)).tr pt_dropA
  · exact (gX7_isNext_85_9 a b a k _ _ _ _ n B M rfl h rfl (by decide)).tr pt_dropA
theorem in_u {a b i k : Int32} {p8 p9 p10 L : Bool} {n : Nat} {B : Nat → Nat → Nat → Bool} {M : pt_M} (h : ¬ a = i) : pt_Go YX7_isNext (85, [(2, pt_i a), (3, pt_i b), (5, pt_i i), (6, pt_i k), (8, pt_i (pt_b p8)), (9, pt_i (pt_b p9)), (10, pt_i (pt_b p10)), (11, pt_i (pt_b L))], [], M) (215, [], [pt_i (pt_b (if L then p9 && p8 else !p9 && !p8))], M) := by
  cases L <;> cases p9 <;> cases p8
  · exact (gX7_isNext_85_13 a b i k _ _ _ _ n B M h rfl rfl rfl).tr pt_dropA
  · exact (gX7_isNext_85_14 a b i k _ _ _ _ n B M h rfl rfl (by decide)).tr pt_dropA
  · exact (gX7_isNext_85_15 a b i k _ _ _ _ n B M h rfl (by decide)).tr pt_dropA
  · exact (gX7_isNext_85_15 a b i k _ _ _ _ n B M h rfl (by decide)).tr pt_dropA
  · exact (gX7_isNext_85_18 a b i k _ _ _ _ n B M h (by decide) rfl).tr pt_dropA
  · exact (gX7_isNext_85_18 a b i k _ _ _ _ n B M h (by decide) rfl).tr pt_dropA
  · exact (gX7_isNext_85_17 a b i k _ _ _ _ n B M h (by decide) (by decide) rfl).tr pt_dropA
  · exact (gX7_isNext_85_16 a b i k _ _ _ _ n B M h (by decide) (by decide) (by decide)).tr pt_dropA
theorem in_28 {o n i j k a b c : Nat} {B : Nat → Nat → Nat → Bool} {W : Nat → Nat → Bool} {M : pt_M} (h : ml_P M o n B) (hw : wh_P M n W) (hij : i < j) (hjk : j < k) (hk : k < n) (e : (((nI a + nI b) + nI c) - nI i) - nI k = nI j) : pt_Go YX7_isNext (28, [(0, pt_r 7 0), (1, pt_i (nI o)), (2, pt_i (nI a)), (3, pt_i (nI b)), (4, pt_i (nI c)), (5, pt_i (nI i)), (6, pt_i (nI k))], [], M) (85, [(2, pt_i (nI a)), (3, pt_i (nI b)), (5, pt_i (nI i)), (6, pt_i (nI k)), (8, pt_i (pt_b (W i j))), (9, pt_i (pt_b (W i k))), (10, pt_i (pt_b (W j k))), (11, pt_i (pt_b (B i j k)))], [], M) := by
  have hn := h.2.1
  have g := gX7_isNext_28_1 (nI o) (nI a) (nI b) (nI c) (nI i) (nI k) n B M
  rw [e, hw i j hij (by omega), hw i k (by omega) hk, hw j k hjk hk, tl_nI (by omega) (by omega) (by omega)] at g
  have ix : ∀ u v, u < 10 → v < 10 → pt_in ((10 * nI u) + nI v) 100 := fun u v hu hv => by
    rw [show (10 : Int32) = nI 10 from rfl, pk_mul, nI_add]
    exact pt_in_nI (by omega) (by decide)
  exact g (ix i j (by omega) (by omega)) (ix i k (by omega) (by omega)) (ix j k (by omega) (by omega)) (tq_of h (by omega) (by omega) hk (by omega) (by omega) (by omega))
theorem dX7_isNext {o n a b c : Nat} {B : Nat → Nat → Nat → Bool} {W : Nat → Nat → Bool} {M : pt_M} (h : ml_P M o n B) (hw : wh_P M n W) (hab : a < b) (hb : b < n) (hc : c < n) (h1 : c ≠ a) (h2 : c ≠ b) : pt_Does yX7_isNext YX7_isNext [pt_r 7 0, pt_i (nI o), pt_i (nI a), pt_i (nI b), pt_i (nI c)] M (some (pt_i (pt_b (dw_F B (sw2_F W) a b c)))) M := by
  have hn := h.2.1
  unfold dw_F
  by_cases c1 : c < a
  · rw [if_pos c1]
    have e : (((nI a + nI b) + nI c) - nI c) - nI b = nI a := by
      rw [nI_add, nI_add, pk_sub (by omega), pk_sub (by omega)]
      exact congrArg nI (by omega)
    refine rX7_isNext_215 (pt_narb _) (Nat.le_of_ble_eq_true rfl) rfl ((gX7_isNext_0_1 (nI o) (nI a) (nI b) (nI c) n B M (nI_ge c1 (by omega))).tr ((gX7_isNext_14_2 (nI o) (nI a) (nI b) (nI c) (nI c) n B M (nI_le (by omega) (by omega))).tr ((in_28 h hw c1 hab hb e).tr ((in_u (n := n) (B := B) (nI_nE (show a ≠ c by omega) (by omega) (by omega))).toS ?_ rfl))))
    have s1 : sw2_F W a c = W c a := if_neg (by omega)
    have s2 : sw2_F W b c = W c b := if_neg (by omega)
    rw [s1, s2]
    cases B c a b <;> cases W c a <;> cases W c b <;> rfl
  · rw [if_neg c1]
    by_cases c2 : c < b
    · rw [if_pos c2]
      have e : (((nI a + nI b) + nI c) - nI a) - nI b = nI c := by
        rw [nI_add, nI_add, pk_sub (by omega), pk_sub (by omega)]
        exact congrArg nI (by omega)
      refine rX7_isNext_135 (pt_narb _) (Nat.le_of_ble_eq_true rfl) rfl ((gX7_isNext_0_2 (nI o) (nI a) (nI b) (nI c) n B M (nI_le (by omega) (by omega))).tr ((gX7_isNext_14_2 (nI o) (nI a) (nI b) (nI c) (nI a) n B M (nI_le (by omega) (by omega))).tr ((in_28 h hw (show a < c by omega) c2 hb e).tr ((in_m (n := n) (B := B)).toS ?_ rfl))))
      have s1 : sw2_F W a c = W a c := if_pos (by omega)
      have s2 : sw2_F W b c = W c b := if_neg (by omega)
      rw [s1, s2]
      cases B a c b <;> cases W a c <;> cases W c b <;> rfl
    · rw [if_neg c2]
      have e : (((nI a + nI b) + nI c) - nI a) - nI c = nI b := by
        rw [nI_add, nI_add, pk_sub (by omega), pk_sub (by omega)]
        exact congrArg nI (by omega)
      refine rX7_isNext_215 (pt_narb _) (Nat.le_of_ble_eq_true rfl) rfl ((gX7_isNext_0_2 (nI o) (nI a) (nI b) (nI c) n B M (nI_le (by omega) (by omega))).tr ((gX7_isNext_14_1 (nI o) (nI a) (nI b) (nI c) (nI a) n B M (nI_ge (by omega) (by omega))).tr ((in_28 h hw hab (show b < c by omega) hc e).tr ((in_l (n := n) (B := B) (nI_nE (show b ≠ c by omega) (by omega) (by omega))).toS ?_ rfl))))
      have s1 : sw2_F W a c = W a c := if_pos (by omega)
      have s2 : sw2_F W b c = W b c := if_pos (by omega)
      rw [s1, s2]
      cases B a b c <;> cases W a c <;> cases W b c <;> rfl
theorem rX7_maySwap_89 {vs : List pt_V} {M M' : pt_M} {x : Int32} {L : List (Nat × pt_V)} (hn : narrow .boolean (.int x) = .int x) (hvs : (vs.map pt_w).sum ≤ 8) (hX : M'.2.2.2.2 = M.2.2.2.2) (h : pt_Go YX7_maySwap (0, pt_en 0 vs, [], M) (89, L, [pt_i x], M')) : pt_Does yX7_maySwap YX7_maySwap vs M (some (pt_i x)) M' := pt_does_go tX7_maySwap_ok nX7_maySwap hvs hX ⟨_, by with_unfolding_all rfl, rfl, _, rfl, hn⟩ h
set_option maxRecDepth 100000 in
theorem gX7_maySwap_0_1 (x1 : Int32) (x2 : Int32) (x3 : Int32)  (M : pt_M) (h1 : pt_in x3 10) (h2 : pt_in (x3 + 1) 10) (h3 : ¬ (pt_A M 42 0 (pt_nt (x3 + 1))) ≤ (pt_A M 42 0 (pt_nt x3))) :
    pt_Go YX7_maySwap (0, [(0, pt_r 7 0), (1, pt_i x1), (2, pt_i x2), (3, pt_i x3)], [], M)
      (35, [(0, pt_r 7 0), (1, pt_i x1), (2, pt_i x2), (4, pt_i (pt_A M 42 0 (pt_nt x3))), (5, pt_i (pt_A M 42 0 (pt_nt (x3 + 1)))), (6, pt_i 1), (7, pt_i 0)], [], M) :=
  (pt_run_ok tX7_maySwap_ok 20 [.inl false] (P := (pt_in x3 10) ∧ (pt_in (x3 + 1) 10) ∧ (¬ (pt_A M 42 0 (pt_nt (x3 + 1))) ≤ (pt_A M 42 0 (pt_nt x3))) ∧ True) (by with_unfolding_all rfl) ⟨h1, h2, h3, trivial⟩ : pt_Go YX7_maySwap _ (35, [(0, pt_r 7 0), (1, pt_i x1), (2, pt_i x2), (3, pt_i x3), (4, pt_i (pt_A M 42 0 (pt_nt x3))), (5, pt_i (pt_A M 42 0 (pt_nt (x3 + 1)))), (6, pt_i 1), (7, pt_i 0)], [], M)).tr (pt_pick [0, 1, 2, 4, 5, 6, 7] (by with_unfolding_all rfl))
set_option maxRecDepth 100000 in
theorem gX7_maySwap_0_2 (x1 : Int32) (x2 : Int32) (x3 : Int32)  (M : pt_M) (h1 : pt_in x3 10) (h2 : pt_in (x3 + 1) 10) (h3 : (pt_A M 42 0 (pt_nt (x3 + 1))) ≤ (pt_A M 42 0 (pt_nt x3))) :
    pt_Go YX7_maySwap (0, [(0, pt_r 7 0), (1, pt_i x1), (2, pt_i x2), (3, pt_i x3)], [], M)
      (35, [(0, pt_r 7 0), (1, pt_i x1), (2, pt_i x2), (4, pt_i (pt_A M 42 0 (pt_nt x3))), (5, pt_i (pt_A M 42 0 (pt_nt (x3 + 1)))), (6, pt_i 0), (7, pt_i 0)], [], M) :=
  (pt_run_ok tX7_maySwap_ok 19 [.inl true] (P := (pt_in x3 10) ∧ (pt_in (x3 + 1) 10) ∧ ((pt_A M 42 0 (pt_nt (x3 + 1))) ≤ (pt_A M 42 0 (pt_nt x3))) ∧ True) (by with_unfolding_all rfl) ⟨h1, h2, h3, trivial⟩ : pt_Go YX7_maySwap _ (35, [(0, pt_r 7 0), (1, pt_i x1), (2, pt_i x2), (3, pt_i x3), (4, pt_i (pt_A M 42 0 (pt_nt x3))), (5, pt_i (pt_A M 42 0 (pt_nt (x3 + 1)))), (6, pt_i 0), (7, pt_i 0)], [], M)).tr (pt_pick [0, 1, 2, 4, 5, 6, 7] (by with_unfolding_all rfl))
set_option maxRecDepth 100000 in
theorem gX7_maySwap_35_1 (l1 : Int32) (l2 : Int32) (l4 : Int32) (l5 : Int32) (l6 : Int32) (l7 : Int32)  (M : pt_M) (h1 : ¬ l2 ≤ l7) (h2 : ¬ l6 = 0) (h3 : ¬ l7 = l4) (h4 : ¬ l7 = l5) (h5 : pt_Does yX7_isNext YX7_isNext [pt_r 7 0, pt_i l1, pt_i l4, pt_i l5, pt_i l7] M (some (pt_i 1)) M) :
    pt_Go YX7_maySwap (35, [(0, pt_r 7 0), (1, pt_i l1), (2, pt_i l2), (4, pt_i l4), (5, pt_i l5), (6, pt_i l6), (7, pt_i l7)], [], M)
      (35, [(0, pt_r 7 0), (1, pt_i l1), (2, pt_i l2), (4, pt_i l4), (5, pt_i l5), (6, pt_i 1), (7, pt_i (l7 + 1))], [], M) :=
  pt_run_ok tX7_maySwap_ok 23 [.inl false, .inl false, .inl false, .inl false, .inr (5, some (pt_i 1), M), .inl false] (P := (¬ l2 ≤ l7) ∧ (¬ l6 = 0) ∧ (¬ l7 = l4) ∧ (¬ l7 = l5) ∧ pt_Cal YX7_maySwap (.invokevirtual 190) [pt_r 7 0, pt_i l1, pt_i l4, pt_i l5, pt_i l7] M (some (pt_i 1)) M ∧ (¬ (1 : Int32) = (0 : Int32)) ∧ True) (by with_unfolding_all rfl) ⟨h1, h2, h3, h4, (pt_callV (i := 0) kX7_maySwap_190 mX7_isNext rfl (by decide) rfl h5), (by decide), trivial⟩
set_option maxRecDepth 100000 in
theorem gX7_maySwap_35_2 (l1 : Int32) (l2 : Int32) (l4 : Int32) (l5 : Int32) (l6 : Int32) (l7 : Int32)  (M : pt_M) (h1 : ¬ l2 ≤ l7) (h2 : ¬ l6 = 0) (h3 : ¬ l7 = l4) (h4 : ¬ l7 = l5) (h5 : pt_Does yX7_isNext YX7_isNext [pt_r 7 0, pt_i l1, pt_i l4, pt_i l5, pt_i l7] M (some (pt_i 0)) M) :
    pt_Go YX7_maySwap (35, [(0, pt_r 7 0), (1, pt_i l1), (2, pt_i l2), (4, pt_i l4), (5, pt_i l5), (6, pt_i l6), (7, pt_i l7)], [], M)
      (35, [(0, pt_r 7 0), (1, pt_i l1), (2, pt_i l2), (4, pt_i l4), (5, pt_i l5), (6, pt_i 0), (7, pt_i (l7 + 1))], [], M) :=
  pt_run_ok tX7_maySwap_ok 22 [.inl false, .inl false, .inl false, .inl false, .inr (5, some (pt_i 0), M), .inl true] (P := (¬ l2 ≤ l7) ∧ (¬ l6 = 0) ∧ (¬ l7 = l4) ∧ (¬ l7 = l5) ∧ pt_Cal YX7_maySwap (.invokevirtual 190) [pt_r 7 0, pt_i l1, pt_i l4, pt_i l5, pt_i l7] M (some (pt_i 0)) M ∧ ((0 : Int32) = (0 : Int32)) ∧ True) (by with_unfolding_all rfl) ⟨h1, h2, h3, h4, (pt_callV (i := 0) kX7_maySwap_190 mX7_isNext rfl (by decide) rfl h5), (by decide), trivial⟩
set_option maxRecDepth 100000 in
theorem gX7_maySwap_35_3 (l1 : Int32) (l2 : Int32) (l4 : Int32) (l5 : Int32) (l6 : Int32) (l7 : Int32)  (M : pt_M) (h1 : ¬ l2 ≤ l7) (h2 : ¬ l6 = 0) (h3 : ¬ l7 = l4) (h4 : l7 = l5) :
    pt_Go YX7_maySwap (35, [(0, pt_r 7 0), (1, pt_i l1), (2, pt_i l2), (4, pt_i l4), (5, pt_i l5), (6, pt_i l6), (7, pt_i l7)], [], M)
      (35, [(0, pt_r 7 0), (1, pt_i l1), (2, pt_i l2), (4, pt_i l4), (5, pt_i l5), (6, pt_i 1), (7, pt_i (l7 + 1))], [], M) :=
  pt_run_ok tX7_maySwap_ok 16 [.inl false, .inl false, .inl false, .inl true] (P := (¬ l2 ≤ l7) ∧ (¬ l6 = 0) ∧ (¬ l7 = l4) ∧ (l7 = l5) ∧ True) (by with_unfolding_all rfl) ⟨h1, h2, h3, h4, trivial⟩
set_option maxRecDepth 100000 in
theorem gX7_maySwap_35_4 (l1 : Int32) (l2 : Int32) (l4 : Int32) (l5 : Int32) (l6 : Int32) (l7 : Int32)  (M : pt_M) (h1 : ¬ l2 ≤ l7) (h2 : ¬ l6 = 0) (h3 : l7 = l4) :
    pt_Go YX7_maySwap (35, [(0, pt_r 7 0), (1, pt_i l1), (2, pt_i l2), (4, pt_i l4), (5, pt_i l5), (6, pt_i l6), (7, pt_i l7)], [], M)
      (35, [(0, pt_r 7 0), (1, pt_i l1), (2, pt_i l2), (4, pt_i l4), (5, pt_i l5), (6, pt_i 1), (7, pt_i (l7 + 1))], [], M) :=
  pt_run_ok tX7_maySwap_ok 13 [.inl false, .inl false, .inl true] (P := (¬ l2 ≤ l7) ∧ (¬ l6 = 0) ∧ (l7 = l4) ∧ True) (by with_unfolding_all rfl) ⟨h1, h2, h3, trivial⟩
set_option maxRecDepth 100000 in
theorem gX7_maySwap_35_5 (l1 : Int32) (l2 : Int32) (l4 : Int32) (l5 : Int32) (l6 : Int32) (l7 : Int32)  (M : pt_M) (h1 : ¬ l2 ≤ l7) (h2 : l6 = 0) :
    pt_Go YX7_maySwap (35, [(0, pt_r 7 0), (1, pt_i l1), (2, pt_i l2), (4, pt_i l4), (5, pt_i l5), (6, pt_i l6), (7, pt_i l7)], [], M)
      (89, [(0, pt_r 7 0), (1, pt_i l1), (2, pt_i l2), (4, pt_i l4), (5, pt_i l5), (6, pt_i l6), (7, pt_i l7)], [pt_i l6], M) :=
  pt_run_ok tX7_maySwap_ok 6 [.inl false, .inl true] (P := (¬ l2 ≤ l7) ∧ (l6 = 0) ∧ True) (by with_unfolding_all rfl) ⟨h1, h2, trivial⟩
set_option maxRecDepth 100000 in
theorem gX7_maySwap_35_6 (l1 : Int32) (l2 : Int32) (l4 : Int32) (l5 : Int32) (l6 : Int32) (l7 : Int32)  (M : pt_M) (h1 : l2 ≤ l7) :
    pt_Go YX7_maySwap (35, [(0, pt_r 7 0), (1, pt_i l1), (2, pt_i l2), (4, pt_i l4), (5, pt_i l5), (6, pt_i l6), (7, pt_i l7)], [], M)
      (89, [(0, pt_r 7 0), (1, pt_i l1), (2, pt_i l2), (4, pt_i l4), (5, pt_i l5), (6, pt_i l6), (7, pt_i l7)], [pt_i l6], M) :=
  pt_run_ok tX7_maySwap_ok 4 [.inl true] (P := (l2 ≤ l7) ∧ True) (by with_unfolding_all rfl) ⟨h1, trivial⟩
def my_F (n : Nat) (B : Nat → Nat → Nat → Bool) (S : Nat → Nat → Bool) (a b : Nat) : Bool := decide (a < b) && (du_F n B S a b).isNone
theorem dX7_maySwap {o n q a b : Nat} {B : Nat → Nat → Nat → Bool} {W : Nat → Nat → Bool} {M : pt_M} (h : ml_P M o n B) (hw : wh_P M n W) (hq : q + 1 < n) (ea : pt_A M 42 0 q = nI a) (eb : pt_A M 42 0 (q + 1) = nI b) (ha : a < n) (hb : b < n) : pt_Does yX7_maySwap YX7_maySwap [pt_r 7 0, pt_i (nI o), pt_i (nI n), pt_i (nI q)] M (some (pt_i (pt_b (my_F n B (sw2_F W) a b)))) M := by
  have hn := h.2.1
  have e1 : pt_nt (nI q) = q := pt_nt_nI (by omega)
  have e2 : pt_nt (nI q + 1) = q + 1 := by rw [nI_1, pt_nt_nI (by omega)]
  have i1 : pt_in (nI q) 10 := pt_in_nI (by omega) (by decide)
  have i2 : pt_in (nI q + 1) 10 := by rw [nI_1]; exact pt_in_nI (by omega) (by decide)
  unfold my_F
  by_cases hab : a < b
  · rw [decide_eq_true hab, Bool.true_and]
    have g0 := gX7_maySwap_0_1 (nI o) (nI n) (nI q) M i1 i2
    rw [e1, e2, ea, eb] at g0
    have g0 := g0 (nI_ge hab (by omega))
    have K := pt_nest (α := Unit) (Y := YX7_maySwap) (σ := (0, [(0, pt_r 7 0), (1, pt_i (nI o)), (2, pt_i (nI n)), (3, pt_i (nI q))], [], M)) (τ := (89, [], [pt_i 1], M)) (R := fun _ => (89, [], [pt_i 0], M)) (n := n) (i := 0)
      (S := fun c => (35, [(0, pt_r 7 0), (1, pt_i (nI o)), (2, pt_i (nI n)), (4, pt_i (nI a)), (5, pt_i (nI b)), (6, pt_i 1), (7, pt_i (nI c))], [], M)) (f := fun c => if decide (c ≠ a) && (decide (c ≠ b) && !dw_F B (sw2_F W) a b c) then some () else none)
      (Nat.zero_le n) g0 ((gX7_maySwap_35_6 (nI o) (nI n) (nI a) (nI b) 1 (nI n) M (Int32.le_refl _)).tr pt_dropA) fun c _ hc => by
        have hlt := nI_ge hc (show n < 2 ^ 31 by omega)
        by_cases c1 : c = a
        · rw [decide_eq_false (fun z => z c1)]
          exact ⟨fun v z => (by cases z), fun _ => (gX7_maySwap_35_4 (nI o) (nI n) (nI a) (nI b) 1 (nI c) M hlt (by decide) (by rw [c1])).to (by rw [nI_1])⟩
        have c1' := nI_nE c1 (by omega) (by omega)
        by_cases c2 : c = b
        · rw [decide_eq_false (p := c ≠ b) (fun z => z c2), Bool.false_and, Bool.and_false]
          exact ⟨fun v z => (by cases z), fun _ => (gX7_maySwap_35_3 (nI o) (nI n) (nI a) (nI b) 1 (nI c) M hlt (by decide) c1' (by rw [c2])).to (by rw [nI_1])⟩
        have c2' := nI_nE c2 (by omega) (by omega)
        have D := dX7_isNext h hw hab hb hc c1 c2
        rw [decide_eq_true c1, decide_eq_true c2, Bool.true_and, Bool.true_and]
        cases c3 : dw_F B (sw2_F W) a b c
        · rw [c3] at D
          refine ⟨fun v _ => ?_, fun z => (by cases z)⟩
          have g1 := (gX7_maySwap_35_2 (nI o) (nI n) (nI a) (nI b) 1 (nI c) M hlt (by decide) c1' c2' D).to (by rw [nI_1])
          by_cases c4 : c + 1 < n
          · exact (g1.tr (gX7_maySwap_35_5 (nI o) (nI n) (nI a) (nI b) 0 (nI (c + 1)) M (nI_ge c4 (by omega)) rfl)).tr pt_dropA
          · exact (g1.tr (gX7_maySwap_35_6 (nI o) (nI n) (nI a) (nI b) 0 (nI (c + 1)) M (nI_le (by omega) (by omega)))).tr pt_dropA
        · rw [c3] at D
          exact ⟨fun v z => (by cases z), fun _ => (gX7_maySwap_35_1 (nI o) (nI n) (nI a) (nI b) 1 (nI c) M hlt (by decide) c1' c2' D).to (by rw [nI_1])⟩
    unfold du_F
    cases hf : fs_F (n - 0) 0 fun c => if decide (c ≠ a) && (decide (c ≠ b) && !dw_F B (sw2_F W) a b c) then some () else none with
    | none => exact rX7_maySwap_89 pt_nar1 (Nat.le_of_ble_eq_true rfl) rfl (K.2 hf)
    | some v => exact rX7_maySwap_89 pt_nar0 (Nat.le_of_ble_eq_true rfl) rfl (K.1 v hf)
  · rw [decide_eq_false hab, Bool.false_and]
    have g0 := gX7_maySwap_0_2 (nI o) (nI n) (nI q) M i1 i2
    rw [e1, e2, ea, eb] at g0
    have g0 := g0 (nI_le (by omega) (by omega))
    exact rX7_maySwap_89 pt_nar0 (Nat.le_of_ble_eq_true rfl) rfl (g0.tr (gX7_maySwap_35_5 (nI o) (nI n) (nI a) (nI b) 0 0 M (nI_ge (a := 0) (by omega) (by omega)) rfl))
