/-! THE MODEL: threes, turns -/
def th_I (i j k : Int32) : Int32 := ((((k * (k - 1)) * (k - 2)) / 6) + ((j * (j - 1)) / 2)) + i
theorem rX7_three_22 {vs : List pt_V} {M M' : pt_M} {x : Int32} {L : List (Nat × pt_V)} (hvs : (vs.map pt_w).sum ≤ 3) (hX : M'.2.2.2.2 = M.2.2.2.2) (h : pt_Go YX7_three (0, pt_en 0 vs, [], M) (22, L, [pt_i x], M')) : pt_Does yX7_three YX7_three vs M (some (pt_i x)) M' := pt_does_go tX7_three_ok nX7_three hvs hX ⟨_, by with_unfolding_all rfl, rfl, _, rfl, rfl⟩ h
set_option maxRecDepth 100000 in
theorem gX7_three_0_1 (x1 : Int32) (x2 : Int32) (x3 : Int32)  (M : pt_M) :
    pt_Go YX7_three (0, [(0, pt_i x1), (1, pt_i x2), (2, pt_i x3)], [], M)
      (22, [(0, pt_i x1), (1, pt_i x2), (2, pt_i x3)], [pt_i (((((x3 * (x3 - 1)) * (x3 - 2)) / 6) + ((x2 * (x2 - 1)) / 2)) + x1)], M) :=
  pt_run_ok tX7_three_ok 21 [] (P := (¬ (6 : Int32) = 0) ∧ (¬ (2 : Int32) = 0) ∧ True) (by with_unfolding_all rfl) ⟨(by decide), (by decide), trivial⟩
theorem dX7_three (i j k : Int32) (M : pt_M) : pt_Does yX7_three YX7_three [pt_i i, pt_i j, pt_i k] M (some (pt_i (th_I i j k))) M := rX7_three_22 (Nat.le_of_ble_eq_true rfl) rfl (gX7_three_0_1 i j k M)
def th_F (i j k : Nat) : Nat := k * (k - 1) * (k - 2) / 6 + j * (j - 1) / 2 + i
def ti_L : List (Nat × Nat × Nat) := (List.range 10).flatMap fun k => (List.range k).flatMap fun j => (List.range j).map fun i => (i, j, k)
def ti_F (q : Nat) : Nat × Nat × Nat := ti_L.getD q (0, 0, 0)
set_option maxRecDepth 100000 in
theorem th_tab : ((List.range 10).all fun k => (List.range k).all fun j => (List.range j).all fun i => decide (th_I (nI i) (nI j) (nI k) = nI (th_F i j k)) && (decide (th_F i j k < 120) && decide (ti_F (th_F i j k) = (i, j, k)))) = true := by decide +kernel
set_option maxRecDepth 100000 in
theorem ti_tab : ((List.range 120).all fun q => decide ((ti_F q).1 < (ti_F q).2.1) && (decide ((ti_F q).2.1 < (ti_F q).2.2) && (decide ((ti_F q).2.2 < 10) && decide (th_F (ti_F q).1 (ti_F q).2.1 (ti_F q).2.2 = q)))) = true := by decide +kernel
theorem th_all {i j k : Nat} (h1 : i < j) (h2 : j < k) (hk : k < 10) : th_I (nI i) (nI j) (nI k) = nI (th_F i j k) ∧ th_F i j k < 120 ∧ ti_F (th_F i j k) = (i, j, k) := by
  have h := pt_all (pt_all (pt_all th_tab hk) h2) h1
  rw [Bool.and_eq_true, Bool.and_eq_true] at h
  exact ⟨of_decide_eq_true h.1, of_decide_eq_true h.2.1, of_decide_eq_true h.2.2⟩
theorem th_nI {i j k : Nat} (h1 : i < j) (h2 : j < k) (hk : k < 10) : th_I (nI i) (nI j) (nI k) = nI (th_F i j k) ∧ th_F i j k < 120 := ⟨(th_all h1 h2 hk).1, (th_all h1 h2 hk).2.1⟩
theorem ti_ok {q : Nat} (h : q < 120) : (ti_F q).1 < (ti_F q).2.1 ∧ (ti_F q).2.1 < (ti_F q).2.2 ∧ (ti_F q).2.2 < 10 ∧ th_F (ti_F q).1 (ti_F q).2.1 (ti_F q).2.2 = q := by
  have h := pt_all ti_tab h
  rw [Bool.and_eq_true, Bool.and_eq_true, Bool.and_eq_true] at h
  exact ⟨of_decide_eq_true h.1, of_decide_eq_true h.2.1, of_decide_eq_true h.2.2.1, of_decide_eq_true h.2.2.2⟩
def tv_F (b : Bool) : Int32 := if b then 1 else -1
theorem tv_neg (b : Bool) : -(tv_F b) = tv_F (!b) := by cases b <;> decide
theorem tv_1 (b : Bool) : tv_F b = 1 ↔ b = true := by cases b <;> decide
theorem tv_eq (a b : Bool) : tv_F a = tv_F b ↔ a = b := by cases a <;> cases b <;> decide
/-- the turns of threes of n points, each way round -/
def sy_P (n : Nat) (B : Nat → Nat → Nat → Bool) : Prop := ∀ i j k, i < n → j < n → k < n → i ≠ j → j ≠ k → i ≠ k → B j k i = B i j k ∧ B j i k = !B i j k
/-- THE MODEL'S TABLE at o: n points, the turns B -/
def ml_P (M : pt_M) (o n : Nat) (B : Nat → Nat → Nat → Bool) : Prop := o + 120 ≤ 960 ∧ n ≤ 10 ∧ (∀ i j k, i < j → j < k → k < n → pt_A M 32 0 (o + th_F i j k) = tv_F (B i j k)) ∧ sy_P n B
theorem rX7_turnAt_158 {vs : List pt_V} {M M' : pt_M} {x : Int32} {L : List (Nat × pt_V)} (hvs : (vs.map pt_w).sum ≤ 10) (hX : M'.2.2.2.2 = M.2.2.2.2) (h : pt_Go YX7_turnAt (0, pt_en 0 vs, [], M) (158, L, [pt_i x], M')) : pt_Does yX7_turnAt YX7_turnAt vs M (some (pt_i x)) M' := pt_does_go tX7_turnAt_ok nX7_turnAt hvs hX ⟨_, by with_unfolding_all rfl, rfl, _, rfl, rfl⟩ h
set_option maxRecDepth 100000 in
theorem gX7_turnAt_0_1 (x1 : Int32) (x2 : Int32) (x3 : Int32) (x4 : Int32)  (M : pt_M) (h1 : ¬ x3 ≤ x2) (h2 : ¬ x4 ≤ x2) :
    pt_Go YX7_turnAt (0, [(0, pt_r 7 0), (1, pt_i x1), (2, pt_i x2), (3, pt_i x3), (4, pt_i x4)], [], M)
      (34, [(0, pt_r 7 0), (1, pt_i x1), (2, pt_i x2), (3, pt_i x3), (4, pt_i x4), (5, pt_i x2)], [], M) :=
  pt_run_ok tX7_turnAt_ok 9 [.inl false, .inl false] (P := (¬ x3 ≤ x2) ∧ (¬ x4 ≤ x2) ∧ True) (by with_unfolding_all rfl) ⟨h1, h2, trivial⟩
set_option maxRecDepth 100000 in
theorem gX7_turnAt_0_2 (x1 : Int32) (x2 : Int32) (x3 : Int32) (x4 : Int32)  (M : pt_M) (h1 : ¬ x3 ≤ x2) (h2 : x4 ≤ x2) :
    pt_Go YX7_turnAt (0, [(0, pt_r 7 0), (1, pt_i x1), (2, pt_i x2), (3, pt_i x3), (4, pt_i x4)], [], M)
      (34, [(0, pt_r 7 0), (1, pt_i x1), (2, pt_i x2), (3, pt_i x3), (4, pt_i x4), (5, pt_i x4)], [], M) :=
  pt_run_ok tX7_turnAt_ok 9 [.inl false, .inl true] (P := (¬ x3 ≤ x2) ∧ (x4 ≤ x2) ∧ True) (by with_unfolding_all rfl) ⟨h1, h2, trivial⟩
set_option maxRecDepth 100000 in
theorem gX7_turnAt_0_3 (x1 : Int32) (x2 : Int32) (x3 : Int32) (x4 : Int32)  (M : pt_M) (h1 : x3 ≤ x2) (h2 : ¬ x4 ≤ x3) :
    pt_Go YX7_turnAt (0, [(0, pt_r 7 0), (1, pt_i x1), (2, pt_i x2), (3, pt_i x3), (4, pt_i x4)], [], M)
      (34, [(0, pt_r 7 0), (1, pt_i x1), (2, pt_i x2), (3, pt_i x3), (4, pt_i x4), (5, pt_i x3)], [], M) :=
  pt_run_ok tX7_turnAt_ok 9 [.inl true, .inl false] (P := (x3 ≤ x2) ∧ (¬ x4 ≤ x3) ∧ True) (by with_unfolding_all rfl) ⟨h1, h2, trivial⟩
set_option maxRecDepth 100000 in
theorem gX7_turnAt_0_4 (x1 : Int32) (x2 : Int32) (x3 : Int32) (x4 : Int32)  (M : pt_M) (h1 : x3 ≤ x2) (h2 : x4 ≤ x3) :
    pt_Go YX7_turnAt (0, [(0, pt_r 7 0), (1, pt_i x1), (2, pt_i x2), (3, pt_i x3), (4, pt_i x4)], [], M)
      (34, [(0, pt_r 7 0), (1, pt_i x1), (2, pt_i x2), (3, pt_i x3), (4, pt_i x4), (5, pt_i x4)], [], M) :=
  pt_run_ok tX7_turnAt_ok 8 [.inl true, .inl true] (P := (x3 ≤ x2) ∧ (x4 ≤ x3) ∧ True) (by with_unfolding_all rfl) ⟨h1, h2, trivial⟩
set_option maxRecDepth 100000 in
theorem gX7_turnAt_34_1 (l1 : Int32) (l2 : Int32) (l3 : Int32) (l4 : Int32) (l5 : Int32)  (M : pt_M) (h1 : ¬ l2 ≤ l3) (h2 : ¬ l2 ≤ l4) :
    pt_Go YX7_turnAt (34, [(0, pt_r 7 0), (1, pt_i l1), (2, pt_i l2), (3, pt_i l3), (4, pt_i l4), (5, pt_i l5)], [], M)
      (68, [(0, pt_r 7 0), (1, pt_i l1), (2, pt_i l2), (3, pt_i l3), (4, pt_i l4), (5, pt_i l5), (6, pt_i l2)], [], M) :=
  pt_run_ok tX7_turnAt_ok 9 [.inl false, .inl false] (P := (¬ l2 ≤ l3) ∧ (¬ l2 ≤ l4) ∧ True) (by with_unfolding_all rfl) ⟨h1, h2, trivial⟩
set_option maxRecDepth 100000 in
theorem gX7_turnAt_34_2 (l1 : Int32) (l2 : Int32) (l3 : Int32) (l4 : Int32) (l5 : Int32)  (M : pt_M) (h1 : ¬ l2 ≤ l3) (h2 : l2 ≤ l4) :
    pt_Go YX7_turnAt (34, [(0, pt_r 7 0), (1, pt_i l1), (2, pt_i l2), (3, pt_i l3), (4, pt_i l4), (5, pt_i l5)], [], M)
      (68, [(0, pt_r 7 0), (1, pt_i l1), (2, pt_i l2), (3, pt_i l3), (4, pt_i l4), (5, pt_i l5), (6, pt_i l4)], [], M) :=
  pt_run_ok tX7_turnAt_ok 9 [.inl false, .inl true] (P := (¬ l2 ≤ l3) ∧ (l2 ≤ l4) ∧ True) (by with_unfolding_all rfl) ⟨h1, h2, trivial⟩
set_option maxRecDepth 100000 in
theorem gX7_turnAt_34_3 (l1 : Int32) (l2 : Int32) (l3 : Int32) (l4 : Int32) (l5 : Int32)  (M : pt_M) (h1 : l2 ≤ l3) (h2 : ¬ l3 ≤ l4) :
    pt_Go YX7_turnAt (34, [(0, pt_r 7 0), (1, pt_i l1), (2, pt_i l2), (3, pt_i l3), (4, pt_i l4), (5, pt_i l5)], [], M)
      (68, [(0, pt_r 7 0), (1, pt_i l1), (2, pt_i l2), (3, pt_i l3), (4, pt_i l4), (5, pt_i l5), (6, pt_i l3)], [], M) :=
  pt_run_ok tX7_turnAt_ok 9 [.inl true, .inl false] (P := (l2 ≤ l3) ∧ (¬ l3 ≤ l4) ∧ True) (by with_unfolding_all rfl) ⟨h1, h2, trivial⟩
set_option maxRecDepth 100000 in
theorem gX7_turnAt_34_4 (l1 : Int32) (l2 : Int32) (l3 : Int32) (l4 : Int32) (l5 : Int32)  (M : pt_M) (h1 : l2 ≤ l3) (h2 : l3 ≤ l4) :
    pt_Go YX7_turnAt (34, [(0, pt_r 7 0), (1, pt_i l1), (2, pt_i l2), (3, pt_i l3), (4, pt_i l4), (5, pt_i l5)], [], M)
      (68, [(0, pt_r 7 0), (1, pt_i l1), (2, pt_i l2), (3, pt_i l3), (4, pt_i l4), (5, pt_i l5), (6, pt_i l4)], [], M) :=
  pt_run_ok tX7_turnAt_ok 8 [.inl true, .inl true] (P := (l2 ≤ l3) ∧ (l3 ≤ l4) ∧ True) (by with_unfolding_all rfl) ⟨h1, h2, trivial⟩
set_option maxRecDepth 100000 in
theorem gX7_turnAt_68_1 (l1 : Int32) (l2 : Int32) (l3 : Int32) (l4 : Int32) (l5 : Int32) (l6 : Int32)  (M : pt_M) :
    pt_Go YX7_turnAt (68, [(0, pt_r 7 0), (1, pt_i l1), (2, pt_i l2), (3, pt_i l3), (4, pt_i l4), (5, pt_i l5), (6, pt_i l6)], [], M)
      (82, [(0, pt_r 7 0), (1, pt_i l1), (2, pt_i l2), (3, pt_i l3), (4, pt_i l4), (5, pt_i l5), (6, pt_i l6), (7, pt_i ((((l2 + l3) + l4) - l5) - l6))], [], M) :=
  pt_run_ok tX7_turnAt_ok 10 [] (P := True) (by with_unfolding_all rfl) trivial
set_option maxRecDepth 100000 in
theorem gX7_turnAt_82_1 (l1 : Int32) (l2 : Int32) (l3 : Int32) (l4 : Int32) (l5 : Int32) (l6 : Int32) (l7 : Int32)  (M : pt_M) (h1 : l2 = l5) (h2 : ¬ l3 = l7) (h3 : l3 = l5) (h4 : ¬ l4 = l7) (h5 : l4 = l5) (h6 : l2 = l7) :
    pt_Go YX7_turnAt (82, [(0, pt_r 7 0), (1, pt_i l1), (2, pt_i l2), (3, pt_i l3), (4, pt_i l4), (5, pt_i l5), (6, pt_i l6), (7, pt_i l7)], [], M)
      (127, [(0, pt_r 7 0), (1, pt_i l1), (5, pt_i l5), (6, pt_i l6), (7, pt_i l7), (8, pt_i 1)], [], M) :=
  (pt_run_ok tX7_turnAt_ok 21 [.inl false, .inl false, .inl false, .inl false, .inl false, .inl false] (P := (l2 = l5) ∧ (¬ l3 = l7) ∧ (l3 = l5) ∧ (¬ l4 = l7) ∧ (l4 = l5) ∧ (l2 = l7) ∧ True) (by with_unfolding_all rfl) ⟨h1, h2, h3, h4, h5, h6, trivial⟩ : pt_Go YX7_turnAt _ (127, [(0, pt_r 7 0), (1, pt_i l1), (2, pt_i l2), (3, pt_i l3), (4, pt_i l4), (5, pt_i l5), (6, pt_i l6), (7, pt_i l7), (8, pt_i 1)], [], M)).tr (pt_pick [0, 1, 5, 6, 7, 8] (by with_unfolding_all rfl))
set_option maxRecDepth 100000 in
theorem gX7_turnAt_82_2 (l1 : Int32) (l2 : Int32) (l3 : Int32) (l4 : Int32) (l5 : Int32) (l6 : Int32) (l7 : Int32)  (M : pt_M) (h1 : l2 = l5) (h2 : ¬ l3 = l7) (h3 : l3 = l5) (h4 : ¬ l4 = l7) (h5 : l4 = l5) (h6 : ¬ l2 = l7) :
    pt_Go YX7_turnAt (82, [(0, pt_r 7 0), (1, pt_i l1), (2, pt_i l2), (3, pt_i l3), (4, pt_i l4), (5, pt_i l5), (6, pt_i l6), (7, pt_i l7)], [], M)
      (127, [(0, pt_r 7 0), (1, pt_i l1), (5, pt_i l5), (6, pt_i l6), (7, pt_i l7), (8, pt_i 0)], [], M) :=
  (pt_run_ok tX7_turnAt_ok 20 [.inl false, .inl false, .inl false, .inl false, .inl false, .inl true] (P := (l2 = l5) ∧ (¬ l3 = l7) ∧ (l3 = l5) ∧ (¬ l4 = l7) ∧ (l4 = l5) ∧ (¬ l2 = l7) ∧ True) (by with_unfolding_all rfl) ⟨h1, h2, h3, h4, h5, h6, trivial⟩ : pt_Go YX7_turnAt _ (127, [(0, pt_r 7 0), (1, pt_i l1), (2, pt_i l2), (3, pt_i l3), (4, pt_i l4), (5, pt_i l5), (6, pt_i l6), (7, pt_i l7), (8, pt_i 0)], [], M)).tr (pt_pick [0, 1, 5, 6, 7, 8] (by with_unfolding_all rfl))
set_option maxRecDepth 100000 in
theorem gX7_turnAt_82_3 (l1 : Int32) (l2 : Int32) (l3 : Int32) (l4 : Int32) (l5 : Int32) (l6 : Int32) (l7 : Int32)  (M : pt_M) (h1 : l2 = l5) (h2 : ¬ l3 = l7) (h3 : l3 = l5) (h4 : ¬ l4 = l7) (h5 : ¬ l4 = l5) :
    pt_Go YX7_turnAt (82, [(0, pt_r 7 0), (1, pt_i l1), (2, pt_i l2), (3, pt_i l3), (4, pt_i l4), (5, pt_i l5), (6, pt_i l6), (7, pt_i l7)], [], M)
      (127, [(0, pt_r 7 0), (1, pt_i l1), (5, pt_i l5), (6, pt_i l6), (7, pt_i l7), (8, pt_i 0)], [], M) :=
  (pt_run_ok tX7_turnAt_ok 17 [.inl false, .inl false, .inl false, .inl false, .inl true] (P := (l2 = l5) ∧ (¬ l3 = l7) ∧ (l3 = l5) ∧ (¬ l4 = l7) ∧ (¬ l4 = l5) ∧ True) (by with_unfolding_all rfl) ⟨h1, h2, h3, h4, h5, trivial⟩ : pt_Go YX7_turnAt _ (127, [(0, pt_r 7 0), (1, pt_i l1), (2, pt_i l2), (3, pt_i l3), (4, pt_i l4), (5, pt_i l5), (6, pt_i l6), (7, pt_i l7), (8, pt_i 0)], [], M)).tr (pt_pick [0, 1, 5, 6, 7, 8] (by with_unfolding_all rfl))
set_option maxRecDepth 100000 in
theorem gX7_turnAt_82_4 (l1 : Int32) (l2 : Int32) (l3 : Int32) (l4 : Int32) (l5 : Int32) (l6 : Int32) (l7 : Int32)  (M : pt_M) (h1 : l2 = l5) (h2 : ¬ l3 = l7) (h3 : l3 = l5) (h4 : l4 = l7) :
    pt_Go YX7_turnAt (82, [(0, pt_r 7 0), (1, pt_i l1), (2, pt_i l2), (3, pt_i l3), (4, pt_i l4), (5, pt_i l5), (6, pt_i l6), (7, pt_i l7)], [], M)
      (127, [(0, pt_r 7 0), (1, pt_i l1), (5, pt_i l5), (6, pt_i l6), (7, pt_i l7), (8, pt_i 1)], [], M) :=
  (pt_run_ok tX7_turnAt_ok 15 [.inl false, .inl false, .inl false, .inl true] (P := (l2 = l5) ∧ (¬ l3 = l7) ∧ (l3 = l5) ∧ (l4 = l7) ∧ True) (by with_unfolding_all rfl) ⟨h1, h2, h3, h4, trivial⟩ : pt_Go YX7_turnAt _ (127, [(0, pt_r 7 0), (1, pt_i l1), (2, pt_i l2), (3, pt_i l3), (4, pt_i l4), (5, pt_i l5), (6, pt_i l6), (7, pt_i l7), (8, pt_i 1)], [], M)).tr (pt_pick [0, 1, 5, 6, 7, 8] (by with_unfolding_all rfl))
set_option maxRecDepth 100000 in
theorem gX7_turnAt_82_5 (l1 : Int32) (l2 : Int32) (l3 : Int32) (l4 : Int32) (l5 : Int32) (l6 : Int32) (l7 : Int32)  (M : pt_M) (h1 : l2 = l5) (h2 : ¬ l3 = l7) (h3 : ¬ l3 = l5) (h4 : l4 = l5) (h5 : l2 = l7) :
    pt_Go YX7_turnAt (82, [(0, pt_r 7 0), (1, pt_i l1), (2, pt_i l2), (3, pt_i l3), (4, pt_i l4), (5, pt_i l5), (6, pt_i l6), (7, pt_i l7)], [], M)
      (127, [(0, pt_r 7 0), (1, pt_i l1), (5, pt_i l5), (6, pt_i l6), (7, pt_i l7), (8, pt_i 1)], [], M) :=
  (pt_run_ok tX7_turnAt_ok 18 [.inl false, .inl false, .inl true, .inl false, .inl false] (P := (l2 = l5) ∧ (¬ l3 = l7) ∧ (¬ l3 = l5) ∧ (l4 = l5) ∧ (l2 = l7) ∧ True) (by with_unfolding_all rfl) ⟨h1, h2, h3, h4, h5, trivial⟩ : pt_Go YX7_turnAt _ (127, [(0, pt_r 7 0), (1, pt_i l1), (2, pt_i l2), (3, pt_i l3), (4, pt_i l4), (5, pt_i l5), (6, pt_i l6), (7, pt_i l7), (8, pt_i 1)], [], M)).tr (pt_pick [0, 1, 5, 6, 7, 8] (by with_unfolding_all rfl))
set_option maxRecDepth 100000 in
theorem gX7_turnAt_82_6 (l1 : Int32) (l2 : Int32) (l3 : Int32) (l4 : Int32) (l5 : Int32) (l6 : Int32) (l7 : Int32)  (M : pt_M) (h1 : l2 = l5) (h2 : ¬ l3 = l7) (h3 : ¬ l3 = l5) (h4 : l4 = l5) (h5 : ¬ l2 = l7) :
    pt_Go YX7_turnAt (82, [(0, pt_r 7 0), (1, pt_i l1), (2, pt_i l2), (3, pt_i l3), (4, pt_i l4), (5, pt_i l5), (6, pt_i l6), (7, pt_i l7)], [], M)
      (127, [(0, pt_r 7 0), (1, pt_i l1), (5, pt_i l5), (6, pt_i l6), (7, pt_i l7), (8, pt_i 0)], [], M) :=
  (pt_run_ok tX7_turnAt_ok 17 [.inl false, .inl false, .inl true, .inl false, .inl true] (P := (l2 = l5) ∧ (¬ l3 = l7) ∧ (¬ l3 = l5) ∧ (l4 = l5) ∧ (¬ l2 = l7) ∧ True) (by with_unfolding_all rfl) ⟨h1, h2, h3, h4, h5, trivial⟩ : pt_Go YX7_turnAt _ (127, [(0, pt_r 7 0), (1, pt_i l1), (2, pt_i l2), (3, pt_i l3), (4, pt_i l4), (5, pt_i l5), (6, pt_i l6), (7, pt_i l7), (8, pt_i 0)], [], M)).tr (pt_pick [0, 1, 5, 6, 7, 8] (by with_unfolding_all rfl))
set_option maxRecDepth 100000 in
theorem gX7_turnAt_82_7 (l1 : Int32) (l2 : Int32) (l3 : Int32) (l4 : Int32) (l5 : Int32) (l6 : Int32) (l7 : Int32)  (M : pt_M) (h1 : l2 = l5) (h2 : ¬ l3 = l7) (h3 : ¬ l3 = l5) (h4 : ¬ l4 = l5) :
    pt_Go YX7_turnAt (82, [(0, pt_r 7 0), (1, pt_i l1), (2, pt_i l2), (3, pt_i l3), (4, pt_i l4), (5, pt_i l5), (6, pt_i l6), (7, pt_i l7)], [], M)
      (127, [(0, pt_r 7 0), (1, pt_i l1), (5, pt_i l5), (6, pt_i l6), (7, pt_i l7), (8, pt_i 0)], [], M) :=
  (pt_run_ok tX7_turnAt_ok 14 [.inl false, .inl false, .inl true, .inl true] (P := (l2 = l5) ∧ (¬ l3 = l7) ∧ (¬ l3 = l5) ∧ (¬ l4 = l5) ∧ True) (by with_unfolding_all rfl) ⟨h1, h2, h3, h4, trivial⟩ : pt_Go YX7_turnAt _ (127, [(0, pt_r 7 0), (1, pt_i l1), (2, pt_i l2), (3, pt_i l3), (4, pt_i l4), (5, pt_i l5), (6, pt_i l6), (7, pt_i l7), (8, pt_i 0)], [], M)).tr (pt_pick [0, 1, 5, 6, 7, 8] (by with_unfolding_all rfl))
set_option maxRecDepth 100000 in
theorem gX7_turnAt_82_8 (l1 : Int32) (l2 : Int32) (l3 : Int32) (l4 : Int32) (l5 : Int32) (l6 : Int32) (l7 : Int32)  (M : pt_M) (h1 : l2 = l5) (h2 : l3 = l7) :
    pt_Go YX7_turnAt (82, [(0, pt_r 7 0), (1, pt_i l1), (2, pt_i l2), (3, pt_i l3), (4, pt_i l4), (5, pt_i l5), (6, pt_i l6), (7, pt_i l7)], [], M)
      (127, [(0, pt_r 7 0), (1, pt_i l1), (5, pt_i l5), (6, pt_i l6), (7, pt_i l7), (8, pt_i 1)], [], M) :=
  (pt_run_ok tX7_turnAt_ok 9 [.inl false, .inl true] (P := (l2 = l5) ∧ (l3 = l7) ∧ True) (by with_unfolding_all rfl) ⟨h1, h2, trivial⟩ : pt_Go YX7_turnAt _ (127, [(0, pt_r 7 0), (1, pt_i l1), (2, pt_i l2), (3, pt_i l3), (4, pt_i l4), (5, pt_i l5), (6, pt_i l6), (7, pt_i l7), (8, pt_i 1)], [], M)).tr (pt_pick [0, 1, 5, 6, 7, 8] (by with_unfolding_all rfl))
set_option maxRecDepth 100000 in
theorem gX7_turnAt_82_9 (l1 : Int32) (l2 : Int32) (l3 : Int32) (l4 : Int32) (l5 : Int32) (l6 : Int32) (l7 : Int32)  (M : pt_M) (h1 : ¬ l2 = l5) (h2 : l3 = l5) (h3 : ¬ l4 = l7) (h4 : l4 = l5) (h5 : l2 = l7) :
    pt_Go YX7_turnAt (82, [(0, pt_r 7 0), (1, pt_i l1), (2, pt_i l2), (3, pt_i l3), (4, pt_i l4), (5, pt_i l5), (6, pt_i l6), (7, pt_i l7)], [], M)
      (127, [(0, pt_r 7 0), (1, pt_i l1), (5, pt_i l5), (6, pt_i l6), (7, pt_i l7), (8, pt_i 1)], [], M) :=
  (pt_run_ok tX7_turnAt_ok 18 [.inl true, .inl false, .inl false, .inl false, .inl false] (P := (¬ l2 = l5) ∧ (l3 = l5) ∧ (¬ l4 = l7) ∧ (l4 = l5) ∧ (l2 = l7) ∧ True) (by with_unfolding_all rfl) ⟨h1, h2, h3, h4, h5, trivial⟩ : pt_Go YX7_turnAt _ (127, [(0, pt_r 7 0), (1, pt_i l1), (2, pt_i l2), (3, pt_i l3), (4, pt_i l4), (5, pt_i l5), (6, pt_i l6), (7, pt_i l7), (8, pt_i 1)], [], M)).tr (pt_pick [0, 1, 5, 6, 7, 8] (by with_unfolding_all rfl))
set_option maxRecDepth 100000 in
theorem gX7_turnAt_82_10 (l1 : Int32) (l2 : Int32) (l3 : Int32) (l4 : Int32) (l5 : Int32) (l6 : Int32) (l7 : Int32)  (M : pt_M) (h1 : ¬ l2 = l5) (h2 : l3 = l5) (h3 : ¬ l4 = l7) (h4 : l4 = l5) (h5 : ¬ l2 = l7) :
    pt_Go YX7_turnAt (82, [(0, pt_r 7 0), (1, pt_i l1), (2, pt_i l2), (3, pt_i l3), (4, pt_i l4), (5, pt_i l5), (6, pt_i l6), (7, pt_i l7)], [], M)
      (127, [(0, pt_r 7 0), (1, pt_i l1), (5, pt_i l5), (6, pt_i l6), (7, pt_i l7), (8, pt_i 0)], [], M) :=
  (pt_run_ok tX7_turnAt_ok 17 [.inl true, .inl false, .inl false, .inl false, .inl true] (P := (¬ l2 = l5) ∧ (l3 = l5) ∧ (¬ l4 = l7) ∧ (l4 = l5) ∧ (¬ l2 = l7) ∧ True) (by with_unfolding_all rfl) ⟨h1, h2, h3, h4, h5, trivial⟩ : pt_Go YX7_turnAt _ (127, [(0, pt_r 7 0), (1, pt_i l1), (2, pt_i l2), (3, pt_i l3), (4, pt_i l4), (5, pt_i l5), (6, pt_i l6), (7, pt_i l7), (8, pt_i 0)], [], M)).tr (pt_pick [0, 1, 5, 6, 7, 8] (by with_unfolding_all rfl))
set_option maxRecDepth 100000 in
theorem gX7_turnAt_82_11 (l1 : Int32) (l2 : Int32) (l3 : Int32) (l4 : Int32) (l5 : Int32) (l6 : Int32) (l7 : Int32)  (M : pt_M) (h1 : ¬ l2 = l5) (h2 : l3 = l5) (h3 : ¬ l4 = l7) (h4 : ¬ l4 = l5) :
    pt_Go YX7_turnAt (82, [(0, pt_r 7 0), (1, pt_i l1), (2, pt_i l2), (3, pt_i l3), (4, pt_i l4), (5, pt_i l5), (6, pt_i l6), (7, pt_i l7)], [], M)
      (127, [(0, pt_r 7 0), (1, pt_i l1), (5, pt_i l5), (6, pt_i l6), (7, pt_i l7), (8, pt_i 0)], [], M) :=
  (pt_run_ok tX7_turnAt_ok 14 [.inl true, .inl false, .inl false, .inl true] (P := (¬ l2 = l5) ∧ (l3 = l5) ∧ (¬ l4 = l7) ∧ (¬ l4 = l5) ∧ True) (by with_unfolding_all rfl) ⟨h1, h2, h3, h4, trivial⟩ : pt_Go YX7_turnAt _ (127, [(0, pt_r 7 0), (1, pt_i l1), (2, pt_i l2), (3, pt_i l3), (4, pt_i l4), (5, pt_i l5), (6, pt_i l6), (7, pt_i l7), (8, pt_i 0)], [], M)).tr (pt_pick [0, 1, 5, 6, 7, 8] (by with_unfolding_all rfl))
set_option maxRecDepth 100000 in
theorem gX7_turnAt_82_12 (l1 : Int32) (l2 : Int32) (l3 : Int32) (l4 : Int32) (l5 : Int32) (l6 : Int32) (l7 : Int32)  (M : pt_M) (h1 : ¬ l2 = l5) (h2 : l3 = l5) (h3 : l4 = l7) :
    pt_Go YX7_turnAt (82, [(0, pt_r 7 0), (1, pt_i l1), (2, pt_i l2), (3, pt_i l3), (4, pt_i l4), (5, pt_i l5), (6, pt_i l6), (7, pt_i l7)], [], M)
      (127, [(0, pt_r 7 0), (1, pt_i l1), (5, pt_i l5), (6, pt_i l6), (7, pt_i l7), (8, pt_i 1)], [], M) :=
  (pt_run_ok tX7_turnAt_ok 12 [.inl true, .inl false, .inl true] (P := (¬ l2 = l5) ∧ (l3 = l5) ∧ (l4 = l7) ∧ True) (by with_unfolding_all rfl) ⟨h1, h2, h3, trivial⟩ : pt_Go YX7_turnAt _ (127, [(0, pt_r 7 0), (1, pt_i l1), (2, pt_i l2), (3, pt_i l3), (4, pt_i l4), (5, pt_i l5), (6, pt_i l6), (7, pt_i l7), (8, pt_i 1)], [], M)).tr (pt_pick [0, 1, 5, 6, 7, 8] (by with_unfolding_all rfl))
set_option maxRecDepth 100000 in
theorem gX7_turnAt_82_13 (l1 : Int32) (l2 : Int32) (l3 : Int32) (l4 : Int32) (l5 : Int32) (l6 : Int32) (l7 : Int32)  (M : pt_M) (h1 : ¬ l2 = l5) (h2 : ¬ l3 = l5) (h3 : l4 = l5) (h4 : l2 = l7) :
    pt_Go YX7_turnAt (82, [(0, pt_r 7 0), (1, pt_i l1), (2, pt_i l2), (3, pt_i l3), (4, pt_i l4), (5, pt_i l5), (6, pt_i l6), (7, pt_i l7)], [], M)
      (127, [(0, pt_r 7 0), (1, pt_i l1), (5, pt_i l5), (6, pt_i l6), (7, pt_i l7), (8, pt_i 1)], [], M) :=
  (pt_run_ok tX7_turnAt_ok 15 [.inl true, .inl true, .inl false, .inl false] (P := (¬ l2 = l5) ∧ (¬ l3 = l5) ∧ (l4 = l5) ∧ (l2 = l7) ∧ True) (by with_unfolding_all rfl) ⟨h1, h2, h3, h4, trivial⟩ : pt_Go YX7_turnAt _ (127, [(0, pt_r 7 0), (1, pt_i l1), (2, pt_i l2), (3, pt_i l3), (4, pt_i l4), (5, pt_i l5), (6, pt_i l6), (7, pt_i l7), (8, pt_i 1)], [], M)).tr (pt_pick [0, 1, 5, 6, 7, 8] (by with_unfolding_all rfl))
set_option maxRecDepth 100000 in
theorem gX7_turnAt_82_14 (l1 : Int32) (l2 : Int32) (l3 : Int32) (l4 : Int32) (l5 : Int32) (l6 : Int32) (l7 : Int32)  (M : pt_M) (h1 : ¬ l2 = l5) (h2 : ¬ l3 = l5) (h3 : l4 = l5) (h4 : ¬ l2 = l7) :
    pt_Go YX7_turnAt (82, [(0, pt_r 7 0), (1, pt_i l1), (2, pt_i l2), (3, pt_i l3), (4, pt_i l4), (5, pt_i l5), (6, pt_i l6), (7, pt_i l7)], [], M)
      (127, [(0, pt_r 7 0), (1, pt_i l1), (5, pt_i l5), (6, pt_i l6), (7, pt_i l7), (8, pt_i 0)], [], M) :=
  (pt_run_ok tX7_turnAt_ok 14 [.inl true, .inl true, .inl false, .inl true] (P := (¬ l2 = l5) ∧ (¬ l3 = l5) ∧ (l4 = l5) ∧ (¬ l2 = l7) ∧ True) (by with_unfolding_all rfl) ⟨h1, h2, h3, h4, trivial⟩ : pt_Go YX7_turnAt _ (127, [(0, pt_r 7 0), (1, pt_i l1), (2, pt_i l2), (3, pt_i l3), (4, pt_i l4), (5, pt_i l5), (6, pt_i l6), (7, pt_i l7), (8, pt_i 0)], [], M)).tr (pt_pick [0, 1, 5, 6, 7, 8] (by with_unfolding_all rfl))
set_option maxRecDepth 100000 in
theorem gX7_turnAt_82_15 (l1 : Int32) (l2 : Int32) (l3 : Int32) (l4 : Int32) (l5 : Int32) (l6 : Int32) (l7 : Int32)  (M : pt_M) (h1 : ¬ l2 = l5) (h2 : ¬ l3 = l5) (h3 : ¬ l4 = l5) :
    pt_Go YX7_turnAt (82, [(0, pt_r 7 0), (1, pt_i l1), (2, pt_i l2), (3, pt_i l3), (4, pt_i l4), (5, pt_i l5), (6, pt_i l6), (7, pt_i l7)], [], M)
      (127, [(0, pt_r 7 0), (1, pt_i l1), (5, pt_i l5), (6, pt_i l6), (7, pt_i l7), (8, pt_i 0)], [], M) :=
  (pt_run_ok tX7_turnAt_ok 11 [.inl true, .inl true, .inl true] (P := (¬ l2 = l5) ∧ (¬ l3 = l5) ∧ (¬ l4 = l5) ∧ True) (by with_unfolding_all rfl) ⟨h1, h2, h3, trivial⟩ : pt_Go YX7_turnAt _ (127, [(0, pt_r 7 0), (1, pt_i l1), (2, pt_i l2), (3, pt_i l3), (4, pt_i l4), (5, pt_i l5), (6, pt_i l6), (7, pt_i l7), (8, pt_i 0)], [], M)).tr (pt_pick [0, 1, 5, 6, 7, 8] (by with_unfolding_all rfl))
set_option maxRecDepth 100000 in
theorem gX7_turnAt_127_1 (l1 : Int32) (l5 : Int32) (l6 : Int32) (l7 : Int32) (l8 : Int32)  (M : pt_M) (h1 : pt_in (l1 + (th_I l5 l7 l6)) 960) (h2 : ¬ l8 = 0) :
    pt_Go YX7_turnAt (127, [(0, pt_r 7 0), (1, pt_i l1), (5, pt_i l5), (6, pt_i l6), (7, pt_i l7), (8, pt_i l8)], [], M)
      (158, [(0, pt_r 7 0), (1, pt_i l1), (5, pt_i l5), (6, pt_i l6), (7, pt_i l7), (8, pt_i l8), (9, pt_i (pt_A M 32 0 (pt_nt (l1 + (th_I l5 l7 l6)))))], [pt_i (pt_A M 32 0 (pt_nt (l1 + (th_I l5 l7 l6))))], M) :=
  pt_run_ok tX7_turnAt_ok 14 [.inr (3, some (pt_i (th_I l5 l7 l6)), M), .inl false] (P := pt_Cal YX7_turnAt (.invokestatic 77) [pt_i l5, pt_i l7, pt_i l6] M (some (pt_i (th_I l5 l7 l6))) M ∧ (pt_in (l1 + (th_I l5 l7 l6)) 960) ∧ (¬ l8 = 0) ∧ True) (by with_unfolding_all rfl) ⟨(pt_callS kX7_turnAt_77 mX7_three rfl (dX7_three l5 l7 l6 M)), h1, h2, trivial⟩
set_option maxRecDepth 100000 in
theorem gX7_turnAt_127_2 (l1 : Int32) (l5 : Int32) (l6 : Int32) (l7 : Int32) (l8 : Int32)  (M : pt_M) (h1 : pt_in (l1 + (th_I l5 l7 l6)) 960) (h2 : l8 = 0) :
    pt_Go YX7_turnAt (127, [(0, pt_r 7 0), (1, pt_i l1), (5, pt_i l5), (6, pt_i l6), (7, pt_i l7), (8, pt_i l8)], [], M)
      (158, [(0, pt_r 7 0), (1, pt_i l1), (5, pt_i l5), (6, pt_i l6), (7, pt_i l7), (8, pt_i l8), (9, pt_i (pt_A M 32 0 (pt_nt (l1 + (th_I l5 l7 l6)))))], [pt_i (-(pt_A M 32 0 (pt_nt (l1 + (th_I l5 l7 l6)))))], M) :=
  pt_run_ok tX7_turnAt_ok 14 [.inr (3, some (pt_i (th_I l5 l7 l6)), M), .inl true] (P := pt_Cal YX7_turnAt (.invokestatic 77) [pt_i l5, pt_i l7, pt_i l6] M (some (pt_i (th_I l5 l7 l6))) M ∧ (pt_in (l1 + (th_I l5 l7 l6)) 960) ∧ (l8 = 0) ∧ True) (by with_unfolding_all rfl) ⟨(pt_callS kX7_turnAt_77 mX7_three rfl (dX7_three l5 l7 l6 M)), h1, h2, trivial⟩
theorem ta_end {o n lo mi hi : Nat} {B : Nat → Nat → Nat → Bool} {M : pt_M} (h : ml_P M o n B) (h1 : lo < mi) (h2 : mi < hi) (h3 : hi < n) (sm : Bool) : pt_Go YX7_turnAt (127, [(0, pt_r 7 0), (1, pt_i (nI o)), (5, pt_i (nI lo)), (6, pt_i (nI hi)), (7, pt_i (nI mi)), (8, pt_i (pt_b sm))], [], M) (158, [], [pt_i (tv_F (if sm then B lo mi hi else !B lo mi hi))], M) := by
  obtain ⟨ho, hn, hT, -⟩ := h
  obtain ⟨e1, e2⟩ := th_nI h1 h2 (show hi < 10 by omega)
  have e : nI o + th_I (nI lo) (nI mi) (nI hi) = nI (o + th_F lo mi hi) := by rw [e1, nI_add]
  have hin : pt_in (nI o + th_I (nI lo) (nI mi) (nI hi)) 960 := by rw [e]; exact pt_in_nI (by omega) (by decide)
  have hv : pt_A M 32 0 (pt_nt (nI o + th_I (nI lo) (nI mi) (nI hi))) = tv_F (B lo mi hi) := by rw [e, pt_nt_nI (by omega)]; exact hT lo mi hi h1 h2 h3
  cases sm
  · refine ((gX7_turnAt_127_2 (nI o) (nI lo) (nI hi) (nI mi) (pt_b false) M hin rfl).tr pt_dropA).toS ?_ rfl
    rw [hv, tv_neg]
    rfl
  · refine ((gX7_turnAt_127_1 (nI o) (nI lo) (nI hi) (nI mi) (pt_b true) M hin (by decide)).tr pt_dropA).toS ?_ rfl
    rw [hv]
    rfl
theorem dX7_turnAt {o n i j k : Nat} {B : Nat → Nat → Nat → Bool} {M : pt_M} (h : ml_P M o n B) (hi : i < n) (hj : j < n) (hk : k < n) (hij : i ≠ j) (hjk : j ≠ k) (hik : i ≠ k) : pt_Does yX7_turnAt YX7_turnAt [pt_r 7 0, pt_i (nI o), pt_i (nI i), pt_i (nI j), pt_i (nI k)] M (some (pt_i (tv_F (B i j k)))) M := by
  have hn := h.2.1
  have hs := h.2.2.2
  rcases Nat.lt_or_gt_of_ne hij with a | a <;> rcases Nat.lt_or_gt_of_ne hjk with b | b <;> rcases Nat.lt_or_gt_of_ne hik with c | c <;> first | (exfalso; omega) | skip
  · have e : (((nI i + nI j) + nI k) - nI i) - nI k = nI j := by
      rw [nI_add, nI_add, pk_sub (by omega), pk_sub (by omega)]
      exact congrArg nI (by omega)
    have eB : B i j k = B i j k := by
      rfl
    refine rX7_turnAt_158 (Nat.le_of_ble_eq_true rfl) rfl ((gX7_turnAt_0_1 (nI o) (nI i) (nI j) (nI k) M (fun z => absurd ((nI_leI (by omega) (by omega)).mp z) (by omega)) (fun z => absurd ((nI_leI (by omega) (by omega)).mp z) (by omega))).tr ((gX7_turnAt_34_4 (nI o) (nI i) (nI j) (nI k) (nI i) M ((nI_leI (by omega) (by omega)).mpr (by omega)) ((nI_leI (by omega) (by omega)).mpr (by omega))).tr (((gX7_turnAt_68_1 (nI o) (nI i) (nI j) (nI k) (nI i) (nI k) M).to (by rw [e])).tr ((gX7_turnAt_82_8 (nI o) (nI i) (nI j) (nI k) (nI i) (nI k) (nI j) M rfl rfl).tr ((ta_end h (lo := i) (mi := j) (hi := k) (by omega) (by omega) (by omega) true).toS ?_ rfl)))))
    exact congrArg (fun b => [pt_i (tv_F b)]) eB.symm
  · have e : (((nI i + nI j) + nI k) - nI i) - nI j = nI k := by
      rw [nI_add, nI_add, pk_sub (by omega), pk_sub (by omega)]
      exact congrArg nI (by omega)
    have eB : B i j k = !B i k j := by
      rw [(hs j i k hj hi hk (by omega) (by omega) (by omega)).2, ← (hs j i k hj hi hk (by omega) (by omega) (by omega)).1]
    refine rX7_turnAt_158 (Nat.le_of_ble_eq_true rfl) rfl ((gX7_turnAt_0_1 (nI o) (nI i) (nI j) (nI k) M (fun z => absurd ((nI_leI (by omega) (by omega)).mp z) (by omega)) (fun z => absurd ((nI_leI (by omega) (by omega)).mp z) (by omega))).tr ((gX7_turnAt_34_3 (nI o) (nI i) (nI j) (nI k) (nI i) M ((nI_leI (by omega) (by omega)).mpr (by omega)) (fun z => absurd ((nI_leI (by omega) (by omega)).mp z) (by omega))).tr (((gX7_turnAt_68_1 (nI o) (nI i) (nI j) (nI k) (nI i) (nI j) M).to (by rw [e])).tr ((gX7_turnAt_82_7 (nI o) (nI i) (nI j) (nI k) (nI i) (nI j) (nI k) M rfl (fun z => absurd ((nI_eq (by omega) (by omega)).mp z) (by omega)) (fun z => absurd ((nI_eq (by omega) (by omega)).mp z) (by omega)) (fun z => absurd ((nI_eq (by omega) (by omega)).mp z) (by omega))).tr ((ta_end h (lo := i) (mi := k) (hi := j) (by omega) (by omega) (by omega) false).toS ?_ rfl)))))
    exact congrArg (fun b => [pt_i (tv_F b)]) eB.symm
  · have e : (((nI i + nI j) + nI k) - nI k) - nI j = nI i := by
      rw [nI_add, nI_add, pk_sub (by omega), pk_sub (by omega)]
      exact congrArg nI (by omega)
    have eB : B i j k = B k i j := by
      exact (hs k i j hk hi hj (by omega) (by omega) (by omega)).1
    refine rX7_turnAt_158 (Nat.le_of_ble_eq_true rfl) rfl ((gX7_turnAt_0_2 (nI o) (nI i) (nI j) (nI k) M (fun z => absurd ((nI_leI (by omega) (by omega)).mp z) (by omega)) ((nI_leI (by omega) (by omega)).mpr (by omega))).tr ((gX7_turnAt_34_3 (nI o) (nI i) (nI j) (nI k) (nI k) M ((nI_leI (by omega) (by omega)).mpr (by omega)) (fun z => absurd ((nI_leI (by omega) (by omega)).mp z) (by omega))).tr (((gX7_turnAt_68_1 (nI o) (nI i) (nI j) (nI k) (nI k) (nI j) M).to (by rw [e])).tr ((gX7_turnAt_82_13 (nI o) (nI i) (nI j) (nI k) (nI k) (nI j) (nI i) M (fun z => absurd ((nI_eq (by omega) (by omega)).mp z) (by omega)) (fun z => absurd ((nI_eq (by omega) (by omega)).mp z) (by omega)) rfl rfl).tr ((ta_end h (lo := k) (mi := i) (hi := j) (by omega) (by omega) (by omega) true).toS ?_ rfl)))))
    exact congrArg (fun b => [pt_i (tv_F b)]) eB.symm
  · have e : (((nI i + nI j) + nI k) - nI j) - nI k = nI i := by
      rw [nI_add, nI_add, pk_sub (by omega), pk_sub (by omega)]
      exact congrArg nI (by omega)
    have eB : B i j k = !B j i k := by
      exact (hs j i k hj hi hk (by omega) (by omega) (by omega)).2
    refine rX7_turnAt_158 (Nat.le_of_ble_eq_true rfl) rfl ((gX7_turnAt_0_3 (nI o) (nI i) (nI j) (nI k) M ((nI_leI (by omega) (by omega)).mpr (by omega)) (fun z => absurd ((nI_leI (by omega) (by omega)).mp z) (by omega))).tr ((gX7_turnAt_34_2 (nI o) (nI i) (nI j) (nI k) (nI j) M (fun z => absurd ((nI_leI (by omega) (by omega)).mp z) (by omega)) ((nI_leI (by omega) (by omega)).mpr (by omega))).tr (((gX7_turnAt_68_1 (nI o) (nI i) (nI j) (nI k) (nI j) (nI k) M).to (by rw [e])).tr ((gX7_turnAt_82_11 (nI o) (nI i) (nI j) (nI k) (nI j) (nI k) (nI i) M (fun z => absurd ((nI_eq (by omega) (by omega)).mp z) (by omega)) rfl (fun z => absurd ((nI_eq (by omega) (by omega)).mp z) (by omega)) (fun z => absurd ((nI_eq (by omega) (by omega)).mp z) (by omega))).tr ((ta_end h (lo := j) (mi := i) (hi := k) (by omega) (by omega) (by omega) false).toS ?_ rfl)))))
    exact congrArg (fun b => [pt_i (tv_F b)]) eB.symm
  · have e : (((nI i + nI j) + nI k) - nI j) - nI i = nI k := by
      rw [nI_add, nI_add, pk_sub (by omega), pk_sub (by omega)]
      exact congrArg nI (by omega)
    have eB : B i j k = B j k i := by
      exact ((hs i j k hi hj hk (by omega) (by omega) (by omega)).1).symm
    refine rX7_turnAt_158 (Nat.le_of_ble_eq_true rfl) rfl ((gX7_turnAt_0_3 (nI o) (nI i) (nI j) (nI k) M ((nI_leI (by omega) (by omega)).mpr (by omega)) (fun z => absurd ((nI_leI (by omega) (by omega)).mp z) (by omega))).tr ((gX7_turnAt_34_1 (nI o) (nI i) (nI j) (nI k) (nI j) M (fun z => absurd ((nI_leI (by omega) (by omega)).mp z) (by omega)) (fun z => absurd ((nI_leI (by omega) (by omega)).mp z) (by omega))).tr (((gX7_turnAt_68_1 (nI o) (nI i) (nI j) (nI k) (nI j) (nI i) M).to (by rw [e])).tr ((gX7_turnAt_82_12 (nI o) (nI i) (nI j) (nI k) (nI j) (nI i) (nI k) M (fun z => absurd ((nI_eq (by omega) (by omega)).mp z) (by omega)) rfl rfl).tr ((ta_end h (lo := j) (mi := k) (hi := i) (by omega) (by omega) (by omega) true).toS ?_ rfl)))))
    exact congrArg (fun b => [pt_i (tv_F b)]) eB.symm
  · have e : (((nI i + nI j) + nI k) - nI k) - nI i = nI j := by
      rw [nI_add, nI_add, pk_sub (by omega), pk_sub (by omega)]
      exact congrArg nI (by omega)
    have eB : B i j k = !B k j i := by
      rw [(hs j i k hj hi hk (by omega) (by omega) (by omega)).2, (hs k j i hk hj hi (by omega) (by omega) (by omega)).1]
    refine rX7_turnAt_158 (Nat.le_of_ble_eq_true rfl) rfl ((gX7_turnAt_0_4 (nI o) (nI i) (nI j) (nI k) M ((nI_leI (by omega) (by omega)).mpr (by omega)) ((nI_leI (by omega) (by omega)).mpr (by omega))).tr ((gX7_turnAt_34_1 (nI o) (nI i) (nI j) (nI k) (nI k) M (fun z => absurd ((nI_leI (by omega) (by omega)).mp z) (by omega)) (fun z => absurd ((nI_leI (by omega) (by omega)).mp z) (by omega))).tr (((gX7_turnAt_68_1 (nI o) (nI i) (nI j) (nI k) (nI k) (nI i) M).to (by rw [e])).tr ((gX7_turnAt_82_14 (nI o) (nI i) (nI j) (nI k) (nI k) (nI i) (nI j) M (fun z => absurd ((nI_eq (by omega) (by omega)).mp z) (by omega)) (fun z => absurd ((nI_eq (by omega) (by omega)).mp z) (by omega)) rfl (fun z => absurd ((nI_eq (by omega) (by omega)).mp z) (by omega))).tr ((ta_end h (lo := k) (mi := j) (hi := i) (by omega) (by omega) (by omega) false).toS ?_ rfl)))))
    exact congrArg (fun b => [pt_i (tv_F b)]) eB.symm
def tq_P (M : pt_M) (x i j k : Int32) (n : Nat) (B : Nat → Nat → Nat → Bool) : Prop := ∃ o a b c, x = nI o ∧ i = nI a ∧ j = nI b ∧ k = nI c ∧ ml_P M o n B ∧ a < n ∧ b < n ∧ c < n ∧ a ≠ b ∧ b ≠ c ∧ a ≠ c
def ta_I (B : Nat → Nat → Nat → Bool) (i j k : Int32) : Int32 := tv_F (B (pt_nt i) (pt_nt j) (pt_nt k))
def tl_I (B : Nat → Nat → Nat → Bool) (i j k : Int32) : Int32 := pt_b (B (pt_nt i) (pt_nt j) (pt_nt k))
theorem tq_of {M : pt_M} {o n a b c : Nat} {B : Nat → Nat → Nat → Bool} (h : ml_P M o n B) (h1 : a < n) (h2 : b < n) (h3 : c < n) (h4 : a ≠ b) (h5 : b ≠ c) (h6 : a ≠ c) : tq_P M (nI o) (nI a) (nI b) (nI c) n B := ⟨o, a, b, c, rfl, rfl, rfl, rfl, h, h1, h2, h3, h4, h5, h6⟩
theorem ta_nI {B : Nat → Nat → Nat → Bool} {a b c : Nat} (h1 : a < 10) (h2 : b < 10) (h3 : c < 10) : ta_I B (nI a) (nI b) (nI c) = tv_F (B a b c) := by
  unfold ta_I
  rw [pt_nt_nI (by omega), pt_nt_nI (by omega), pt_nt_nI (by omega)]
theorem tl_nI {B : Nat → Nat → Nat → Bool} {a b c : Nat} (h1 : a < 10) (h2 : b < 10) (h3 : c < 10) : tl_I B (nI a) (nI b) (nI c) = pt_b (B a b c) := by
  unfold tl_I
  rw [pt_nt_nI (by omega), pt_nt_nI (by omega), pt_nt_nI (by omega)]
theorem dX7_turnAt_t {M : pt_M} {x i j k : Int32} {n : Nat} {B : Nat → Nat → Nat → Bool} (h : tq_P M x i j k n B) : pt_Does yX7_turnAt YX7_turnAt [pt_r 7 0, pt_i x, pt_i i, pt_i j, pt_i k] M (some (pt_i (ta_I B i j k))) M := by
  obtain ⟨o, a, b, c, rfl, rfl, rfl, rfl, h, h1, h2, h3, h4, h5, h6⟩ := h
  have hn := h.2.1
  rw [ta_nI (by omega) (by omega) (by omega)]
  exact dX7_turnAt h h1 h2 h3 h4 h5 h6
theorem rX7_left_18 {vs : List pt_V} {M M' : pt_M} {x : Int32} {L : List (Nat × pt_V)} (hn : narrow .boolean (.int x) = .int x) (hvs : (vs.map pt_w).sum ≤ 5) (hX : M'.2.2.2.2 = M.2.2.2.2) (h : pt_Go YX7_left (0, pt_en 0 vs, [], M) (18, L, [pt_i x], M')) : pt_Does yX7_left YX7_left vs M (some (pt_i x)) M' := pt_does_go tX7_left_ok nX7_left hvs hX ⟨_, by with_unfolding_all rfl, rfl, _, rfl, hn⟩ h
set_option maxRecDepth 100000 in
theorem gX7_left_0_1 (x1 : Int32) (x2 : Int32) (x3 : Int32) (x4 : Int32) (n : Nat) (B : Nat → Nat → Nat → Bool) (M : pt_M) (h1 : tq_P M x1 x2 x3 x4 n B) (h2 : (ta_I B x2 x3 x4) = 1) :
    pt_Go YX7_left (0, [(0, pt_r 7 0), (1, pt_i x1), (2, pt_i x2), (3, pt_i x3), (4, pt_i x4)], [], M)
      (18, [(0, pt_r 7 0), (1, pt_i x1), (2, pt_i x2), (3, pt_i x3), (4, pt_i x4)], [pt_i 1], M) :=
  pt_run_ok tX7_left_ok 10 [.inr (5, some (pt_i (ta_I B x2 x3 x4)), M), .inl false] (P := pt_Cal YX7_left (.invokevirtual 81) [pt_r 7 0, pt_i x1, pt_i x2, pt_i x3, pt_i x4] M (some (pt_i (ta_I B x2 x3 x4))) M ∧ ((ta_I B x2 x3 x4) = 1) ∧ True) (by with_unfolding_all rfl) ⟨(pt_callV (i := 0) kX7_left_81 mX7_turnAt rfl (by decide) rfl (dX7_turnAt_t h1)), h2, trivial⟩
set_option maxRecDepth 100000 in
theorem gX7_left_0_2 (x1 : Int32) (x2 : Int32) (x3 : Int32) (x4 : Int32) (n : Nat) (B : Nat → Nat → Nat → Bool) (M : pt_M) (h1 : tq_P M x1 x2 x3 x4 n B) (h2 : ¬ (ta_I B x2 x3 x4) = 1) :
    pt_Go YX7_left (0, [(0, pt_r 7 0), (1, pt_i x1), (2, pt_i x2), (3, pt_i x3), (4, pt_i x4)], [], M)
      (18, [(0, pt_r 7 0), (1, pt_i x1), (2, pt_i x2), (3, pt_i x3), (4, pt_i x4)], [pt_i 0], M) :=
  pt_run_ok tX7_left_ok 9 [.inr (5, some (pt_i (ta_I B x2 x3 x4)), M), .inl true] (P := pt_Cal YX7_left (.invokevirtual 81) [pt_r 7 0, pt_i x1, pt_i x2, pt_i x3, pt_i x4] M (some (pt_i (ta_I B x2 x3 x4))) M ∧ (¬ (ta_I B x2 x3 x4) = 1) ∧ True) (by with_unfolding_all rfl) ⟨(pt_callV (i := 0) kX7_left_81 mX7_turnAt rfl (by decide) rfl (dX7_turnAt_t h1)), h2, trivial⟩
theorem dX7_left_t {M : pt_M} {x i j k : Int32} {n : Nat} {B : Nat → Nat → Nat → Bool} (h : tq_P M x i j k n B) : pt_Does yX7_left YX7_left [pt_r 7 0, pt_i x, pt_i i, pt_i j, pt_i k] M (some (pt_i (tl_I B i j k))) M := by
  unfold tl_I
  cases hb : B (pt_nt i) (pt_nt j) (pt_nt k)
  · exact rX7_left_18 rfl (Nat.le_of_ble_eq_true rfl) rfl (gX7_left_0_2 x i j k n B M h (by unfold ta_I; rw [hb]; decide))
  · exact rX7_left_18 rfl (Nat.le_of_ble_eq_true rfl) rfl (gX7_left_0_1 x i j k n B M h (by unfold ta_I; rw [hb]; rfl))
/-! set, copy, turnAll -/
def se_M (M : pt_M) (x i j k t : Int32) : pt_M := pt_wA M 32 0 (upd (pt_A M 32 0) (pt_nt (x + (th_I i j k))) t)
theorem rX7_set_16 {vs : List pt_V} {M M' : pt_M} {L : List (Nat × pt_V)} (hvs : (vs.map pt_w).sum ≤ 6) (hX : M'.2.2.2.2 = M.2.2.2.2) (h : pt_Go YX7_set (0, pt_en 0 vs, [], M) (16, L, [], M')) : pt_Does yX7_set YX7_set vs M none M' := pt_does_go tX7_set_ok nX7_set hvs hX ⟨_, by with_unfolding_all rfl, rfl, rfl⟩ h
set_option maxRecDepth 100000 in
theorem gX7_set_0_1 (x1 : Int32) (x2 : Int32) (x3 : Int32) (x4 : Int32) (x5 : Int32)  (M : pt_M) (h1 : pt_in (x1 + (th_I x2 x3 x4)) 960) :
    pt_Go YX7_set (0, [(0, pt_r 7 0), (1, pt_i x1), (2, pt_i x2), (3, pt_i x3), (4, pt_i x4), (5, pt_i x5)], [], M)
      (16, [(0, pt_r 7 0), (1, pt_i x1), (2, pt_i x2), (3, pt_i x3), (4, pt_i x4), (5, pt_i x5)], [], (pt_wA M 32 0 (upd (pt_A M 32 0) (pt_nt (x1 + (th_I x2 x3 x4))) x5))) :=
  pt_run_ok tX7_set_ok 10 [.inr (3, some (pt_i (th_I x2 x3 x4)), M)] (P := pt_Cal YX7_set (.invokestatic 77) [pt_i x2, pt_i x3, pt_i x4] M (some (pt_i (th_I x2 x3 x4))) M ∧ (pt_in (x1 + (th_I x2 x3 x4)) 960) ∧ True) (by with_unfolding_all rfl) ⟨(pt_callS kX7_set_77 mX7_three rfl (dX7_three x2 x3 x4 M)), h1, trivial⟩
theorem dX7_set {M : pt_M} {x i j k t : Int32} (h : pt_in (x + (th_I i j k)) 960) : pt_Does yX7_set YX7_set [pt_r 7 0, pt_i x, pt_i i, pt_i j, pt_i k, pt_i t] M none (se_M M x i j k t) := rX7_set_16 (Nat.le_of_ble_eq_true rfl) rfl (gX7_set_0_1 x i j k t M h)
def cb_F (f : Nat → Int32) (a b N : Nat) : Nat → Int32 := fun p => if b ≤ p ∧ p < b + N then f (p - b + a) else f p
theorem cb_zero (f : Nat → Int32) (a b : Nat) : cb_F f a b 0 = f := by
  funext p
  exact if_neg (by omega)
theorem cb_step {f : Nat → Int32} {a b k : Nat} (h : a = b ∨ a + 120 ≤ b ∨ b + 120 ≤ a) (hk : k < 120) : upd (cb_F f a b k) (b + k) (cb_F f a b k (a + k)) = cb_F f a b (k + 1) := by
  have e : cb_F f a b k (a + k) = f (a + k) := if_neg (by omega)
  rw [e]
  funext p
  unfold upd cb_F
  by_cases hp : p = b + k
  · rw [if_pos hp, if_pos (by omega), show p - b + a = a + k by omega]
  · rw [if_neg hp]
    by_cases h2 : b ≤ p ∧ p < b + k
    · rw [if_pos h2, if_pos (by omega)]
    · rw [if_neg h2, if_neg (by omega)]
def cc_P (x y : Int32) : Prop := ∃ a b, x = nI a ∧ y = nI b ∧ a + 120 ≤ 960 ∧ b + 120 ≤ 960 ∧ (a = b ∨ a + 120 ≤ b ∨ b + 120 ≤ a)
def cc_M (M : pt_M) (x y : Int32) : pt_M := pt_wA M 32 0 (cb_F (pt_A M 32 0) (pt_nt x) (pt_nt y) 120)
theorem rX7_copy_30 {vs : List pt_V} {M M' : pt_M} {L : List (Nat × pt_V)} (hvs : (vs.map pt_w).sum ≤ 4) (hX : M'.2.2.2.2 = M.2.2.2.2) (h : pt_Go YX7_copy (0, pt_en 0 vs, [], M) (30, L, [], M')) : pt_Does yX7_copy YX7_copy vs M none M' := pt_does_go tX7_copy_ok nX7_copy hvs hX ⟨_, by with_unfolding_all rfl, rfl, rfl⟩ h
set_option maxRecDepth 100000 in
theorem gX7_copy_0_1 (x1 : Int32) (x2 : Int32)  (M : pt_M) :
    pt_Go YX7_copy (0, [(0, pt_r 7 0), (1, pt_i x1), (2, pt_i x2)], [], M)
      (2, [(0, pt_r 7 0), (1, pt_i x1), (2, pt_i x2), (3, pt_i 0)], [], M) :=
  pt_run_ok tX7_copy_ok 2 [] (P := True) (by with_unfolding_all rfl) trivial
set_option maxRecDepth 100000 in
theorem gX7_copy_2_1 (l1 : Int32) (l2 : Int32) (l3 : Int32)  (M : pt_M) (h1 : ¬ 120 ≤ l3) (h2 : pt_in (l1 + l3) 960) (h3 : pt_in (l2 + l3) 960) :
    pt_Go YX7_copy (2, [(0, pt_r 7 0), (1, pt_i l1), (2, pt_i l2), (3, pt_i l3)], [], M)
      (2, [(0, pt_r 7 0), (1, pt_i l1), (2, pt_i l2), (3, pt_i (l3 + 1))], [], (pt_wA M 32 0 (upd (pt_A M 32 0) (pt_nt (l2 + l3)) (pt_A M 32 0 (pt_nt (l1 + l3)))))) :=
  pt_run_ok tX7_copy_ok 17 [.inl false] (P := (¬ 120 ≤ l3) ∧ (pt_in (l1 + l3) 960) ∧ (pt_in (l2 + l3) 960) ∧ True) (by with_unfolding_all rfl) ⟨h1, h2, h3, trivial⟩
set_option maxRecDepth 100000 in
theorem gX7_copy_2_2 (l1 : Int32) (l2 : Int32) (l3 : Int32)  (M : pt_M) (h1 : 120 ≤ l3) :
    pt_Go YX7_copy (2, [(0, pt_r 7 0), (1, pt_i l1), (2, pt_i l2), (3, pt_i l3)], [], M)
      (30, [(0, pt_r 7 0), (1, pt_i l1), (2, pt_i l2), (3, pt_i l3)], [], M) :=
  pt_run_ok tX7_copy_ok 3 [.inl true] (P := (120 ≤ l3) ∧ True) (by with_unfolding_all rfl) ⟨h1, trivial⟩
theorem dX7_copy {M : pt_M} {x y : Int32} (h : cc_P x y) : pt_Does yX7_copy YX7_copy [pt_r 7 0, pt_i x, pt_i y] M none (cc_M M x y) := by
  obtain ⟨a, b, rfl, rfl, ha, hb, hab⟩ := h
  unfold cc_M
  rw [pt_nt_nI (by omega), pt_nt_nI (by omega)]
  have K := pt_for0 (Y := YX7_copy) (fun k => (2, [(0, pt_r 7 0), (1, pt_i (nI a)), (2, pt_i (nI b)), (3, pt_i (nI k))], [], pt_wA M 32 0 (cb_F (pt_A M 32 0) a b k))) (n := 120) fun k hk => by
    refine (gX7_copy_2_1 (nI a) (nI b) (nI k) _ (nI_ge (b := 120) hk (by decide)) (by rw [nI_add]; exact pt_in_nI (by omega) (by decide)) (by rw [nI_add]; exact pt_in_nI (by omega) (by decide))).to ?_
    rw [nI_1, nI_add, nI_add, pt_nt_nI (by omega), pt_nt_nI (by omega), pt_wA_wA, pt_A_wA, cb_step hab hk]
  refine rX7_copy_30 (Nat.le_of_ble_eq_true rfl) rfl (((gX7_copy_0_1 (nI a) (nI b) M).toM ?_).tr (K.tr (gX7_copy_2_2 (nI a) (nI b) (nI 120) _ (Int32.le_refl _))))
  rw [cb_zero, pt_wA_self]
def nf_F (f : Nat → Int32) (a N : Nat) : Nat → Int32 := fun p => if a ≤ p ∧ p < a + N then -(f p) else f p
theorem nf_zero (f : Nat → Int32) (a : Nat) : nf_F f a 0 = f := by
  funext p
  exact if_neg (by omega)
theorem nf_step {f : Nat → Int32} {a k : Nat} : upd (nf_F f a k) (a + k) (-(nf_F f a k (a + k))) = nf_F f a (k + 1) := by
  have e : nf_F f a k (a + k) = f (a + k) := if_neg (by omega)
  rw [e]
  funext p
  unfold upd nf_F
  by_cases hp : p = a + k
  · rw [if_pos hp, if_pos (by omega), hp]
  · rw [if_neg hp]
    by_cases h2 : a ≤ p ∧ p < a + k
    · rw [if_pos h2, if_pos (by omega)]
    · rw [if_neg h2, if_neg (by omega)]
def ng_P (x : Int32) : Prop := ∃ a, x = nI a ∧ a + 120 ≤ 960
def ng_M (M : pt_M) (x : Int32) : pt_M := pt_wA M 32 0 (nf_F (pt_A M 32 0) (pt_nt x) 120)
theorem rX7_turnAll_31 {vs : List pt_V} {M M' : pt_M} {L : List (Nat × pt_V)} (hvs : (vs.map pt_w).sum ≤ 3) (hX : M'.2.2.2.2 = M.2.2.2.2) (h : pt_Go YX7_turnAll (0, pt_en 0 vs, [], M) (31, L, [], M')) : pt_Does yX7_turnAll YX7_turnAll vs M none M' := pt_does_go tX7_turnAll_ok nX7_turnAll hvs hX ⟨_, by with_unfolding_all rfl, rfl, rfl⟩ h
set_option maxRecDepth 100000 in
theorem gX7_turnAll_0_1 (x1 : Int32)  (M : pt_M) :
    pt_Go YX7_turnAll (0, [(0, pt_r 7 0), (1, pt_i x1)], [], M)
      (2, [(0, pt_r 7 0), (1, pt_i x1), (2, pt_i 0)], [], M) :=
  pt_run_ok tX7_turnAll_ok 2 [] (P := True) (by with_unfolding_all rfl) trivial
set_option maxRecDepth 100000 in
theorem gX7_turnAll_2_1 (l1 : Int32) (l2 : Int32)  (M : pt_M) (h1 : ¬ 120 ≤ l2) (h2 : pt_in (l1 + l2) 960) :
    pt_Go YX7_turnAll (2, [(0, pt_r 7 0), (1, pt_i l1), (2, pt_i l2)], [], M)
      (2, [(0, pt_r 7 0), (1, pt_i l1), (2, pt_i (l2 + 1))], [], (pt_wA M 32 0 (upd (pt_A M 32 0) (pt_nt (l1 + l2)) (-(pt_A M 32 0 (pt_nt (l1 + l2))))))) :=
  pt_run_ok tX7_turnAll_ok 18 [.inl false] (P := (¬ 120 ≤ l2) ∧ (pt_in (l1 + l2) 960) ∧ (pt_in (l1 + l2) 960) ∧ True) (by with_unfolding_all rfl) ⟨h1, h2, h2, trivial⟩
set_option maxRecDepth 100000 in
theorem gX7_turnAll_2_2 (l1 : Int32) (l2 : Int32)  (M : pt_M) (h1 : 120 ≤ l2) :
    pt_Go YX7_turnAll (2, [(0, pt_r 7 0), (1, pt_i l1), (2, pt_i l2)], [], M)
      (31, [(0, pt_r 7 0), (1, pt_i l1), (2, pt_i l2)], [], M) :=
  pt_run_ok tX7_turnAll_ok 3 [.inl true] (P := (120 ≤ l2) ∧ True) (by with_unfolding_all rfl) ⟨h1, trivial⟩
theorem dX7_turnAll {M : pt_M} {x : Int32} (h : ng_P x) : pt_Does yX7_turnAll YX7_turnAll [pt_r 7 0, pt_i x] M none (ng_M M x) := by
  obtain ⟨a, rfl, ha⟩ := h
  unfold ng_M
  rw [pt_nt_nI (by omega)]
  have K := pt_for0 (Y := YX7_turnAll) (fun k => (2, [(0, pt_r 7 0), (1, pt_i (nI a)), (2, pt_i (nI k))], [], pt_wA M 32 0 (nf_F (pt_A M 32 0) a k))) (n := 120) fun k hk => by
    refine (gX7_turnAll_2_1 (nI a) (nI k) _ (nI_ge (b := 120) hk (by decide)) (by rw [nI_add]; exact pt_in_nI (by omega) (by decide))).to ?_
    rw [nI_1, nI_add, pt_nt_nI (by omega), pt_wA_wA, pt_A_wA, nf_step]
  refine rX7_turnAll_31 (Nat.le_of_ble_eq_true rfl) rfl (((gX7_turnAll_0_1 (nI a) M).toM ?_).tr (K.tr (gX7_turnAll_2_2 (nI a) (nI 120) _ (Int32.le_refl _))))
  rw [nf_zero, pt_wA_self]
/-! slots, sizes, bits -/
theorem rX7_isSlot_15 {vs : List pt_V} {M M' : pt_M} {x : Int32} {L : List (Nat × pt_V)} (hn : narrow .boolean (.int x) = .int x) (hvs : (vs.map pt_w).sum ≤ 1) (hX : M'.2.2.2.2 = M.2.2.2.2) (h : pt_Go YX7_isSlot (0, pt_en 0 vs, [], M) (15, L, [pt_i x], M')) : pt_Does yX7_isSlot YX7_isSlot vs M (some (pt_i x)) M' := pt_does_go tX7_isSlot_ok nX7_isSlot hvs hX ⟨_, by with_unfolding_all rfl, rfl, _, rfl, hn⟩ h
set_option maxRecDepth 100000 in
theorem gX7_isSlot_0_1 (x1 : Int32)  (M : pt_M) (h1 : ¬ x1 < 0) (h2 : ¬ 6 ≤ x1) :
    pt_Go YX7_isSlot (0, [(0, pt_i x1)], [], M)
      (15, [(0, pt_i x1)], [pt_i 1], M) :=
  pt_run_ok tX7_isSlot_ok 7 [.inl false, .inl false] (P := (¬ x1 < 0) ∧ (¬ 6 ≤ x1) ∧ True) (by with_unfolding_all rfl) ⟨h1, h2, trivial⟩
set_option maxRecDepth 100000 in
theorem gX7_isSlot_0_2 (x1 : Int32)  (M : pt_M) (h1 : ¬ x1 < 0) (h2 : 6 ≤ x1) :
    pt_Go YX7_isSlot (0, [(0, pt_i x1)], [], M)
      (15, [(0, pt_i x1)], [pt_i 0], M) :=
  pt_run_ok tX7_isSlot_ok 6 [.inl false, .inl true] (P := (¬ x1 < 0) ∧ (6 ≤ x1) ∧ True) (by with_unfolding_all rfl) ⟨h1, h2, trivial⟩
set_option maxRecDepth 100000 in
theorem gX7_isSlot_0_3 (x1 : Int32)  (M : pt_M) (h1 : x1 < 0) :
    pt_Go YX7_isSlot (0, [(0, pt_i x1)], [], M)
      (15, [(0, pt_i x1)], [pt_i 0], M) :=
  pt_run_ok tX7_isSlot_ok 3 [.inl true] (P := (x1 < 0) ∧ True) (by with_unfolding_all rfl) ⟨h1, trivial⟩
theorem dX7_isSlot_1 {x : Int32} {M : pt_M} (h : sl_P x) : pt_Does yX7_isSlot YX7_isSlot [pt_i x] M (some (pt_i 1)) M := rX7_isSlot_15 rfl (Nat.le_of_ble_eq_true rfl) rfl (gX7_isSlot_0_1 x M h.1 h.2)
theorem dX7_isSlot_0 {x : Int32} {M : pt_M} (h : ¬ sl_P x) : pt_Does yX7_isSlot YX7_isSlot [pt_i x] M (some (pt_i 0)) M := by
  by_cases h1 : x < 0
  · exact rX7_isSlot_15 rfl (Nat.le_of_ble_eq_true rfl) rfl (gX7_isSlot_0_3 x M h1)
  · by_cases h2 : 6 ≤ x
    · exact rX7_isSlot_15 rfl (Nat.le_of_ble_eq_true rfl) rfl (gX7_isSlot_0_2 x M h1 h2)
    · exact absurd ⟨h1, h2⟩ h
def mA_P (M : pt_M) (x : Int32) : Prop := sl_P x ∧ pt_in x 6 ∧ ¬ (pt_A M 31 0 (pt_nt x)) ≤ 0
def mN_P (M : pt_M) (x : Int32) : Prop := ¬ sl_P x ∨ (sl_P x ∧ pt_in x 6 ∧ (pt_A M 31 0 (pt_nt x)) ≤ 0)
theorem rX7_has_21 {vs : List pt_V} {M M' : pt_M} {x : Int32} {L : List (Nat × pt_V)} (hn : narrow .boolean (.int x) = .int x) (hvs : (vs.map pt_w).sum ≤ 2) (hX : M'.2.2.2.2 = M.2.2.2.2) (h : pt_Go YX7_has (0, pt_en 0 vs, [], M) (21, L, [pt_i x], M')) : pt_Does yX7_has YX7_has vs M (some (pt_i x)) M' := pt_does_go tX7_has_ok nX7_has hvs hX ⟨_, by with_unfolding_all rfl, rfl, _, rfl, hn⟩ h
set_option maxRecDepth 100000 in
theorem gX7_has_0_1 (x1 : Int32)  (M : pt_M) (h1 : sl_P x1) (h2 : pt_in x1 6) (h3 : ¬ (pt_A M 31 0 (pt_nt x1)) ≤ 0) :
    pt_Go YX7_has (0, [(0, pt_r 7 0), (1, pt_i x1)], [], M)
      (21, [(0, pt_r 7 0), (1, pt_i x1)], [pt_i 1], M) :=
  pt_run_ok tX7_has_ok 10 [.inr (1, some (pt_i 1), M), .inl false, .inl false] (P := pt_Cal YX7_has (.invokestatic 85) [pt_i x1] M (some (pt_i 1)) M ∧ (¬ (1 : Int32) = (0 : Int32)) ∧ (pt_in x1 6) ∧ (¬ (pt_A M 31 0 (pt_nt x1)) ≤ 0) ∧ True) (by with_unfolding_all rfl) ⟨(pt_callS kX7_has_85 mX7_isSlot rfl (dX7_isSlot_1 h1)), (by decide), h2, h3, trivial⟩
set_option maxRecDepth 100000 in
theorem gX7_has_0_2 (x1 : Int32)  (M : pt_M) (h1 : sl_P x1) (h2 : pt_in x1 6) (h3 : (pt_A M 31 0 (pt_nt x1)) ≤ 0) :
    pt_Go YX7_has (0, [(0, pt_r 7 0), (1, pt_i x1)], [], M)
      (21, [(0, pt_r 7 0), (1, pt_i x1)], [pt_i 0], M) :=
  pt_run_ok tX7_has_ok 9 [.inr (1, some (pt_i 1), M), .inl false, .inl true] (P := pt_Cal YX7_has (.invokestatic 85) [pt_i x1] M (some (pt_i 1)) M ∧ (¬ (1 : Int32) = (0 : Int32)) ∧ (pt_in x1 6) ∧ ((pt_A M 31 0 (pt_nt x1)) ≤ 0) ∧ True) (by with_unfolding_all rfl) ⟨(pt_callS kX7_has_85 mX7_isSlot rfl (dX7_isSlot_1 h1)), (by decide), h2, h3, trivial⟩
set_option maxRecDepth 100000 in
theorem gX7_has_0_3 (x1 : Int32)  (M : pt_M) (h1 : ¬ sl_P x1) :
    pt_Go YX7_has (0, [(0, pt_r 7 0), (1, pt_i x1)], [], M)
      (21, [(0, pt_r 7 0), (1, pt_i x1)], [pt_i 0], M) :=
  pt_run_ok tX7_has_ok 4 [.inr (1, some (pt_i 0), M), .inl true] (P := pt_Cal YX7_has (.invokestatic 85) [pt_i x1] M (some (pt_i 0)) M ∧ ((0 : Int32) = (0 : Int32)) ∧ True) (by with_unfolding_all rfl) ⟨(pt_callS kX7_has_85 mX7_isSlot rfl (dX7_isSlot_0 h1)), (by decide), trivial⟩
theorem dX7_has_1 {x : Int32} {M : pt_M} (h : mA_P M x) : pt_Does yX7_has YX7_has [pt_r 7 0, pt_i x] M (some (pt_i 1)) M := rX7_has_21 rfl (Nat.le_of_ble_eq_true rfl) rfl (gX7_has_0_1 x M h.1 h.2.1 h.2.2)
theorem dX7_has_0 {x : Int32} {M : pt_M} (h : mN_P M x) : pt_Does yX7_has YX7_has [pt_r 7 0, pt_i x] M (some (pt_i 0)) M := by
  rcases h with h | ⟨h1, h2, h3⟩
  · exact rX7_has_21 rfl (Nat.le_of_ble_eq_true rfl) rfl (gX7_has_0_3 x M h)
  · exact rX7_has_21 rfl (Nat.le_of_ble_eq_true rfl) rfl (gX7_has_0_2 x M h1 h2 h3)
def tk_M (M : pt_M) : pt_M := pt_wF (pt_wF M 7 3 0 (pt_F M 7 2 0)) 7 2 0 0
theorem rX7_taken_13 {vs : List pt_V} {M M' : pt_M} {L : List (Nat × pt_V)} (hvs : (vs.map pt_w).sum ≤ 1) (hX : M'.2.2.2.2 = M.2.2.2.2) (h : pt_Go YX7_taken (0, pt_en 0 vs, [], M) (13, L, [], M')) : pt_Does yX7_taken YX7_taken vs M none M' := pt_does_go tX7_taken_ok nX7_taken hvs hX ⟨_, by with_unfolding_all rfl, rfl, rfl⟩ h
set_option maxRecDepth 100000 in
theorem gX7_taken_0_1   (M : pt_M) :
    pt_Go YX7_taken (0, [(0, pt_r 7 0)], [], M)
      (13, [(0, pt_r 7 0)], [], (pt_wF (pt_wF M 7 3 0 (pt_F M 7 2 0)) 7 2 0 0)) :=
  pt_run_ok tX7_taken_ok 7 [] (P := True) (by with_unfolding_all rfl) trivial
theorem dX7_taken (M : pt_M) : pt_Does yX7_taken YX7_taken [pt_r 7 0] M none (tk_M M) := rX7_taken_13 (Nat.le_of_ble_eq_true rfl) rfl (gX7_taken_0_1 M)
theorem rX7_threesOf_12 {vs : List pt_V} {M M' : pt_M} {x : Int32} {L : List (Nat × pt_V)} (hvs : (vs.map pt_w).sum ≤ 1) (hX : M'.2.2.2.2 = M.2.2.2.2) (h : pt_Go YX7_threesOf (0, pt_en 0 vs, [], M) (12, L, [pt_i x], M')) : pt_Does yX7_threesOf YX7_threesOf vs M (some (pt_i x)) M' := pt_does_go tX7_threesOf_ok nX7_threesOf hvs hX ⟨_, by with_unfolding_all rfl, rfl, _, rfl, rfl⟩ h
set_option maxRecDepth 100000 in
theorem gX7_threesOf_0_1 (x1 : Int32)  (M : pt_M) :
    pt_Go YX7_threesOf (0, [(0, pt_i x1)], [], M)
      (12, [(0, pt_i x1)], [pt_i (((x1 * (x1 - 1)) * (x1 - 2)) / 6)], M) :=
  pt_run_ok tX7_threesOf_ok 11 [] (P := (¬ (6 : Int32) = 0) ∧ True) (by with_unfolding_all rfl) ⟨(by decide), trivial⟩
theorem dX7_threesOf (x : Int32) (M : pt_M) : pt_Does yX7_threesOf YX7_threesOf [pt_i x] M (some (pt_i (to_F x))) M := rX7_threesOf_12 (Nat.le_of_ble_eq_true rfl) rfl (gX7_threesOf_0_1 x M)
theorem rX7_bits_25 {vs : List pt_V} {M M' : pt_M} {x : Int32} {L : List (Nat × pt_V)} (hvs : (vs.map pt_w).sum ≤ 3) (hX : M'.2.2.2.2 = M.2.2.2.2) (h : pt_Go YX7_bits (0, pt_en 0 vs, [], M) (25, L, [pt_i x], M')) : pt_Does yX7_bits YX7_bits vs M (some (pt_i x)) M' := pt_does_go tX7_bits_ok nX7_bits hvs hX ⟨_, by with_unfolding_all rfl, rfl, _, rfl, rfl⟩ h
set_option maxRecDepth 100000 in
theorem gX7_bits_0_1 (x1 : Int32)  (M : pt_M) :
    pt_Go YX7_bits (0, [(0, pt_i x1)], [], M)
      (4, [(0, pt_i x1), (1, pt_i 0), (2, pt_i 0)], [], M) :=
  pt_run_ok tX7_bits_ok 4 [] (P := True) (by with_unfolding_all rfl) trivial
set_option maxRecDepth 100000 in
theorem gX7_bits_4_1 (l0 : Int32) (l1 : Int32) (l2 : Int32)  (M : pt_M) (h1 : ¬ 10 ≤ l2) :
    pt_Go YX7_bits (4, [(0, pt_i l0), (1, pt_i l1), (2, pt_i l2)], [], M)
      (4, [(0, pt_i l0), (1, pt_i (l1 + ((l0 >>> (l2 &&& 31)) &&& 1))), (2, pt_i (l2 + 1))], [], M) :=
  pt_run_ok tX7_bits_ok 13 [.inl false] (P := (¬ 10 ≤ l2) ∧ True) (by with_unfolding_all rfl) ⟨h1, trivial⟩
set_option maxRecDepth 100000 in
theorem gX7_bits_4_2 (l0 : Int32) (l1 : Int32) (l2 : Int32)  (M : pt_M) (h1 : 10 ≤ l2) :
    pt_Go YX7_bits (4, [(0, pt_i l0), (1, pt_i l1), (2, pt_i l2)], [], M)
      (25, [(0, pt_i l0), (1, pt_i l1), (2, pt_i l2)], [pt_i l1], M) :=
  pt_run_ok tX7_bits_ok 4 [.inl true] (P := (10 ≤ l2) ∧ True) (by with_unfolding_all rfl) ⟨h1, trivial⟩
set_option maxRecDepth 100000 in
theorem bi_tab : ((List.range 1024).all fun m => decide (ct_N (fun k => m.testBit k) 10 = pc_F m)) = true := by decide +kernel
theorem dX7_bits_t {x : Int32} {M : pt_M} (h : st_P x 0) : pt_Does yX7_bits YX7_bits [pt_i x] M (some (pt_i (nI (pc_F (pt_nt x))))) M := by
  obtain ⟨m, rfl, hm⟩ := h
  rw [pt_nt_nI (by omega), ← of_decide_eq_true (pt_all bi_tab hm)]
  have K := pt_for0 (Y := YX7_bits) (fun k => (4, [(0, pt_i (nI m)), (1, pt_i (nI (ct_N (fun k => m.testBit k) k))), (2, pt_i (nI k))], [], M)) (n := 10) fun k hk => by
    refine (gX7_bits_4_1 (nI m) _ (nI k) M (nI_ge (b := 10) hk (by decide))).to ?_
    have e : nI (ct_N (fun k => m.testBit k) k) + ((nI m >>> (nI k &&& 31)) &&& 1) = nI (ct_N (fun k => m.testBit k) (k + 1)) := by
      rw [pt_bit (by omega) (by omega)]
      show _ = nI (ct_N (fun k => m.testBit k) k + if m.testBit k then 1 else 0)
      cases m.testBit k
      · exact nI_add _ 0
      · exact nI_add _ 1
    rw [nI_1, e]
  exact rX7_bits_25 (Nat.le_of_ble_eq_true rfl) rfl ((gX7_bits_0_1 (nI m) M).tr (K.tr (gX7_bits_4_2 (nI m) _ (nI 10) M (Int32.le_refl _))))
