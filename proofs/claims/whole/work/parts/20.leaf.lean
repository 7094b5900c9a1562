/-! THE SMALL METHODS -/
theorem rX6_isSlot_15 {vs : List pt_V} {M M' : pt_M} {x : Int32} {L : List (Nat × pt_V)} (hn : narrow .boolean (.int x) = .int x) (hvs : (vs.map pt_w).sum ≤ 1) (hX : M'.2.2.2.2 = M.2.2.2.2) (h : pt_Go YX6_isSlot (0, pt_en 0 vs, [], M) (15, L, [pt_i x], M')) : pt_Does yX6_isSlot YX6_isSlot vs M (some (pt_i x)) M' := pt_does_go tX6_isSlot_ok nX6_isSlot hvs hX ⟨_, by with_unfolding_all rfl, rfl, _, rfl, hn⟩ h
set_option maxRecDepth 100000 in
theorem gX6_isSlot_0_1 (x1 : Int32)  (M : pt_M) (h1 : ¬ x1 < 0) (h2 : ¬ 6 ≤ x1) :
    pt_Go YX6_isSlot (0, [(0, pt_i x1)], [], M)
      (15, [(0, pt_i x1)], [pt_i 1], M) :=
  pt_run_ok tX6_isSlot_ok 7 [.inl false, .inl false] (P := (¬ x1 < 0) ∧ (¬ 6 ≤ x1) ∧ True) (by with_unfolding_all rfl) ⟨h1, h2, trivial⟩
set_option maxRecDepth 100000 in
theorem gX6_isSlot_0_2 (x1 : Int32)  (M : pt_M) (h1 : ¬ x1 < 0) (h2 : 6 ≤ x1) :
    pt_Go YX6_isSlot (0, [(0, pt_i x1)], [], M)
      (15, [(0, pt_i x1)], [pt_i 0], M) :=
  pt_run_ok tX6_isSlot_ok 6 [.inl false, .inl true] (P := (¬ x1 < 0) ∧ (6 ≤ x1) ∧ True) (by with_unfolding_all rfl) ⟨h1, h2, trivial⟩
set_option maxRecDepth 100000 in
theorem gX6_isSlot_0_3 (x1 : Int32)  (M : pt_M) (h1 : x1 < 0) :
    pt_Go YX6_isSlot (0, [(0, pt_i x1)], [], M)
      (15, [(0, pt_i x1)], [pt_i 0], M) :=
  pt_run_ok tX6_isSlot_ok 3 [.inl true] (P := (x1 < 0) ∧ True) (by with_unfolding_all rfl) ⟨h1, trivial⟩
theorem rX6_isSize_16 {vs : List pt_V} {M M' : pt_M} {x : Int32} {L : List (Nat × pt_V)} (hn : narrow .boolean (.int x) = .int x) (hvs : (vs.map pt_w).sum ≤ 1) (hX : M'.2.2.2.2 = M.2.2.2.2) (h : pt_Go YX6_isSize (0, pt_en 0 vs, [], M) (16, L, [pt_i x], M')) : pt_Does yX6_isSize YX6_isSize vs M (some (pt_i x)) M' := pt_does_go tX6_isSize_ok nX6_isSize hvs hX ⟨_, by with_unfolding_all rfl, rfl, _, rfl, hn⟩ h
set_option maxRecDepth 100000 in
theorem gX6_isSize_0_1 (x1 : Int32)  (M : pt_M) (h1 : ¬ x1 < 3) (h2 : ¬ 10 < x1) :
    pt_Go YX6_isSize (0, [(0, pt_i x1)], [], M)
      (16, [(0, pt_i x1)], [pt_i 1], M) :=
  pt_run_ok tX6_isSize_ok 8 [.inl false, .inl false] (P := (¬ x1 < 3) ∧ (¬ 10 < x1) ∧ True) (by with_unfolding_all rfl) ⟨h1, h2, trivial⟩
set_option maxRecDepth 100000 in
theorem gX6_isSize_0_2 (x1 : Int32)  (M : pt_M) (h1 : ¬ x1 < 3) (h2 : 10 < x1) :
    pt_Go YX6_isSize (0, [(0, pt_i x1)], [], M)
      (16, [(0, pt_i x1)], [pt_i 0], M) :=
  pt_run_ok tX6_isSize_ok 7 [.inl false, .inl true] (P := (¬ x1 < 3) ∧ (10 < x1) ∧ True) (by with_unfolding_all rfl) ⟨h1, h2, trivial⟩
set_option maxRecDepth 100000 in
theorem gX6_isSize_0_3 (x1 : Int32)  (M : pt_M) (h1 : x1 < 3) :
    pt_Go YX6_isSize (0, [(0, pt_i x1)], [], M)
      (16, [(0, pt_i x1)], [pt_i 0], M) :=
  pt_run_ok tX6_isSize_ok 4 [.inl true] (P := (x1 < 3) ∧ True) (by with_unfolding_all rfl) ⟨h1, trivial⟩
theorem rX6_turnsOf_12 {vs : List pt_V} {M M' : pt_M} {x : Int32} {L : List (Nat × pt_V)} (hvs : (vs.map pt_w).sum ≤ 1) (hX : M'.2.2.2.2 = M.2.2.2.2) (h : pt_Go YX6_turnsOf (0, pt_en 0 vs, [], M) (12, L, [pt_i x], M')) : pt_Does yX6_turnsOf YX6_turnsOf vs M (some (pt_i x)) M' := pt_does_go tX6_turnsOf_ok nX6_turnsOf hvs hX ⟨_, by with_unfolding_all rfl, rfl, _, rfl, rfl⟩ h
set_option maxRecDepth 100000 in
theorem gX6_turnsOf_0_1 (x1 : Int32)  (M : pt_M) :
    pt_Go YX6_turnsOf (0, [(0, pt_i x1)], [], M)
      (12, [(0, pt_i x1)], [pt_i (((x1 * (x1 - 1)) * (x1 - 2)) / 6)], M) :=
  pt_run_ok tX6_turnsOf_ok 11 [] (P := (¬ (6 : Int32) = 0) ∧ True) (by with_unfolding_all rfl) ⟨(by decide), trivial⟩
theorem rX6_swapsOf_7 {vs : List pt_V} {M M' : pt_M} {x : Int32} {L : List (Nat × pt_V)} (hvs : (vs.map pt_w).sum ≤ 1) (hX : M'.2.2.2.2 = M.2.2.2.2) (h : pt_Go YX6_swapsOf (0, pt_en 0 vs, [], M) (7, L, [pt_i x], M')) : pt_Does yX6_swapsOf YX6_swapsOf vs M (some (pt_i x)) M' := pt_does_go tX6_swapsOf_ok nX6_swapsOf hvs hX ⟨_, by with_unfolding_all rfl, rfl, _, rfl, rfl⟩ h
set_option maxRecDepth 100000 in
theorem gX6_swapsOf_0_1 (x1 : Int32)  (M : pt_M) :
    pt_Go YX6_swapsOf (0, [(0, pt_i x1)], [], M)
      (7, [(0, pt_i x1)], [pt_i ((x1 * (x1 - 1)) / 2)], M) :=
  pt_run_ok tX6_swapsOf_ok 7 [] (P := (¬ (2 : Int32) = 0) ∧ True) (by with_unfolding_all rfl) ⟨(by decide), trivial⟩
theorem rX4_hasPoint_17 {vs : List pt_V} {M M' : pt_M} {x : Int32} {L : List (Nat × pt_V)} (hn : narrow .boolean (.int x) = .int x) (hvs : (vs.map pt_w).sum ≤ 2) (hX : M'.2.2.2.2 = M.2.2.2.2) (h : pt_Go YX4_hasPoint (0, pt_en 0 vs, [], M) (17, L, [pt_i x], M')) : pt_Does yX4_hasPoint YX4_hasPoint vs M (some (pt_i x)) M' := pt_does_go tX4_hasPoint_ok nX4_hasPoint hvs hX ⟨_, by with_unfolding_all rfl, rfl, _, rfl, hn⟩ h
set_option maxRecDepth 100000 in
theorem gX4_hasPoint_0_1 (t : Nat) (x1 : Int32)  (M : pt_M) (h1 : ¬ x1 < 0) (h2 : t < 7) (h3 : ¬ (pt_F M 3 0 t) ≤ x1) :
    pt_Go YX4_hasPoint (0, [(0, pt_r 3 t), (1, pt_i x1)], [], M)
      (17, [(0, pt_r 3 t), (1, pt_i x1)], [pt_i 1], M) :=
  pt_run_ok tX4_hasPoint_ok 8 [.inl false, .inl false] (P := (¬ x1 < 0) ∧ (t < 7) ∧ (¬ (pt_F M 3 0 t) ≤ x1) ∧ True) (by with_unfolding_all rfl) ⟨h1, h2, h3, trivial⟩
set_option maxRecDepth 100000 in
theorem gX4_hasPoint_0_2 (t : Nat) (x1 : Int32)  (M : pt_M) (h1 : ¬ x1 < 0) (h2 : t < 7) (h3 : (pt_F M 3 0 t) ≤ x1) :
    pt_Go YX4_hasPoint (0, [(0, pt_r 3 t), (1, pt_i x1)], [], M)
      (17, [(0, pt_r 3 t), (1, pt_i x1)], [pt_i 0], M) :=
  pt_run_ok tX4_hasPoint_ok 7 [.inl false, .inl true] (P := (¬ x1 < 0) ∧ (t < 7) ∧ ((pt_F M 3 0 t) ≤ x1) ∧ True) (by with_unfolding_all rfl) ⟨h1, h2, h3, trivial⟩
set_option maxRecDepth 100000 in
theorem gX4_hasPoint_0_3 (t : Nat) (x1 : Int32)  (M : pt_M) (h1 : x1 < 0) :
    pt_Go YX4_hasPoint (0, [(0, pt_r 3 t), (1, pt_i x1)], [], M)
      (17, [(0, pt_r 3 t), (1, pt_i x1)], [pt_i 0], M) :=
  pt_run_ok tX4_hasPoint_ok 3 [.inl true] (P := (x1 < 0) ∧ True) (by with_unfolding_all rfl) ⟨h1, trivial⟩
theorem rX2_isIn_14 {vs : List pt_V} {M M' : pt_M} {x : Int32} {L : List (Nat × pt_V)} (hn : narrow .boolean (.int x) = .int x) (hvs : (vs.map pt_w).sum ≤ 2) (hX : M'.2.2.2.2 = M.2.2.2.2) (h : pt_Go YX2_isIn (0, pt_en 0 vs, [], M) (14, L, [pt_i x], M')) : pt_Does yX2_isIn YX2_isIn vs M (some (pt_i x)) M' := pt_does_go tX2_isIn_ok nX2_isIn hvs hX ⟨_, by with_unfolding_all rfl, rfl, _, rfl, hn⟩ h
set_option maxRecDepth 100000 in
theorem gX2_isIn_0_1 (x1 : Int32) (x2 : Int32)  (M : pt_M) (h1 : ((x1 >>> (x2 &&& 31)) &&& 1) = 1) :
    pt_Go YX2_isIn (0, [(0, pt_i x1), (1, pt_i x2)], [], M)
      (14, [(0, pt_i x1), (1, pt_i x2)], [pt_i 1], M) :=
  pt_run_ok tX2_isIn_ok 9 [.inl false] (P := (((x1 >>> (x2 &&& 31)) &&& 1) = 1) ∧ True) (by with_unfolding_all rfl) ⟨h1, trivial⟩
set_option maxRecDepth 100000 in
theorem gX2_isIn_0_2 (x1 : Int32) (x2 : Int32)  (M : pt_M) (h1 : ¬ ((x1 >>> (x2 &&& 31)) &&& 1) = 1) :
    pt_Go YX2_isIn (0, [(0, pt_i x1), (1, pt_i x2)], [], M)
      (14, [(0, pt_i x1), (1, pt_i x2)], [pt_i 0], M) :=
  pt_run_ok tX2_isIn_ok 8 [.inl true] (P := (¬ ((x1 >>> (x2 &&& 31)) &&& 1) = 1) ∧ True) (by with_unfolding_all rfl) ⟨h1, trivial⟩
theorem rX4_leftOf_30 {vs : List pt_V} {M M' : pt_M} {x : Int32} {L : List (Nat × pt_V)} (hvs : (vs.map pt_w).sum ≤ 4) (hX : M'.2.2.2.2 = M.2.2.2.2) (h : pt_Go YX4_leftOf (0, pt_en 0 vs, [], M) (30, L, [pt_i x], M')) : pt_Does yX4_leftOf YX4_leftOf vs M (some (pt_i x)) M' := pt_does_go tX4_leftOf_ok nX4_leftOf hvs hX ⟨_, by with_unfolding_all rfl, rfl, _, rfl, rfl⟩ h
set_option maxRecDepth 100000 in
theorem gX4_leftOf_0_1 (t : Nat) (x1 : Int32) (x2 : Int32)  (M : pt_M) (h1 : ¬ ((x1 * 10) + x2) < 0) (h2 : t < 7) (h3 : ¬ (nI 100) ≤ ((x1 * 10) + x2)) :
    pt_Go YX4_leftOf (0, [(0, pt_r 3 t), (1, pt_i x1), (2, pt_i x2)], [], M)
      (30, [(0, pt_r 3 t), (1, pt_i x1), (2, pt_i x2), (3, pt_i ((x1 * 10) + x2))], [pt_i (pt_A M 11 t (pt_nt ((x1 * 10) + x2)))], M) :=
  pt_run_ok tX4_leftOf_ok 18 [.inl false, .inl false] (P := (¬ ((x1 * 10) + x2) < 0) ∧ (t < 7) ∧ (t < 7) ∧ (¬ (nI 100) ≤ ((x1 * 10) + x2)) ∧ (t < 7) ∧ ((pt_in ((x1 * 10) + x2) 100) ∧ (t < 7)) ∧ True) (by with_unfolding_all rfl) ⟨h1, h2, h2, h3, h2, ⟨(pt_in_of h1 h3 (by decide)), h2⟩, trivial⟩
set_option maxRecDepth 100000 in
theorem gX4_leftOf_0_2 (t : Nat) (x1 : Int32) (x2 : Int32)  (M : pt_M) (h1 : ¬ ((x1 * 10) + x2) < 0) (h2 : t < 7) (h3 : (nI 100) ≤ ((x1 * 10) + x2)) :
    pt_Go YX4_leftOf (0, [(0, pt_r 3 t), (1, pt_i x1), (2, pt_i x2)], [], M)
      (30, [(0, pt_r 3 t), (1, pt_i x1), (2, pt_i x2), (3, pt_i ((x1 * 10) + x2))], [pt_i 0], M) :=
  pt_run_ok tX4_leftOf_ok 14 [.inl false, .inl true] (P := (¬ ((x1 * 10) + x2) < 0) ∧ (t < 7) ∧ (t < 7) ∧ ((nI 100) ≤ ((x1 * 10) + x2)) ∧ True) (by with_unfolding_all rfl) ⟨h1, h2, h2, h3, trivial⟩
set_option maxRecDepth 100000 in
theorem gX4_leftOf_0_3 (t : Nat) (x1 : Int32) (x2 : Int32)  (M : pt_M) (h1 : ((x1 * 10) + x2) < 0) :
    pt_Go YX4_leftOf (0, [(0, pt_r 3 t), (1, pt_i x1), (2, pt_i x2)], [], M)
      (30, [(0, pt_r 3 t), (1, pt_i x1), (2, pt_i x2), (3, pt_i ((x1 * 10) + x2))], [pt_i 0], M) :=
  pt_run_ok tX4_leftOf_ok 9 [.inl true] (P := (((x1 * 10) + x2) < 0) ∧ True) (by with_unfolding_all rfl) ⟨h1, trivial⟩
theorem rX4_isLeft_43 {vs : List pt_V} {M M' : pt_M} {x : Int32} {L : List (Nat × pt_V)} (hn : narrow .boolean (.int x) = .int x) (hvs : (vs.map pt_w).sum ≤ 5) (hX : M'.2.2.2.2 = M.2.2.2.2) (h : pt_Go YX4_isLeft (0, pt_en 0 vs, [], M) (43, L, [pt_i x], M')) : pt_Does yX4_isLeft YX4_isLeft vs M (some (pt_i x)) M' := pt_does_go tX4_isLeft_ok nX4_isLeft hvs hX ⟨_, by with_unfolding_all rfl, rfl, _, rfl, hn⟩ h
set_option maxRecDepth 100000 in
theorem gX4_isLeft_0_1 (t : Nat) (x1 : Int32) (x2 : Int32) (x3 : Int32)  (M : pt_M) (h1 : ¬ ((x1 * 10) + x2) < 0) (h2 : t < 7) (h3 : ¬ (nI 100) ≤ ((x1 * 10) + x2)) (h4 : (((pt_A M 11 t (pt_nt ((x1 * 10) + x2))) >>> (x3 &&& 31)) &&& 1) = 1) :
    pt_Go YX4_isLeft (0, [(0, pt_r 3 t), (1, pt_i x1), (2, pt_i x2), (3, pt_i x3)], [], M)
      (43, [(0, pt_r 3 t), (1, pt_i x1), (2, pt_i x2), (3, pt_i x3), (4, pt_i ((x1 * 10) + x2))], [pt_i 1], M) :=
  pt_run_ok tX4_isLeft_ok 25 [.inl false, .inl false, .inl false] (P := (¬ ((x1 * 10) + x2) < 0) ∧ (t < 7) ∧ (t < 7) ∧ (¬ (nI 100) ≤ ((x1 * 10) + x2)) ∧ (t < 7) ∧ ((pt_in ((x1 * 10) + x2) 100) ∧ (t < 7)) ∧ ((((pt_A M 11 t (pt_nt ((x1 * 10) + x2))) >>> (x3 &&& 31)) &&& 1) = 1) ∧ True) (by with_unfolding_all rfl) ⟨h1, h2, h2, h3, h2, ⟨(pt_in_of h1 h3 (by decide)), h2⟩, h4, trivial⟩
set_option maxRecDepth 100000 in
theorem gX4_isLeft_0_2 (t : Nat) (x1 : Int32) (x2 : Int32) (x3 : Int32)  (M : pt_M) (h1 : ¬ ((x1 * 10) + x2) < 0) (h2 : t < 7) (h3 : ¬ (nI 100) ≤ ((x1 * 10) + x2)) (h4 : ¬ (((pt_A M 11 t (pt_nt ((x1 * 10) + x2))) >>> (x3 &&& 31)) &&& 1) = 1) :
    pt_Go YX4_isLeft (0, [(0, pt_r 3 t), (1, pt_i x1), (2, pt_i x2), (3, pt_i x3)], [], M)
      (43, [(0, pt_r 3 t), (1, pt_i x1), (2, pt_i x2), (3, pt_i x3), (4, pt_i ((x1 * 10) + x2))], [pt_i 0], M) :=
  pt_run_ok tX4_isLeft_ok 24 [.inl false, .inl false, .inl true] (P := (¬ ((x1 * 10) + x2) < 0) ∧ (t < 7) ∧ (t < 7) ∧ (¬ (nI 100) ≤ ((x1 * 10) + x2)) ∧ (t < 7) ∧ ((pt_in ((x1 * 10) + x2) 100) ∧ (t < 7)) ∧ (¬ (((pt_A M 11 t (pt_nt ((x1 * 10) + x2))) >>> (x3 &&& 31)) &&& 1) = 1) ∧ True) (by with_unfolding_all rfl) ⟨h1, h2, h2, h3, h2, ⟨(pt_in_of h1 h3 (by decide)), h2⟩, h4, trivial⟩
set_option maxRecDepth 100000 in
theorem gX4_isLeft_0_3 (t : Nat) (x1 : Int32) (x2 : Int32) (x3 : Int32)  (M : pt_M) (h1 : ¬ ((x1 * 10) + x2) < 0) (h2 : t < 7) (h3 : (nI 100) ≤ ((x1 * 10) + x2)) :
    pt_Go YX4_isLeft (0, [(0, pt_r 3 t), (1, pt_i x1), (2, pt_i x2), (3, pt_i x3)], [], M)
      (43, [(0, pt_r 3 t), (1, pt_i x1), (2, pt_i x2), (3, pt_i x3), (4, pt_i ((x1 * 10) + x2))], [pt_i 0], M) :=
  pt_run_ok tX4_isLeft_ok 14 [.inl false, .inl true] (P := (¬ ((x1 * 10) + x2) < 0) ∧ (t < 7) ∧ (t < 7) ∧ ((nI 100) ≤ ((x1 * 10) + x2)) ∧ True) (by with_unfolding_all rfl) ⟨h1, h2, h2, h3, trivial⟩
set_option maxRecDepth 100000 in
theorem gX4_isLeft_0_4 (t : Nat) (x1 : Int32) (x2 : Int32) (x3 : Int32)  (M : pt_M) (h1 : ((x1 * 10) + x2) < 0) :
    pt_Go YX4_isLeft (0, [(0, pt_r 3 t), (1, pt_i x1), (2, pt_i x2), (3, pt_i x3)], [], M)
      (43, [(0, pt_r 3 t), (1, pt_i x1), (2, pt_i x2), (3, pt_i x3), (4, pt_i ((x1 * 10) + x2))], [pt_i 0], M) :=
  pt_run_ok tX4_isLeft_ok 9 [.inl true] (P := (((x1 * 10) + x2) < 0) ∧ True) (by with_unfolding_all rfl) ⟨h1, trivial⟩
theorem rX4_everyPoint_8 {vs : List pt_V} {M M' : pt_M} {x : Int32} {L : List (Nat × pt_V)} (hvs : (vs.map pt_w).sum ≤ 1) (hX : M'.2.2.2.2 = M.2.2.2.2) (h : pt_Go YX4_everyPoint (0, pt_en 0 vs, [], M) (8, L, [pt_i x], M')) : pt_Does yX4_everyPoint YX4_everyPoint vs M (some (pt_i x)) M' := pt_does_go tX4_everyPoint_ok nX4_everyPoint hvs hX ⟨_, by with_unfolding_all rfl, rfl, _, rfl, rfl⟩ h
set_option maxRecDepth 100000 in
theorem gX4_everyPoint_0_1 (t : Nat)  (M : pt_M) (h1 : t < 7) :
    pt_Go YX4_everyPoint (0, [(0, pt_r 3 t)], [], M)
      (8, [(0, pt_r 3 t)], [pt_i (((1 : Int32) <<< ((pt_F M 3 0 t) &&& 31)) - 1)], M) :=
  pt_run_ok tX4_everyPoint_ok 6 [] (P := (t < 7) ∧ True) (by with_unfolding_all rfl) ⟨h1, trivial⟩
theorem rX4_forget_11 {vs : List pt_V} {M M' : pt_M} {L : List (Nat × pt_V)} (hvs : (vs.map pt_w).sum ≤ 1) (hX : M'.2.2.2.2 = M.2.2.2.2) (h : pt_Go YX4_forget (0, pt_en 0 vs, [], M) (11, L, [], M')) : pt_Does yX4_forget YX4_forget vs M none M' := pt_does_go tX4_forget_ok nX4_forget hvs hX ⟨_, by with_unfolding_all rfl, rfl, rfl⟩ h
set_option maxRecDepth 100000 in
theorem gX4_forget_0_1 (t : Nat)  (M : pt_M) (h1 : t < 7) :
    pt_Go YX4_forget (0, [(0, pt_r 3 t)], [], M)
      (11, [(0, pt_r 3 t)], [], (pt_wF (pt_wF M 3 2 t (-2)) 3 3 t 0)) :=
  pt_run_ok tX4_forget_ok 6 [] (P := (t < 7) ∧ (((0 : Int32) = 0 ∨ (0 : Int32) = 1) ∧ (t < 7)) ∧ True) (by with_unfolding_all rfl) ⟨h1, ⟨(by decide), h1⟩, trivial⟩
theorem rX4_putOne_23 {vs : List pt_V} {M M' : pt_M} {L : List (Nat × pt_V)} (hvs : (vs.map pt_w).sum ≤ 6) (hX : M'.2.2.2.2 = M.2.2.2.2) (h : pt_Go YX4_putOne (0, pt_en 0 vs, [], M) (23, L, [], M')) : pt_Does yX4_putOne YX4_putOne vs M none M' := pt_does_go tX4_putOne_ok nX4_putOne hvs hX ⟨_, by with_unfolding_all rfl, rfl, rfl⟩ h
theorem rX4_putOne_60 {vs : List pt_V} {M M' : pt_M} {L : List (Nat × pt_V)} (hvs : (vs.map pt_w).sum ≤ 6) (hX : M'.2.2.2.2 = M.2.2.2.2) (h : pt_Go YX4_putOne (0, pt_en 0 vs, [], M) (60, L, [], M')) : pt_Does yX4_putOne YX4_putOne vs M none M' := pt_does_go tX4_putOne_ok nX4_putOne hvs hX ⟨_, by with_unfolding_all rfl, rfl, rfl⟩ h
set_option maxRecDepth 100000 in
theorem gX4_putOne_0_1 (t : Nat) (x1 : Int32) (x2 : Int32) (x3 : Int32) (x4 : Int32)  (M : pt_M) (h1 : ¬ ((x1 * 10) + x2) < 0) (h2 : t < 7) (h3 : ¬ ((x1 * 10) + x2) < (nI 100)) :
    pt_Go YX4_putOne (0, [(0, pt_r 3 t), (1, pt_i x1), (2, pt_i x2), (3, pt_i x3), (4, pt_i x4)], [], M)
      (23, [(0, pt_r 3 t), (1, pt_i x1), (2, pt_i x2), (3, pt_i x3), (4, pt_i x4), (5, pt_i ((x1 * 10) + x2))], [], M) :=
  pt_run_ok tX4_putOne_ok 13 [.inl false, .inl false] (P := (¬ ((x1 * 10) + x2) < 0) ∧ (t < 7) ∧ (t < 7) ∧ (¬ ((x1 * 10) + x2) < (nI 100)) ∧ True) (by with_unfolding_all rfl) ⟨h1, h2, h2, h3, trivial⟩
set_option maxRecDepth 100000 in
theorem gX4_putOne_0_2 (t : Nat) (x1 : Int32) (x2 : Int32) (x3 : Int32) (x4 : Int32)  (M : pt_M) (h1 : ¬ ((x1 * 10) + x2) < 0) (h2 : t < 7) (h3 : ((x1 * 10) + x2) < (nI 100)) (h4 : ¬ x4 = 0) (h5 : pt_in ((x1 * 10) + x2) 100) :
    pt_Go YX4_putOne (0, [(0, pt_r 3 t), (1, pt_i x1), (2, pt_i x2), (3, pt_i x3), (4, pt_i x4)], [], M)
      (60, [(0, pt_r 3 t), (1, pt_i x1), (2, pt_i x2), (3, pt_i x3), (4, pt_i x4), (5, pt_i ((x1 * 10) + x2))], [], (pt_wA M 11 t (upd (pt_A M 11 t) (pt_nt ((x1 * 10) + x2)) ((pt_A M 11 t (pt_nt ((x1 * 10) + x2))) ||| ((1 : Int32) <<< (x3 &&& 31)))))) :=
  pt_run_ok tX4_putOne_ok 26 [.inl false, .inl true, .inl false] (P := (¬ ((x1 * 10) + x2) < 0) ∧ (t < 7) ∧ (t < 7) ∧ (((x1 * 10) + x2) < (nI 100)) ∧ (¬ x4 = 0) ∧ (t < 7) ∧ ((pt_in ((x1 * 10) + x2) 100) ∧ (t < 7)) ∧ ((pt_in ((x1 * 10) + x2) 100) ∧ (t < 7)) ∧ True) (by with_unfolding_all rfl) ⟨h1, h2, h2, h3, h4, h2, ⟨h5, h2⟩, ⟨h5, h2⟩, trivial⟩
set_option maxRecDepth 100000 in
theorem gX4_putOne_0_3 (t : Nat) (x1 : Int32) (x2 : Int32) (x3 : Int32) (x4 : Int32)  (M : pt_M) (h1 : ¬ ((x1 * 10) + x2) < 0) (h2 : t < 7) (h3 : ((x1 * 10) + x2) < (nI 100)) (h4 : x4 = 0) (h5 : pt_in ((x1 * 10) + x2) 100) :
    pt_Go YX4_putOne (0, [(0, pt_r 3 t), (1, pt_i x1), (2, pt_i x2), (3, pt_i x3), (4, pt_i x4)], [], M)
      (60, [(0, pt_r 3 t), (1, pt_i x1), (2, pt_i x2), (3, pt_i x3), (4, pt_i x4), (5, pt_i ((x1 * 10) + x2))], [], (pt_wA M 11 t (upd (pt_A M 11 t) (pt_nt ((x1 * 10) + x2)) ((pt_A M 11 t (pt_nt ((x1 * 10) + x2))) &&& (((1 : Int32) <<< (x3 &&& 31)) ^^^ (-1)))))) :=
  pt_run_ok tX4_putOne_ok 27 [.inl false, .inl true, .inl true] (P := (¬ ((x1 * 10) + x2) < 0) ∧ (t < 7) ∧ (t < 7) ∧ (((x1 * 10) + x2) < (nI 100)) ∧ (x4 = 0) ∧ (t < 7) ∧ ((pt_in ((x1 * 10) + x2) 100) ∧ (t < 7)) ∧ ((pt_in ((x1 * 10) + x2) 100) ∧ (t < 7)) ∧ True) (by with_unfolding_all rfl) ⟨h1, h2, h2, h3, h4, h2, ⟨h5, h2⟩, ⟨h5, h2⟩, trivial⟩
set_option maxRecDepth 100000 in
theorem gX4_putOne_0_4 (t : Nat) (x1 : Int32) (x2 : Int32) (x3 : Int32) (x4 : Int32)  (M : pt_M) (h1 : ((x1 * 10) + x2) < 0) :
    pt_Go YX4_putOne (0, [(0, pt_r 3 t), (1, pt_i x1), (2, pt_i x2), (3, pt_i x3), (4, pt_i x4)], [], M)
      (23, [(0, pt_r 3 t), (1, pt_i x1), (2, pt_i x2), (3, pt_i x3), (4, pt_i x4), (5, pt_i ((x1 * 10) + x2))], [], M) :=
  pt_run_ok tX4_putOne_ok 8 [.inl true] (P := (((x1 * 10) + x2) < 0) ∧ True) (by with_unfolding_all rfl) ⟨h1, trivial⟩
theorem rJ6_compare_7cf53_19 {vs : List pt_V} {M M' : pt_M} {x : Int32} {L : List (Nat × pt_V)} (hvs : (vs.map pt_w).sum ≤ 2) (hX : M'.2.2.2.2 = M.2.2.2.2) (h : pt_Go YJ6_compare_7cf53 (0, pt_en 0 vs, [], M) (19, L, [pt_i x], M')) : pt_Does yJ6_compare_7cf53 YJ6_compare_7cf53 vs M (some (pt_i x)) M' := pt_does_go tJ6_compare_7cf53_ok nJ6_compare_7cf53 hvs hX ⟨_, by with_unfolding_all rfl, rfl, _, rfl, rfl⟩ h
set_option maxRecDepth 100000 in
theorem gJ6_compare_7cf53_0_1 (x1 : Int32) (x2 : Int32)  (M : pt_M) (h1 : ¬ x2 ≤ x1) :
    pt_Go YJ6_compare_7cf53 (0, [(0, pt_i x1), (1, pt_i x2)], [], M)
      (19, [(0, pt_i x1), (1, pt_i x2)], [pt_i (-1)], M) :=
  pt_run_ok tJ6_compare_7cf53_ok 5 [.inl false] (P := (¬ x2 ≤ x1) ∧ True) (by with_unfolding_all rfl) ⟨h1, trivial⟩
set_option maxRecDepth 100000 in
theorem gJ6_compare_7cf53_0_2 (x1 : Int32) (x2 : Int32)  (M : pt_M) (h1 : x2 ≤ x1) (h2 : x1 = x2) :
    pt_Go YJ6_compare_7cf53 (0, [(0, pt_i x1), (1, pt_i x2)], [], M)
      (19, [(0, pt_i x1), (1, pt_i x2)], [pt_i 0], M) :=
  pt_run_ok tJ6_compare_7cf53_ok 8 [.inl true, .inl false] (P := (x2 ≤ x1) ∧ (x1 = x2) ∧ True) (by with_unfolding_all rfl) ⟨h1, h2, trivial⟩
set_option maxRecDepth 100000 in
theorem gJ6_compare_7cf53_0_3 (x1 : Int32) (x2 : Int32)  (M : pt_M) (h1 : x2 ≤ x1) (h2 : ¬ x1 = x2) :
    pt_Go YJ6_compare_7cf53 (0, [(0, pt_i x1), (1, pt_i x2)], [], M)
      (19, [(0, pt_i x1), (1, pt_i x2)], [pt_i 1], M) :=
  pt_run_ok tJ6_compare_7cf53_ok 7 [.inl true, .inl true] (P := (x2 ≤ x1) ∧ (¬ x1 = x2) ∧ True) (by with_unfolding_all rfl) ⟨h1, h2, trivial⟩
theorem rJ9_abs_0f7a4_10 {vs : List pt_V} {M M' : pt_M} {x : Int32} {L : List (Nat × pt_V)} (hvs : (vs.map pt_w).sum ≤ 1) (hX : M'.2.2.2.2 = M.2.2.2.2) (h : pt_Go YJ9_abs_0f7a4 (0, pt_en 0 vs, [], M) (10, L, [pt_i x], M')) : pt_Does yJ9_abs_0f7a4 YJ9_abs_0f7a4 vs M (some (pt_i x)) M' := pt_does_go tJ9_abs_0f7a4_ok nJ9_abs_0f7a4 hvs hX ⟨_, by with_unfolding_all rfl, rfl, _, rfl, rfl⟩ h
set_option maxRecDepth 100000 in
theorem gJ9_abs_0f7a4_0_1 (x1 : Int32)  (M : pt_M) (h1 : ¬ 0 ≤ x1) :
    pt_Go YJ9_abs_0f7a4 (0, [(0, pt_i x1)], [], M)
      (10, [(0, pt_i x1)], [pt_i (-x1)], M) :=
  pt_run_ok tJ9_abs_0f7a4_ok 5 [.inl false] (P := (¬ 0 ≤ x1) ∧ True) (by with_unfolding_all rfl) ⟨h1, trivial⟩
set_option maxRecDepth 100000 in
theorem gJ9_abs_0f7a4_0_2 (x1 : Int32)  (M : pt_M) (h1 : 0 ≤ x1) :
    pt_Go YJ9_abs_0f7a4 (0, [(0, pt_i x1)], [], M)
      (10, [(0, pt_i x1)], [pt_i x1], M) :=
  pt_run_ok tJ9_abs_0f7a4_ok 3 [.inl true] (P := (0 ≤ x1) ∧ True) (by with_unfolding_all rfl) ⟨h1, trivial⟩
theorem rJ9_min_7cf53_10 {vs : List pt_V} {M M' : pt_M} {x : Int32} {L : List (Nat × pt_V)} (hvs : (vs.map pt_w).sum ≤ 2) (hX : M'.2.2.2.2 = M.2.2.2.2) (h : pt_Go YJ9_min_7cf53 (0, pt_en 0 vs, [], M) (10, L, [pt_i x], M')) : pt_Does yJ9_min_7cf53 YJ9_min_7cf53 vs M (some (pt_i x)) M' := pt_does_go tJ9_min_7cf53_ok nJ9_min_7cf53 hvs hX ⟨_, by with_unfolding_all rfl, rfl, _, rfl, rfl⟩ h
set_option maxRecDepth 100000 in
theorem gJ9_min_7cf53_0_1 (x1 : Int32) (x2 : Int32)  (M : pt_M) (h1 : ¬ x2 < x1) :
    pt_Go YJ9_min_7cf53 (0, [(0, pt_i x1), (1, pt_i x2)], [], M)
      (10, [(0, pt_i x1), (1, pt_i x2)], [pt_i x1], M) :=
  pt_run_ok tJ9_min_7cf53_ok 5 [.inl false] (P := (¬ x2 < x1) ∧ True) (by with_unfolding_all rfl) ⟨h1, trivial⟩
set_option maxRecDepth 100000 in
theorem gJ9_min_7cf53_0_2 (x1 : Int32) (x2 : Int32)  (M : pt_M) (h1 : x2 < x1) :
    pt_Go YJ9_min_7cf53 (0, [(0, pt_i x1), (1, pt_i x2)], [], M)
      (10, [(0, pt_i x1), (1, pt_i x2)], [pt_i x2], M) :=
  pt_run_ok tJ9_min_7cf53_ok 4 [.inl true] (P := (x2 < x1) ∧ True) (by with_unfolding_all rfl) ⟨h1, trivial⟩
theorem rJ6_bitCount_0f7a4_52 {vs : List pt_V} {M M' : pt_M} {x : Int32} {L : List (Nat × pt_V)} (hvs : (vs.map pt_w).sum ≤ 1) (hX : M'.2.2.2.2 = M.2.2.2.2) (h : pt_Go YJ6_bitCount_0f7a4 (0, pt_en 0 vs, [], M) (52, L, [pt_i x], M')) : pt_Does yJ6_bitCount_0f7a4 YJ6_bitCount_0f7a4 vs M (some (pt_i x)) M' := pt_does_go tJ6_bitCount_0f7a4_ok nJ6_bitCount_0f7a4 hvs hX ⟨_, by with_unfolding_all rfl, rfl, _, rfl, rfl⟩ h
set_option maxRecDepth 100000 in
theorem gJ6_bitCount_0f7a4_0_1 (x1 : Int32)  (M : pt_M) :
    pt_Go YJ6_bitCount_0f7a4 (0, [(0, pt_i x1)], [], M)
      (10, [(0, pt_i (x1 - (((x1.toUInt32 >>> ((1 : Int32).toUInt32 &&& Int32.toUInt32 31)).toInt32) &&& 1431655765)))], [], M) :=
  pt_run_ok tJ6_bitCount_0f7a4_ok 8 [] (P := True) (by with_unfolding_all rfl) trivial
set_option maxRecDepth 100000 in
theorem gJ6_bitCount_0f7a4_10_1 (l0 : Int32)  (M : pt_M) :
    pt_Go YJ6_bitCount_0f7a4 (10, [(0, pt_i l0)], [], M)
      (24, [(0, pt_i ((l0 &&& 858993459) + (((l0.toUInt32 >>> ((2 : Int32).toUInt32 &&& Int32.toUInt32 31)).toInt32) &&& 858993459)))], [], M) :=
  pt_run_ok tJ6_bitCount_0f7a4_ok 10 [] (P := True) (by with_unfolding_all rfl) trivial
set_option maxRecDepth 100000 in
theorem gJ6_bitCount_0f7a4_24_1 (l0 : Int32)  (M : pt_M) :
    pt_Go YJ6_bitCount_0f7a4 (24, [(0, pt_i l0)], [], M)
      (34, [(0, pt_i ((l0 + ((l0.toUInt32 >>> ((4 : Int32).toUInt32 &&& Int32.toUInt32 31)).toInt32)) &&& 252645135))], [], M) :=
  pt_run_ok tJ6_bitCount_0f7a4_ok 8 [] (P := True) (by with_unfolding_all rfl) trivial
set_option maxRecDepth 100000 in
theorem gJ6_bitCount_0f7a4_34_1 (l0 : Int32)  (M : pt_M) :
    pt_Go YJ6_bitCount_0f7a4 (34, [(0, pt_i l0)], [], M)
      (41, [(0, pt_i (l0 + ((l0.toUInt32 >>> ((8 : Int32).toUInt32 &&& Int32.toUInt32 31)).toInt32)))], [], M) :=
  pt_run_ok tJ6_bitCount_0f7a4_ok 6 [] (P := True) (by with_unfolding_all rfl) trivial
set_option maxRecDepth 100000 in
theorem gJ6_bitCount_0f7a4_41_1 (l0 : Int32)  (M : pt_M) :
    pt_Go YJ6_bitCount_0f7a4 (41, [(0, pt_i l0)], [], M)
      (52, [(0, pt_i (l0 + ((l0.toUInt32 >>> ((16 : Int32).toUInt32 &&& Int32.toUInt32 31)).toInt32)))], [pt_i ((l0 + ((l0.toUInt32 >>> ((16 : Int32).toUInt32 &&& Int32.toUInt32 31)).toInt32)) &&& 63)], M) :=
  pt_run_ok tJ6_bitCount_0f7a4_ok 9 [] (P := True) (by with_unfolding_all rfl) trivial
theorem dX6_isSlot_1 {x : Int32} {M : pt_M} (h : sl_P x) : pt_Does yX6_isSlot YX6_isSlot [pt_i x] M (some (pt_i 1)) M :=
  rX6_isSlot_15 rfl (Nat.le_of_ble_eq_true rfl) rfl (gX6_isSlot_0_1 x M h.1 h.2)
theorem dX6_isSlot_0 {x : Int32} {M : pt_M} (h : ¬ sl_P x) : pt_Does yX6_isSlot YX6_isSlot [pt_i x] M (some (pt_i 0)) M := by
  by_cases h1 : x < 0
  · exact rX6_isSlot_15 rfl (Nat.le_of_ble_eq_true rfl) rfl (gX6_isSlot_0_3 x M h1)
  · by_cases h2 : 6 ≤ x
    · exact rX6_isSlot_15 rfl (Nat.le_of_ble_eq_true rfl) rfl (gX6_isSlot_0_2 x M h1 h2)
    · exact absurd ⟨h1, h2⟩ h
theorem dX6_isSize_1 {x : Int32} {M : pt_M} (h : sz_P x) : pt_Does yX6_isSize YX6_isSize [pt_i x] M (some (pt_i 1)) M :=
  rX6_isSize_16 rfl (Nat.le_of_ble_eq_true rfl) rfl (gX6_isSize_0_1 x M h.1 h.2)
theorem dX6_isSize_0 {x : Int32} {M : pt_M} (h : ¬ sz_P x) : pt_Does yX6_isSize YX6_isSize [pt_i x] M (some (pt_i 0)) M := by
  by_cases h1 : x < 3
  · exact rX6_isSize_16 rfl (Nat.le_of_ble_eq_true rfl) rfl (gX6_isSize_0_3 x M h1)
  · by_cases h2 : 10 < x
    · exact rX6_isSize_16 rfl (Nat.le_of_ble_eq_true rfl) rfl (gX6_isSize_0_2 x M h1 h2)
    · exact absurd ⟨h1, h2⟩ h
theorem dX6_turnsOf (x : Int32) (M : pt_M) : pt_Does yX6_turnsOf YX6_turnsOf [pt_i x] M (some (pt_i (to_F x))) M :=
  rX6_turnsOf_12 (Nat.le_of_ble_eq_true rfl) rfl (gX6_turnsOf_0_1 x M)
theorem dX6_swapsOf (x : Int32) (M : pt_M) : pt_Does yX6_swapsOf YX6_swapsOf [pt_i x] M (some (pt_i (so_F x))) M :=
  rX6_swapsOf_7 (Nat.le_of_ble_eq_true rfl) rfl (gX6_swapsOf_0_1 x M)
theorem dX4_hasPoint_1 {t : Nat} {x : Int32} {M : pt_M} (ht : t < 7) (h : hp_P M t x) : pt_Does yX4_hasPoint YX4_hasPoint [pt_r 3 t, pt_i x] M (some (pt_i 1)) M :=
  rX4_hasPoint_17 rfl (Nat.le_of_ble_eq_true rfl) rfl (gX4_hasPoint_0_1 t x M h.1 ht h.2)
theorem dX4_hasPoint_0 {t : Nat} {x : Int32} {M : pt_M} (ht : t < 7) (h : ¬ hp_P M t x) : pt_Does yX4_hasPoint YX4_hasPoint [pt_r 3 t, pt_i x] M (some (pt_i 0)) M := by
  by_cases h1 : x < 0
  · exact rX4_hasPoint_17 rfl (Nat.le_of_ble_eq_true rfl) rfl (gX4_hasPoint_0_3 t x M h1)
  · by_cases h2 : pt_F M 3 0 t ≤ x
    · exact rX4_hasPoint_17 rfl (Nat.le_of_ble_eq_true rfl) rfl (gX4_hasPoint_0_2 t x M h1 ht h2)
    · exact absurd ⟨h1, h2⟩ h
theorem rX4_hasThree_44 {vs : List pt_V} {M M' : pt_M} {x : Int32} {L : List (Nat × pt_V)} (hn : narrow .boolean (.int x) = .int x) (hvs : (vs.map pt_w).sum ≤ 4) (hX : M'.2.2.2.2 = M.2.2.2.2) (h : pt_Go YX4_hasThree (0, pt_en 0 vs, [], M) (44, L, [pt_i x], M')) : pt_Does yX4_hasThree YX4_hasThree vs M (some (pt_i x)) M' := pt_does_go tX4_hasThree_ok nX4_hasThree hvs hX ⟨_, by with_unfolding_all rfl, rfl, _, rfl, hn⟩ h
set_option maxRecDepth 100000 in
theorem gX4_hasThree_0_1 (t : Nat) (x1 : Int32) (x2 : Int32) (x3 : Int32)  (M : pt_M) (h1 : t < 7) (h2 : hp_P M t x1) (h3 : hp_P M t x2) (h4 : hp_P M t x3) (h5 : ¬ x1 = x2) (h6 : ¬ x2 = x3) (h7 : ¬ x3 = x1) :
    pt_Go YX4_hasThree (0, [(0, pt_r 3 t), (1, pt_i x1), (2, pt_i x2), (3, pt_i x3)], [], M)
      (44, [(0, pt_r 3 t), (1, pt_i x1), (2, pt_i x2), (3, pt_i x3)], [pt_i 1], M) :=
  pt_run_ok tX4_hasThree_ok 23 [.inr (2, some (pt_i 1), M), .inl false, .inr (2, some (pt_i 1), M), .inl false, .inr (2, some (pt_i 1), M), .inl false, .inl false, .inl false, .inl false] (P := pt_Cal YX4_hasThree (.invokevirtual 41) [pt_r 3 t, pt_i x1] M (some (pt_i 1)) M ∧ (¬ (1 : Int32) = (0 : Int32)) ∧ pt_Cal YX4_hasThree (.invokevirtual 41) [pt_r 3 t, pt_i x2] M (some (pt_i 1)) M ∧ (¬ (1 : Int32) = (0 : Int32)) ∧ pt_Cal YX4_hasThree (.invokevirtual 41) [pt_r 3 t, pt_i x3] M (some (pt_i 1)) M ∧ (¬ (1 : Int32) = (0 : Int32)) ∧ (¬ x1 = x2) ∧ (¬ x2 = x3) ∧ (¬ x3 = x1) ∧ True) (by with_unfolding_all rfl) ⟨(pt_callV (i := t) kX4_hasThree_41 mX4_hasPoint rfl h1 rfl (dX4_hasPoint_1 h1 h2)), (by decide), (pt_callV (i := t) kX4_hasThree_41 mX4_hasPoint rfl h1 rfl (dX4_hasPoint_1 h1 h3)), (by decide), (pt_callV (i := t) kX4_hasThree_41 mX4_hasPoint rfl h1 rfl (dX4_hasPoint_1 h1 h4)), (by decide), h5, h6, h7, trivial⟩
set_option maxRecDepth 100000 in
theorem gX4_hasThree_0_2 (t : Nat) (x1 : Int32) (x2 : Int32) (x3 : Int32)  (M : pt_M) (h1 : t < 7) (h2 : hp_P M t x1) (h3 : hp_P M t x2) (h4 : hp_P M t x3) (h5 : ¬ x1 = x2) (h6 : ¬ x2 = x3) (h7 : x3 = x1) :
    pt_Go YX4_hasThree (0, [(0, pt_r 3 t), (1, pt_i x1), (2, pt_i x2), (3, pt_i x3)], [], M)
      (44, [(0, pt_r 3 t), (1, pt_i x1), (2, pt_i x2), (3, pt_i x3)], [pt_i 0], M) :=
  pt_run_ok tX4_hasThree_ok 22 [.inr (2, some (pt_i 1), M), .inl false, .inr (2, some (pt_i 1), M), .inl false, .inr (2, some (pt_i 1), M), .inl false, .inl false, .inl false, .inl true] (P := pt_Cal YX4_hasThree (.invokevirtual 41) [pt_r 3 t, pt_i x1] M (some (pt_i 1)) M ∧ (¬ (1 : Int32) = (0 : Int32)) ∧ pt_Cal YX4_hasThree (.invokevirtual 41) [pt_r 3 t, pt_i x2] M (some (pt_i 1)) M ∧ (¬ (1 : Int32) = (0 : Int32)) ∧ pt_Cal YX4_hasThree (.invokevirtual 41) [pt_r 3 t, pt_i x3] M (some (pt_i 1)) M ∧ (¬ (1 : Int32) = (0 : Int32)) ∧ (¬ x1 = x2) ∧ (¬ x2 = x3) ∧ (x3 = x1) ∧ True) (by with_unfolding_all rfl) ⟨(pt_callV (i := t) kX4_hasThree_41 mX4_hasPoint rfl h1 rfl (dX4_hasPoint_1 h1 h2)), (by decide), (pt_callV (i := t) kX4_hasThree_41 mX4_hasPoint rfl h1 rfl (dX4_hasPoint_1 h1 h3)), (by decide), (pt_callV (i := t) kX4_hasThree_41 mX4_hasPoint rfl h1 rfl (dX4_hasPoint_1 h1 h4)), (by decide), h5, h6, h7, trivial⟩
set_option maxRecDepth 100000 in
theorem gX4_hasThree_0_3 (t : Nat) (x1 : Int32) (x2 : Int32) (x3 : Int32)  (M : pt_M) (h1 : t < 7) (h2 : hp_P M t x1) (h3 : hp_P M t x2) (h4 : hp_P M t x3) (h5 : ¬ x1 = x2) (h6 : x2 = x3) :
    pt_Go YX4_hasThree (0, [(0, pt_r 3 t), (1, pt_i x1), (2, pt_i x2), (3, pt_i x3)], [], M)
      (44, [(0, pt_r 3 t), (1, pt_i x1), (2, pt_i x2), (3, pt_i x3)], [pt_i 0], M) :=
  pt_run_ok tX4_hasThree_ok 19 [.inr (2, some (pt_i 1), M), .inl false, .inr (2, some (pt_i 1), M), .inl false, .inr (2, some (pt_i 1), M), .inl false, .inl false, .inl true] (P := pt_Cal YX4_hasThree (.invokevirtual 41) [pt_r 3 t, pt_i x1] M (some (pt_i 1)) M ∧ (¬ (1 : Int32) = (0 : Int32)) ∧ pt_Cal YX4_hasThree (.invokevirtual 41) [pt_r 3 t, pt_i x2] M (some (pt_i 1)) M ∧ (¬ (1 : Int32) = (0 : Int32)) ∧ pt_Cal YX4_hasThree (.invokevirtual 41) [pt_r 3 t, pt_i x3] M (some (pt_i 1)) M ∧ (¬ (1 : Int32) = (0 : Int32)) ∧ (¬ x1 = x2) ∧ (x2 = x3) ∧ True) (by with_unfolding_all rfl) ⟨(pt_callV (i := t) kX4_hasThree_41 mX4_hasPoint rfl h1 rfl (dX4_hasPoint_1 h1 h2)), (by decide), (pt_callV (i := t) kX4_hasThree_41 mX4_hasPoint rfl h1 rfl (dX4_hasPoint_1 h1 h3)), (by decide), (pt_callV (i := t) kX4_hasThree_41 mX4_hasPoint rfl h1 rfl (dX4_hasPoint_1 h1 h4)), (by decide), h5, h6, trivial⟩
set_option maxRecDepth 100000 in
theorem gX4_hasThree_0_4 (t : Nat) (x1 : Int32) (x2 : Int32) (x3 : Int32)  (M : pt_M) (h1 : t < 7) (h2 : hp_P M t x1) (h3 : hp_P M t x2) (h4 : hp_P M t x3) (h5 : x1 = x2) :
    pt_Go YX4_hasThree (0, [(0, pt_r 3 t), (1, pt_i x1), (2, pt_i x2), (3, pt_i x3)], [], M)
      (44, [(0, pt_r 3 t), (1, pt_i x1), (2, pt_i x2), (3, pt_i x3)], [pt_i 0], M) :=
  pt_run_ok tX4_hasThree_ok 16 [.inr (2, some (pt_i 1), M), .inl false, .inr (2, some (pt_i 1), M), .inl false, .inr (2, some (pt_i 1), M), .inl false, .inl true] (P := pt_Cal YX4_hasThree (.invokevirtual 41) [pt_r 3 t, pt_i x1] M (some (pt_i 1)) M ∧ (¬ (1 : Int32) = (0 : Int32)) ∧ pt_Cal YX4_hasThree (.invokevirtual 41) [pt_r 3 t, pt_i x2] M (some (pt_i 1)) M ∧ (¬ (1 : Int32) = (0 : Int32)) ∧ pt_Cal YX4_hasThree (.invokevirtual 41) [pt_r 3 t, pt_i x3] M (some (pt_i 1)) M ∧ (¬ (1 : Int32) = (0 : Int32)) ∧ (x1 = x2) ∧ True) (by with_unfolding_all rfl) ⟨(pt_callV (i := t) kX4_hasThree_41 mX4_hasPoint rfl h1 rfl (dX4_hasPoint_1 h1 h2)), (by decide), (pt_callV (i := t) kX4_hasThree_41 mX4_hasPoint rfl h1 rfl (dX4_hasPoint_1 h1 h3)), (by decide), (pt_callV (i := t) kX4_hasThree_41 mX4_hasPoint rfl h1 rfl (dX4_hasPoint_1 h1 h4)), (by decide), h5, trivial⟩
set_option maxRecDepth 100000 in
theorem gX4_hasThree_0_5 (t : Nat) (x1 : Int32) (x2 : Int32) (x3 : Int32)  (M : pt_M) (h1 : t < 7) (h2 : hp_P M t x1) (h3 : hp_P M t x2) (h4 : ¬ hp_P M t x3) :
    pt_Go YX4_hasThree (0, [(0, pt_r 3 t), (1, pt_i x1), (2, pt_i x2), (3, pt_i x3)], [], M)
      (44, [(0, pt_r 3 t), (1, pt_i x1), (2, pt_i x2), (3, pt_i x3)], [pt_i 0], M) :=
  pt_run_ok tX4_hasThree_ok 13 [.inr (2, some (pt_i 1), M), .inl false, .inr (2, some (pt_i 1), M), .inl false, .inr (2, some (pt_i 0), M), .inl true] (P := pt_Cal YX4_hasThree (.invokevirtual 41) [pt_r 3 t, pt_i x1] M (some (pt_i 1)) M ∧ (¬ (1 : Int32) = (0 : Int32)) ∧ pt_Cal YX4_hasThree (.invokevirtual 41) [pt_r 3 t, pt_i x2] M (some (pt_i 1)) M ∧ (¬ (1 : Int32) = (0 : Int32)) ∧ pt_Cal YX4_hasThree (.invokevirtual 41) [pt_r 3 t, pt_i x3] M (some (pt_i 0)) M ∧ ((0 : Int32) = (0 : Int32)) ∧ True) (by with_unfolding_all rfl) ⟨(pt_callV (i := t) kX4_hasThree_41 mX4_hasPoint rfl h1 rfl (dX4_hasPoint_1 h1 h2)), (by decide), (pt_callV (i := t) kX4_hasThree_41 mX4_hasPoint rfl h1 rfl (dX4_hasPoint_1 h1 h3)), (by decide), (pt_callV (i := t) kX4_hasThree_41 mX4_hasPoint rfl h1 rfl (dX4_hasPoint_0 h1 h4)), (by decide), trivial⟩
set_option maxRecDepth 100000 in
theorem gX4_hasThree_0_6 (t : Nat) (x1 : Int32) (x2 : Int32) (x3 : Int32)  (M : pt_M) (h1 : t < 7) (h2 : hp_P M t x1) (h3 : ¬ hp_P M t x2) :
    pt_Go YX4_hasThree (0, [(0, pt_r 3 t), (1, pt_i x1), (2, pt_i x2), (3, pt_i x3)], [], M)
      (44, [(0, pt_r 3 t), (1, pt_i x1), (2, pt_i x2), (3, pt_i x3)], [pt_i 0], M) :=
  pt_run_ok tX4_hasThree_ok 9 [.inr (2, some (pt_i 1), M), .inl false, .inr (2, some (pt_i 0), M), .inl true] (P := pt_Cal YX4_hasThree (.invokevirtual 41) [pt_r 3 t, pt_i x1] M (some (pt_i 1)) M ∧ (¬ (1 : Int32) = (0 : Int32)) ∧ pt_Cal YX4_hasThree (.invokevirtual 41) [pt_r 3 t, pt_i x2] M (some (pt_i 0)) M ∧ ((0 : Int32) = (0 : Int32)) ∧ True) (by with_unfolding_all rfl) ⟨(pt_callV (i := t) kX4_hasThree_41 mX4_hasPoint rfl h1 rfl (dX4_hasPoint_1 h1 h2)), (by decide), (pt_callV (i := t) kX4_hasThree_41 mX4_hasPoint rfl h1 rfl (dX4_hasPoint_0 h1 h3)), (by decide), trivial⟩
set_option maxRecDepth 100000 in
theorem gX4_hasThree_0_7 (t : Nat) (x1 : Int32) (x2 : Int32) (x3 : Int32)  (M : pt_M) (h1 : t < 7) (h2 : ¬ hp_P M t x1) :
    pt_Go YX4_hasThree (0, [(0, pt_r 3 t), (1, pt_i x1), (2, pt_i x2), (3, pt_i x3)], [], M)
      (44, [(0, pt_r 3 t), (1, pt_i x1), (2, pt_i x2), (3, pt_i x3)], [pt_i 0], M) :=
  pt_run_ok tX4_hasThree_ok 5 [.inr (2, some (pt_i 0), M), .inl true] (P := pt_Cal YX4_hasThree (.invokevirtual 41) [pt_r 3 t, pt_i x1] M (some (pt_i 0)) M ∧ ((0 : Int32) = (0 : Int32)) ∧ True) (by with_unfolding_all rfl) ⟨(pt_callV (i := t) kX4_hasThree_41 mX4_hasPoint rfl h1 rfl (dX4_hasPoint_0 h1 h2)), (by decide), trivial⟩
theorem dX4_hasThree_1 {t : Nat} {i j k : Int32} {M : pt_M} (ht : t < 7) (h : ht_P M t i j k) : pt_Does yX4_hasThree YX4_hasThree [pt_r 3 t, pt_i i, pt_i j, pt_i k] M (some (pt_i 1)) M :=
  rX4_hasThree_44 rfl (Nat.le_of_ble_eq_true rfl) rfl (gX4_hasThree_0_1 t i j k M ht h.1 h.2.1 h.2.2.1 h.2.2.2.1 h.2.2.2.2.1 h.2.2.2.2.2)
theorem dX4_hasThree_0 {t : Nat} {i j k : Int32} {M : pt_M} (ht : t < 7) (h : ¬ ht_P M t i j k) : pt_Does yX4_hasThree YX4_hasThree [pt_r 3 t, pt_i i, pt_i j, pt_i k] M (some (pt_i 0)) M := by
  refine rX4_hasThree_44 rfl (L := [(0, pt_r 3 t), (1, pt_i i), (2, pt_i j), (3, pt_i k)]) (Nat.le_of_ble_eq_true rfl) rfl ?_
  · by_cases h1 : hp_P M t i
    · by_cases h2 : hp_P M t j
      · by_cases h3 : hp_P M t k
        · by_cases h4 : i = j
          · exact gX4_hasThree_0_4 t i j k M ht h1 h2 h3 h4
          · by_cases h5 : j = k
            · exact gX4_hasThree_0_3 t i j k M ht h1 h2 h3 h4 h5
            · by_cases h6 : k = i
              · exact gX4_hasThree_0_2 t i j k M ht h1 h2 h3 h4 h5 h6
              · exact absurd ⟨h1, h2, h3, h4, h5, h6⟩ h
        · exact gX4_hasThree_0_5 t i j k M ht h1 h2 h3
      · exact gX4_hasThree_0_6 t i j k M ht h1 h2
    · exact gX4_hasThree_0_7 t i j k M ht h1
theorem dX2_isIn_1 {s p : Int32} {M : pt_M} (h : in_P s p) : pt_Does yX2_isIn YX2_isIn [pt_i s, pt_i p] M (some (pt_i 1)) M :=
  rX2_isIn_14 rfl (Nat.le_of_ble_eq_true rfl) rfl (gX2_isIn_0_1 s p M h)
theorem dX2_isIn_0 {s p : Int32} {M : pt_M} (h : ¬ in_P s p) : pt_Does yX2_isIn YX2_isIn [pt_i s, pt_i p] M (some (pt_i 0)) M :=
  rX2_isIn_14 rfl (Nat.le_of_ble_eq_true rfl) rfl (gX2_isIn_0_2 s p M h)
theorem pt_in_n {x : Int32} {n : Nat} (hn : n < 2 ^ 31) (h : pt_in x n) : ¬ x < 0 ∧ ¬ nI n ≤ x ∧ x < nI n := by
  obtain ⟨j, hj, rfl⟩ := vp_in_of (pt_in_vp h) hn
  exact ⟨nI_pos (by omega), nI_ge hj hn, nI_lt hj hn⟩
theorem dX4_leftOf {t : Nat} {i j : Int32} {M : pt_M} (ht : t < 7) (h : pt_in (ix_F i j) 100) : pt_Does yX4_leftOf YX4_leftOf [pt_r 3 t, pt_i i, pt_i j] M (some (pt_i (lo_F M t i j))) M :=
  rX4_leftOf_30 (Nat.le_of_ble_eq_true rfl) rfl (gX4_leftOf_0_1 t i j M (pt_in_n (by decide) h).1 ht (pt_in_n (by decide) h).2.1)
theorem dX4_isLeft_1 {t : Nat} {i j k : Int32} {M : pt_M} (ht : t < 7) (h : pt_in (ix_F i j) 100) (hl : lf_P M t i j k) : pt_Does yX4_isLeft YX4_isLeft [pt_r 3 t, pt_i i, pt_i j, pt_i k] M (some (pt_i 1)) M :=
  rX4_isLeft_43 rfl (Nat.le_of_ble_eq_true rfl) rfl (gX4_isLeft_0_1 t i j k M (pt_in_n (by decide) h).1 ht (pt_in_n (by decide) h).2.1 hl)
theorem dX4_isLeft_0 {t : Nat} {i j k : Int32} {M : pt_M} (ht : t < 7) (h : pt_in (ix_F i j) 100) (hl : ¬ lf_P M t i j k) : pt_Does yX4_isLeft YX4_isLeft [pt_r 3 t, pt_i i, pt_i j, pt_i k] M (some (pt_i 0)) M :=
  rX4_isLeft_43 rfl (Nat.le_of_ble_eq_true rfl) rfl (gX4_isLeft_0_2 t i j k M (pt_in_n (by decide) h).1 ht (pt_in_n (by decide) h).2.1 hl)
theorem dX4_everyPoint {t : Nat} {M : pt_M} (ht : t < 7) : pt_Does yX4_everyPoint YX4_everyPoint [pt_r 3 t] M (some (pt_i (ep_F M t))) M :=
  rX4_everyPoint_8 (Nat.le_of_ble_eq_true rfl) rfl (gX4_everyPoint_0_1 t M ht)
theorem dX4_forget {t : Nat} {M : pt_M} (ht : t < 7) : pt_Does yX4_forget YX4_forget [pt_r 3 t] M none (fg_F M t) :=
  rX4_forget_11 (Nat.le_of_ble_eq_true rfl) rfl (gX4_forget_0_1 t M ht)
theorem dX4_putOne {t : Nat} {i j k b : Int32} {M : pt_M} (ht : t < 7) (h : pt_in (ix_F i j) 100) : pt_Does yX4_putOne YX4_putOne [pt_r 3 t, pt_i i, pt_i j, pt_i k, pt_i b] M none (po_F M t i j k b) := by
  obtain ⟨h1, -, h3⟩ := pt_in_n (by decide) h
  by_cases hb : b = 0
  · refine rX4_putOne_60 (Nat.le_of_ble_eq_true rfl) rfl ((gX4_putOne_0_3 t i j k b M h1 ht h3 hb h).toM ?_)
    unfold po_F
    rw [if_pos hb]
  · refine rX4_putOne_60 (Nat.le_of_ble_eq_true rfl) rfl ((gX4_putOne_0_2 t i j k b M h1 ht h3 hb h).toM ?_)
    unfold po_F
    rw [if_neg hb]
theorem dJ6_bitCount (x : Int32) (M : pt_M) : pt_Does yJ6_bitCount_0f7a4 YJ6_bitCount_0f7a4 [pt_i x] M (some (pt_i (bc_F x))) M :=
  rJ6_bitCount_0f7a4_52 (Nat.le_of_ble_eq_true rfl) rfl ((gJ6_bitCount_0f7a4_0_1 x M).tr ((gJ6_bitCount_0f7a4_10_1 (bc_1 x) M).tr ((gJ6_bitCount_0f7a4_24_1 (bc_2 (bc_1 x)) M).tr ((gJ6_bitCount_0f7a4_34_1 (bc_3 (bc_2 (bc_1 x))) M).tr (gJ6_bitCount_0f7a4_41_1 (bc_4 (bc_3 (bc_2 (bc_1 x)))) M)))))
theorem dJ6_compare (x y : Int32) (M : pt_M) : pt_Does yJ6_compare_7cf53 YJ6_compare_7cf53 [pt_i x, pt_i y] M (some (pt_i (cp_F x y))) M := by
  unfold cp_F
  by_cases h1 : x < y
  · rw [if_pos h1]
    exact rJ6_compare_7cf53_19 (Nat.le_of_ble_eq_true rfl) rfl (gJ6_compare_7cf53_0_1 x y M (Int32.not_le.mpr h1))
  · rw [if_neg h1]
    by_cases h2 : x = y
    · rw [if_pos h2]
      exact rJ6_compare_7cf53_19 (Nat.le_of_ble_eq_true rfl) rfl (gJ6_compare_7cf53_0_2 x y M (Int32.not_lt.mp h1) h2)
    · rw [if_neg h2]
      exact rJ6_compare_7cf53_19 (Nat.le_of_ble_eq_true rfl) rfl (gJ6_compare_7cf53_0_3 x y M (Int32.not_lt.mp h1) h2)
theorem dJ9_abs (x : Int32) (M : pt_M) : pt_Does yJ9_abs_0f7a4 YJ9_abs_0f7a4 [pt_i x] M (some (pt_i (ab_F x))) M := by
  unfold ab_F
  by_cases h1 : 0 ≤ x
  · rw [if_pos h1]
    exact rJ9_abs_0f7a4_10 (Nat.le_of_ble_eq_true rfl) rfl (gJ9_abs_0f7a4_0_2 x M h1)
  · rw [if_neg h1]
    exact rJ9_abs_0f7a4_10 (Nat.le_of_ble_eq_true rfl) rfl (gJ9_abs_0f7a4_0_1 x M h1)
theorem dJ9_min (x y : Int32) (M : pt_M) : pt_Does yJ9_min_7cf53 YJ9_min_7cf53 [pt_i x, pt_i y] M (some (pt_i (mi_F x y))) M := by
  unfold mi_F
  by_cases h1 : y < x
  · rw [if_pos h1]
    exact rJ9_min_7cf53_10 (Nat.le_of_ble_eq_true rfl) rfl (gJ9_min_7cf53_0_2 x y M h1)
  · rw [if_neg h1]
    exact rJ9_min_7cf53_10 (Nat.le_of_ble_eq_true rfl) rfl (gJ9_min_7cf53_0_1 x y M h1)
