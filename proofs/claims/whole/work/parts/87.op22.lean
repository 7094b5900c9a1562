/-! kinds and kind -/
theorem k0_or (x : Int32) : k0_P x ∨ ∃ n, 3 ≤ n ∧ n ≤ 6 ∧ x = nI n := by
  by_cases h : x < 0
  · refine .inl (.inl ?_)
    have := Int32.lt_iff_toInt_lt.mp h
    have e : (0 : Int32).toInt = 0 := rfl
    omega
  · obtain ⟨j, hj, rfl⟩ := nI_of h
    by_cases c : 3 ≤ j ∧ j ≤ 6
    · exact .inr ⟨j, c.1, c.2, rfl⟩
    · have e : (nI j).toInt = j := nI_toInt hj
      unfold k0_P
      rw [e]
      exact .inl (by omega)
theorem k0_x {x : Int32} (h : k0_P x) : x < 3 ∨ (¬ x < 3 ∧ ¬ x ≤ 6) := by
  by_cases c : x < 3
  · exact .inl c
  · refine .inr ⟨c, fun z => ?_⟩
    have z := Int32.le_iff_toInt_le.mp z
    have e : (6 : Int32).toInt = 6 := rfl
    have e' : (3 : Int32).toInt = 3 := rfl
    have c : ¬ x.toInt < 3 := fun y => c (Int32.lt_iff_toInt_lt.mpr (by rw [e']; exact y))
    rcases h with h | h <;> omega
theorem n36 {n : Nat} (h3 : 3 ≤ n) (h6 : n ≤ 6) : ¬ nI n < 3 ∧ nI n ≤ 6 ∧ pt_in (nI n) 7 ∧ pt_nt (nI n) = n := by
  refine ⟨?_, ?_, pt_in_nI (by omega) (by decide), pt_nt_nI (by omega)⟩
  · have c : n = 3 ∨ n = 4 ∨ n = 5 ∨ n = 6 := by omega
    rcases c with rfl | rfl | rfl | rfl <;> decide
  · have c : n = 3 ∨ n = 4 ∨ n = 5 ∨ n = 6 := by omega
    rcases c with rfl | rfl | rfl | rfl <;> decide
theorem dX6_kinds_in {n : Nat} {M : pt_M} (h3 : 3 ≤ n) (h6 : n ≤ 6) : pt_Does yX6_kinds YX6_kinds [pt_r 2 0, pt_i (nI n)] M (some (pt_i (nI (kn_F n)))) M := by
  have c : n = 3 ∨ n = 4 ∨ n = 5 ∨ n = 6 := by omega
  rcases c with rfl | rfl | rfl | rfl
  · exact dX6_kinds_3
  · exact dX6_kinds_4
  · exact dX6_kinds_5
  · exact dX6_kinds_6
theorem dX6_kind_in {n q : Nat} {x1 : Int32} {M : pt_M} (h3 : 3 ≤ n) (h6 : n ≤ 6) (hk : kp_P M x1) (hq : q < kn_F n) : pt_Does yX6_kind YX6_kind [pt_r 2 0, pt_i x1, pt_i (nI n), pt_i (nI q)] M (some (pt_i 1)) (kp_M (mt_F (kn_M M (kv_F n q) (rk_0 n n) (rk_0 n n)) (pt_R M 0) n fun i j k => decide (pt_A (kn_M M (kv_F n q) (rk_0 n n) (rk_0 n n)) 24 0 (rk_F n i j k) = 1)) x1) := by
  have c : n = 3 ∨ n = 4 ∨ n = 5 ∨ n = 6 := by omega
  rcases c with rfl | rfl | rfl | rfl
  · exact dX6_kind_3 hk hq
  · exact dX6_kind_4 hk hq
  · exact dX6_kind_5 hk hq
  · exact dX6_kind_6 hk hq
theorem dX6_kind_no {n : Nat} {x1 x3 : Int32} {M : pt_M} (h3 : 3 ≤ n) (h6 : n ≤ 6) (h : ¬ sl_P x1 ∨ x3 < 0 ∨ ¬ x3 < nI (kn_F n)) : pt_Does yX6_kind YX6_kind [pt_r 2 0, pt_i x1, pt_i (nI n), pt_i x3] M (some (pt_i 0)) M := by
  have c : n = 3 ∨ n = 4 ∨ n = 5 ∨ n = 6 := by omega
  by_cases h1 : sl_P x1
  · by_cases h2 : x3 < 0
    · rcases c with rfl | rfl | rfl | rfl
      · exact dX6_kind3_p3 x1 _ x3 0 M rfl h1 h2
      · exact dX6_kind4_p3 x1 _ x3 0 M rfl h1 h2
      · exact dX6_kind5_p3 x1 _ x3 0 M rfl h1 h2
      · exact dX6_kind6_p3 x1 _ x3 0 M rfl h1 h2
    · have h4 : ¬ x3 < nI (kn_F n) := by
        rcases h with h | h | h
        · exact absurd h1 h
        · exact absurd h h2
        · exact h
      rcases c with rfl | rfl | rfl | rfl
      · exact dX6_kind3_p1 x1 _ x3 0 M rfl h1 h2 h4
      · exact dX6_kind4_p1 x1 _ x3 0 M rfl h1 h2 h4
      · exact dX6_kind5_p1 x1 _ x3 0 M rfl h1 h2 h4
      · exact dX6_kind6_p1 x1 _ x3 0 M rfl h1 h2 h4
  · rcases c with rfl | rfl | rfl | rfl
    · exact dX6_kind3_p4 x1 _ x3 0 M rfl h1
    · exact dX6_kind4_p4 x1 _ x3 0 M rfl h1
    · exact dX6_kind5_p4 x1 _ x3 0 M rfl h1
    · exact dX6_kind6_p4 x1 _ x3 0 M rfl h1
theorem rX7_kinds_17 {vs : List pt_V} {M M' : pt_M} {x : Int32} {L : List (Nat × pt_V)} (hvs : (vs.map pt_w).sum ≤ 2) (hX : M'.2.2.2.2 = M.2.2.2.2) (h : pt_Go YX7_kinds (0, pt_en 0 vs, [], M) (17, L, [pt_i x], M')) : pt_Does yX7_kinds YX7_kinds vs M (some (pt_i x)) M' := pt_does_go tX7_kinds_ok nX7_kinds hvs hX ⟨_, by with_unfolding_all rfl, rfl, _, rfl, rfl⟩ h
theorem rX7_kinds_29 {vs : List pt_V} {M M' : pt_M} {x : Int32} {L : List (Nat × pt_V)} (hvs : (vs.map pt_w).sum ≤ 2) (hX : M'.2.2.2.2 = M.2.2.2.2) (h : pt_Go YX7_kinds (0, pt_en 0 vs, [], M) (29, L, [pt_i x], M')) : pt_Does yX7_kinds YX7_kinds vs M (some (pt_i x)) M' := pt_does_go tX7_kinds_ok nX7_kinds hvs hX ⟨_, by with_unfolding_all rfl, rfl, _, rfl, rfl⟩ h
set_option maxRecDepth 100000 in
theorem gX7_kinds_0_1 (x1 : Int32) (M2 : pt_M) (M : pt_M) (h1 : ¬ x1 < 3) (h2 : ¬ x1 ≤ 6) :
    pt_Go YX7_kinds (0, [(0, pt_r 7 0), (1, pt_i x1)], [], M)
      (17, [(0, pt_r 7 0), (1, pt_i x1)], [pt_i (-1)], (pt_wF M 7 0 0 0)) :=
  pt_run_ok tX7_kinds_ok 10 [.inl false, .inl false] (P := (¬ x1 < 3) ∧ (¬ x1 ≤ 6) ∧ True) (by with_unfolding_all rfl) ⟨h1, h2, trivial⟩
set_option maxRecDepth 100000 in
theorem gX7_kinds_0_2 (x1 : Int32) (M2 : pt_M) (M : pt_M) (h1 : ¬ x1 < 3) (h2 : x1 ≤ 6) (h3 : pt_Does yX7_find YX7_find [pt_r 7 0, pt_i x1] (pt_wF M 7 0 0 0) none M2) (h4 : pt_in x1 7) :
    pt_Go YX7_kinds (0, [(0, pt_r 7 0), (1, pt_i x1)], [], M)
      (29, [(0, pt_r 7 0), (1, pt_i x1)], [pt_i (pt_A M2 44 0 (pt_nt x1))], M2) :=
  pt_run_ok tX7_kinds_ok 16 [.inl false, .inl true, .inr (2, none, M2)] (P := (¬ x1 < 3) ∧ (x1 ≤ 6) ∧ pt_Cal YX7_kinds (.invokevirtual 199) [pt_r 7 0, pt_i x1] (pt_wF M 7 0 0 0) none M2 ∧ (pt_in x1 7) ∧ True) (by with_unfolding_all rfl) ⟨h1, h2, (pt_callV (i := 0) kX7_kinds_199 mX7_find rfl (by decide) rfl h3), h4, trivial⟩
set_option maxRecDepth 100000 in
theorem gX7_kinds_0_3 (x1 : Int32) (M2 : pt_M) (M : pt_M) (h1 : x1 < 3) :
    pt_Go YX7_kinds (0, [(0, pt_r 7 0), (1, pt_i x1)], [], M)
      (17, [(0, pt_r 7 0), (1, pt_i x1)], [pt_i (-1)], (pt_wF M 7 0 0 0)) :=
  pt_run_ok tX7_kinds_ok 7 [.inl true] (P := (x1 < 3) ∧ True) (by with_unfolding_all rfl) ⟨h1, trivial⟩
theorem op_kinds {M : pt_M} (h : IV_P M) (x : Int32) : op_P yX6_kinds YX6_kinds yX7_kinds YX7_kinds [pt_i x] M := by
  obtain ⟨A, hC, hM⟩ := h
  rcases k0_or x with c | ⟨n, h3, h6, rfl⟩
  · refine op_of hC hM (A' := A) (M2 := t0_M M) (dX6_kinds0_p1 x M c rfl) mo_P.rf hC fun hM => ⟨?_, t0_ca, hM⟩
    rcases k0_x c with z | ⟨z1, z2⟩
    · exact rX7_kinds_17 (Nat.le_of_ble_eq_true rfl) rfl (gX7_kinds_0_3 x M M z)
    · exact rX7_kinds_17 (Nat.le_of_ble_eq_true rfl) rfl (gX7_kinds_0_1 x M M z1 z2)
  · refine op_ex hC hM (A' := A) (dX6_kinds_in h3 h6) mo_P.rf hC fun hM => ?_
    obtain ⟨M2, d, c, m, e, -⟩ := dX7_find h3 h6 (MR_t0 hM)
    obtain ⟨a1, a2, a3, a4⟩ := n36 h3 h6
    have g := gX7_kinds_0_2 (nI n) M2 M a1 a2 d a3
    rw [a4, e] at g
    exact ⟨M2, rX7_kinds_29 (Nat.le_of_ble_eq_true rfl) (by have y := dX_x5 d; exact y) g, t0_ca.tr c, m⟩
/-- the table that kind leaves in the model -/
def pk7_M (M : pt_M) (s n : Nat) (S : Nat → Nat → Nat → Bool) : pt_M := sl_M (cc_M (st_M M 720 n S) 720 (nI (120 * s))) s n
theorem pk7_ca {M : pt_M} {s n : Nat} {S : Nat → Nat → Nat → Bool} : ca_P M (pk7_M M s n S) := ((ca_wA (by decide)).tr (ca_wA (by decide))).tr (ca_wA (by decide))
theorem pk7_32 {M : pt_M} {s n : Nat} {S : Nat → Nat → Nat → Bool} (hs : s < 6) : pt_A (pk7_M M s n S) 32 0 = cb_F (pt_A (st_M M 720 n S) 32 0) 720 (120 * s) 120 := by
  show pt_A (cc_M (st_M M 720 n S) 720 (nI (120 * s))) 32 0 = _
  unfold cc_M
  rw [pt_A_wA, pt_nt_nI (by omega), show (720 : Int32) = nI 720 from rfl, pt_nt_nI (by decide)]
theorem MR_pk7 {M : pt_M} {A : iv_A} {s n : Nat} {S : Nat → Nat → Nat → Bool} (h : MR_P M A) (hs : s < 6) (h3 : 3 ≤ n) (hn : n ≤ 10) : MR_P (pk7_M M s n S) (iv_set A s n S) := by
  refine MR_slot h hs rfl rfl rfl rfl rfl rfl rfl (fun q hq => ?_) (fun p g1 g2 => ?_) ⟨?_, Or.inr ⟨h3, ml_of (by omega) hn fun i j k a1 a2 a3 => ?_⟩⟩
  · unfold pk7_M sl_M
    rw [pt_A_wA]
    unfold upd
    rw [if_neg hq]
    rfl
  · rw [pk7_32 hs]
    unfold cb_F
    rw [if_neg (by omega)]
    unfold st_M
    rw [pt_A_wA]
    exact sm_out (by omega)
  · unfold pk7_M sl_M
    rw [pt_A_wA]
    unfold upd
    rw [if_pos rfl]
  · obtain ⟨-, t2⟩ := th_nI a1 a2 (show k < 10 by omega)
    rw [pk7_32 hs]
    unfold cb_F
    rw [if_pos (by omega), show 120 * s + th_F i j k - 120 * s + 720 = 720 + th_F i j k by omega]
    exact st_at hn a1 a2 a3
theorem kv_ltn {n q : Nat} (h3 : 3 ≤ n) (h6 : n ≤ 6) (hq : q < kn_F n) : kv_F n q < kq_n n := by
  have c : n = 3 ∨ n = 4 ∨ n = 5 ∨ n = 6 := by omega
  rcases c with rfl | rfl | rfl | rfl
  · exact (by decide : ∀ q : Fin 1, kv_F 3 q.1 < kq_n 3) ⟨q, hq⟩
  · exact (by decide : ∀ q : Fin 2, kv_F 4 q.1 < kq_n 4) ⟨q, hq⟩
  · exact (by decide : ∀ q : Fin 3, kv_F 5 q.1 < kq_n 5) ⟨q, hq⟩
  · exact (by decide : ∀ q : Fin 16, kv_F 6 q.1 < kq_n 6) ⟨q, hq⟩
theorem rX7_kind_24 {vs : List pt_V} {M M' : pt_M} {x : Int32} {L : List (Nat × pt_V)} (hn : narrow .boolean (.int x) = .int x) (hvs : (vs.map pt_w).sum ≤ 4) (hX : M'.2.2.2.2 = M.2.2.2.2) (h : pt_Go YX7_kind (0, pt_en 0 vs, [], M) (24, L, [pt_i x], M')) : pt_Does yX7_kind YX7_kind vs M (some (pt_i x)) M' := pt_does_go tX7_kind_ok nX7_kind hvs hX ⟨_, by with_unfolding_all rfl, rfl, _, rfl, hn⟩ h
theorem rX7_kind_45 {vs : List pt_V} {M M' : pt_M} {x : Int32} {L : List (Nat × pt_V)} (hn : narrow .boolean (.int x) = .int x) (hvs : (vs.map pt_w).sum ≤ 4) (hX : M'.2.2.2.2 = M.2.2.2.2) (h : pt_Go YX7_kind (0, pt_en 0 vs, [], M) (45, L, [pt_i x], M')) : pt_Does yX7_kind YX7_kind vs M (some (pt_i x)) M' := pt_does_go tX7_kind_ok nX7_kind hvs hX ⟨_, by with_unfolding_all rfl, rfl, _, rfl, hn⟩ h
theorem rX7_kind_81 {vs : List pt_V} {M M' : pt_M} {x : Int32} {L : List (Nat × pt_V)} (hn : narrow .boolean (.int x) = .int x) (hvs : (vs.map pt_w).sum ≤ 4) (hX : M'.2.2.2.2 = M.2.2.2.2) (h : pt_Go YX7_kind (0, pt_en 0 vs, [], M) (81, L, [pt_i x], M')) : pt_Does yX7_kind YX7_kind vs M (some (pt_i x)) M' := pt_does_go tX7_kind_ok nX7_kind hvs hX ⟨_, by with_unfolding_all rfl, rfl, _, rfl, hn⟩ h
set_option maxRecDepth 100000 in
theorem gX7_kind_0_1 (x1 : Int32) (x2 : Int32) (x3 : Int32) (M2 M3 : pt_M) (M : pt_M) (h1 : sl_P x1) (h2 : ¬ x2 < 3) (h3 : ¬ x2 ≤ 6) :
    pt_Go YX7_kind (0, [(0, pt_r 7 0), (1, pt_i x1), (2, pt_i x2), (3, pt_i x3)], [], M)
      (24, [(0, pt_r 7 0), (1, pt_i x1), (2, pt_i x2), (3, pt_i x3)], [pt_i 0], (pt_wF M 7 0 0 0)) :=
  pt_run_ok tX7_kind_ok 13 [.inr (1, some (pt_i 1), (pt_wF M 7 0 0 0)), .inl false, .inl false, .inl false] (P := pt_Cal YX7_kind (.invokestatic 85) [pt_i x1] (pt_wF M 7 0 0 0) (some (pt_i 1)) (pt_wF M 7 0 0 0) ∧ (¬ (1 : Int32) = (0 : Int32)) ∧ (¬ x2 < 3) ∧ (¬ x2 ≤ 6) ∧ True) (by with_unfolding_all rfl) ⟨(pt_callS kX7_kind_85 mX7_isSlot rfl (dX7_isSlot_1 h1)), (by decide), h2, h3, trivial⟩
set_option maxRecDepth 100000 in
theorem gX7_kind_0_2 (x1 : Int32) (x2 : Int32) (x3 : Int32) (M2 M3 : pt_M) (M : pt_M) (h1 : sl_P x1) (h2 : ¬ x2 < 3) (h3 : x2 ≤ 6) (h4 : pt_Does yX7_find YX7_find [pt_r 7 0, pt_i x2] (pt_wF M 7 0 0 0) none M2) (h5 : ¬ x3 < 0) (h6 : pt_in x2 7) (h7 : ¬ x3 < (pt_A M2 44 0 (pt_nt x2))) :
    pt_Go YX7_kind (0, [(0, pt_r 7 0), (1, pt_i x1), (2, pt_i x2), (3, pt_i x3)], [], M)
      (45, [(0, pt_r 7 0), (1, pt_i x1), (2, pt_i x2), (3, pt_i x3)], [pt_i 0], M2) :=
  pt_run_ok tX7_kind_ok 24 [.inr (1, some (pt_i 1), (pt_wF M 7 0 0 0)), .inl false, .inl false, .inl true, .inr (2, none, M2), .inl false, .inl false] (P := pt_Cal YX7_kind (.invokestatic 85) [pt_i x1] (pt_wF M 7 0 0 0) (some (pt_i 1)) (pt_wF M 7 0 0 0) ∧ (¬ (1 : Int32) = (0 : Int32)) ∧ (¬ x2 < 3) ∧ (x2 ≤ 6) ∧ pt_Cal YX7_kind (.invokevirtual 199) [pt_r 7 0, pt_i x2] (pt_wF M 7 0 0 0) none M2 ∧ (¬ x3 < 0) ∧ (pt_in x2 7) ∧ (¬ x3 < (pt_A M2 44 0 (pt_nt x2))) ∧ True) (by with_unfolding_all rfl) ⟨(pt_callS kX7_kind_85 mX7_isSlot rfl (dX7_isSlot_1 h1)), (by decide), h2, h3, (pt_callV (i := 0) kX7_kind_199 mX7_find rfl (by decide) rfl h4), h5, h6, h7, trivial⟩
set_option maxRecDepth 100000 in
theorem gX7_kind_0_3 (x1 : Int32) (x2 : Int32) (x3 : Int32) (M2 M3 : pt_M) (M : pt_M) (h1 : sl_P x1) (h2 : ¬ x2 < 3) (h3 : x2 ≤ 6) (h4 : pt_Does yX7_find YX7_find [pt_r 7 0, pt_i x2] (pt_wF M 7 0 0 0) none M2) (h5 : ¬ x3 < 0) (h6 : pt_in x2 7) (h7 : x3 < (pt_A M2 44 0 (pt_nt x2))) (h8 : pt_in ((64 * x2) + x3) 448) (h9 : pt_Does yX7_byBits YX7_byBits [pt_r 7 0, pt_i x2, pt_i (pt_A M2 45 0 (pt_nt ((64 * x2) + x3)))] M2 none M3) (h10 : cc_P 720 (120 * x1)) (h11 : pt_in x1 6) :
    pt_Go YX7_kind (0, [(0, pt_r 7 0), (1, pt_i x1), (2, pt_i x2), (3, pt_i x3)], [], M)
      (81, [(0, pt_r 7 0), (1, pt_i x1), (2, pt_i x2), (3, pt_i x3)], [pt_i 1], (pt_wA (cc_M M3 720 (120 * x1)) 31 0 (upd (pt_A (cc_M M3 720 (120 * x1)) 31 0) (pt_nt x1) x2))) :=
  pt_run_ok tX7_kind_ok 46 [.inr (1, some (pt_i 1), (pt_wF M 7 0 0 0)), .inl false, .inl false, .inl true, .inr (2, none, M2), .inl false, .inl true, .inr (3, none, M3), .inr (3, none, (cc_M M3 720 (120 * x1)))] (P := pt_Cal YX7_kind (.invokestatic 85) [pt_i x1] (pt_wF M 7 0 0 0) (some (pt_i 1)) (pt_wF M 7 0 0 0) ∧ (¬ (1 : Int32) = (0 : Int32)) ∧ (¬ x2 < 3) ∧ (x2 ≤ 6) ∧ pt_Cal YX7_kind (.invokevirtual 199) [pt_r 7 0, pt_i x2] (pt_wF M 7 0 0 0) none M2 ∧ (¬ x3 < 0) ∧ (pt_in x2 7) ∧ (x3 < (pt_A M2 44 0 (pt_nt x2))) ∧ (pt_in ((64 * x2) + x3) 448) ∧ pt_Cal YX7_kind (.invokevirtual 196) [pt_r 7 0, pt_i x2, pt_i (pt_A M2 45 0 (pt_nt ((64 * x2) + x3)))] M2 none M3 ∧ pt_Cal YX7_kind (.invokevirtual 103) [pt_r 7 0, pt_i 720, pt_i (120 * x1)] M3 none (cc_M M3 720 (120 * x1)) ∧ (pt_in x1 6) ∧ True) (by with_unfolding_all rfl) ⟨(pt_callS kX7_kind_85 mX7_isSlot rfl (dX7_isSlot_1 h1)), (by decide), h2, h3, (pt_callV (i := 0) kX7_kind_199 mX7_find rfl (by decide) rfl h4), h5, h6, h7, h8, (pt_callV (i := 0) kX7_kind_196 mX7_byBits rfl (by decide) rfl h9), (pt_callV (i := 0) kX7_kind_103 mX7_copy rfl (by decide) rfl (dX7_copy h10)), h11, trivial⟩
set_option maxRecDepth 100000 in
theorem gX7_kind_0_4 (x1 : Int32) (x2 : Int32) (x3 : Int32) (M2 M3 : pt_M) (M : pt_M) (h1 : sl_P x1) (h2 : ¬ x2 < 3) (h3 : x2 ≤ 6) (h4 : pt_Does yX7_find YX7_find [pt_r 7 0, pt_i x2] (pt_wF M 7 0 0 0) none M2) (h5 : x3 < 0) :
    pt_Go YX7_kind (0, [(0, pt_r 7 0), (1, pt_i x1), (2, pt_i x2), (3, pt_i x3)], [], M)
      (45, [(0, pt_r 7 0), (1, pt_i x1), (2, pt_i x2), (3, pt_i x3)], [pt_i 0], M2) :=
  pt_run_ok tX7_kind_ok 18 [.inr (1, some (pt_i 1), (pt_wF M 7 0 0 0)), .inl false, .inl false, .inl true, .inr (2, none, M2), .inl true] (P := pt_Cal YX7_kind (.invokestatic 85) [pt_i x1] (pt_wF M 7 0 0 0) (some (pt_i 1)) (pt_wF M 7 0 0 0) ∧ (¬ (1 : Int32) = (0 : Int32)) ∧ (¬ x2 < 3) ∧ (x2 ≤ 6) ∧ pt_Cal YX7_kind (.invokevirtual 199) [pt_r 7 0, pt_i x2] (pt_wF M 7 0 0 0) none M2 ∧ (x3 < 0) ∧ True) (by with_unfolding_all rfl) ⟨(pt_callS kX7_kind_85 mX7_isSlot rfl (dX7_isSlot_1 h1)), (by decide), h2, h3, (pt_callV (i := 0) kX7_kind_199 mX7_find rfl (by decide) rfl h4), h5, trivial⟩
set_option maxRecDepth 100000 in
theorem gX7_kind_0_5 (x1 : Int32) (x2 : Int32) (x3 : Int32) (M2 M3 : pt_M) (M : pt_M) (h1 : sl_P x1) (h2 : x2 < 3) :
    pt_Go YX7_kind (0, [(0, pt_r 7 0), (1, pt_i x1), (2, pt_i x2), (3, pt_i x3)], [], M)
      (24, [(0, pt_r 7 0), (1, pt_i x1), (2, pt_i x2), (3, pt_i x3)], [pt_i 0], (pt_wF M 7 0 0 0)) :=
  pt_run_ok tX7_kind_ok 10 [.inr (1, some (pt_i 1), (pt_wF M 7 0 0 0)), .inl false, .inl true] (P := pt_Cal YX7_kind (.invokestatic 85) [pt_i x1] (pt_wF M 7 0 0 0) (some (pt_i 1)) (pt_wF M 7 0 0 0) ∧ (¬ (1 : Int32) = (0 : Int32)) ∧ (x2 < 3) ∧ True) (by with_unfolding_all rfl) ⟨(pt_callS kX7_kind_85 mX7_isSlot rfl (dX7_isSlot_1 h1)), (by decide), h2, trivial⟩
set_option maxRecDepth 100000 in
theorem gX7_kind_0_6 (x1 : Int32) (x2 : Int32) (x3 : Int32) (M2 M3 : pt_M) (M : pt_M) (h1 : ¬ sl_P x1) :
    pt_Go YX7_kind (0, [(0, pt_r 7 0), (1, pt_i x1), (2, pt_i x2), (3, pt_i x3)], [], M)
      (24, [(0, pt_r 7 0), (1, pt_i x1), (2, pt_i x2), (3, pt_i x3)], [pt_i 0], (pt_wF M 7 0 0 0)) :=
  pt_run_ok tX7_kind_ok 7 [.inr (1, some (pt_i 0), (pt_wF M 7 0 0 0)), .inl true] (P := pt_Cal YX7_kind (.invokestatic 85) [pt_i x1] (pt_wF M 7 0 0 0) (some (pt_i 0)) (pt_wF M 7 0 0 0) ∧ ((0 : Int32) = (0 : Int32)) ∧ True) (by with_unfolding_all rfl) ⟨(pt_callS kX7_kind_85 mX7_isSlot rfl (dX7_isSlot_0 h1)), (by decide), trivial⟩
theorem op_kind {M : pt_M} (h : IV_P M) (x y z : Int32) : op_P yX6_kind YX6_kind yX7_kind YX7_kind [pt_i x, pt_i y, pt_i z] M := by
  obtain ⟨A, hC, hM⟩ := h
  have no : ∀ {M1}, pt_Go YX7_kind (0, [(0, pt_r 7 0), (1, pt_i x), (2, pt_i y), (3, pt_i z)], [], M1) (24, [(0, pt_r 7 0), (1, pt_i x), (2, pt_i y), (3, pt_i z)], [pt_i 0], t0_M M1) → pt_Does yX7_kind YX7_kind [pt_r 7 0, pt_i x, pt_i y, pt_i z] M1 (some (pt_i 0)) (t0_M M1) := fun g => rX7_kind_24 rfl (Nat.le_of_ble_eq_true rfl) rfl g
  rcases k0_or y with c | ⟨n, h3, h6, rfl⟩
  · by_cases hx : sl_P x
    · have d1 : pt_Does yX6_kind YX6_kind [pt_r 2 0, pt_i x, pt_i y, pt_i z] M (some (pt_i 0)) M := by
        by_cases hz : z < 0
        · exact dX6_kind0_p3 x y z 0 M c hx hz
        · exact dX6_kind0_p1 x y z 0 M c hx hz hz
      refine op_of hC hM (A' := A) (M2 := t0_M M) d1 mo_P.rf hC fun hM => ⟨?_, t0_ca, hM⟩
      rcases k0_x c with w | ⟨w1, w2⟩
      · exact no (gX7_kind_0_5 x y z M M M hx w)
      · exact no (gX7_kind_0_1 x y z M M M hx w1 w2)
    · exact op_of hC hM (A' := A) (M2 := t0_M M) (dX6_kind0_p4 x y z 0 M c hx) mo_P.rf hC fun hM => ⟨no (gX7_kind_0_6 x y z M M M hx), t0_ca, hM⟩
  obtain ⟨a1, a2, a3, a4⟩ := n36 h3 h6
  by_cases hx : sl_P x
  case neg => exact op_of hC hM (A' := A) (M2 := t0_M M) (dX6_kind_no h3 h6 (.inl hx)) mo_P.rf hC fun hM => ⟨no (gX7_kind_0_6 x (nI n) z M M M hx), t0_ca, hM⟩
  by_cases hz : z < 0
  · refine op_ex hC hM (A' := A) (dX6_kind_no h3 h6 (.inr (.inl hz))) mo_P.rf hC fun hM => ?_
    obtain ⟨M2, d, c, m, -, -⟩ := dX7_find h3 h6 (MR_t0 hM)
    exact ⟨M2, rX7_kind_45 rfl (Nat.le_of_ble_eq_true rfl) (by have y := dX_x5 d; exact y) (gX7_kind_0_4 x (nI n) z M2 M M hx a1 a2 d hz), t0_ca.tr c, m⟩
  by_cases hw : z < nI (kn_F n)
  case neg =>
    refine op_ex hC hM (A' := A) (dX6_kind_no h3 h6 (.inr (.inr hw))) mo_P.rf hC fun hM => ?_
    obtain ⟨M2, d, c, m, e, -⟩ := dX7_find h3 h6 (MR_t0 hM)
    exact ⟨M2, rX7_kind_45 rfl (Nat.le_of_ble_eq_true rfl) (by have y := dX_x5 d; exact y) (gX7_kind_0_2 x (nI n) z M2 M M hx a1 a2 d hz a3 (by rw [a4, e]; exact hw)), t0_ca.tr c, m⟩
  have hkn := (kq_mn h3 h6).2
  obtain ⟨q, hq, rfl⟩ := nI_of hz
  have hq : q < kn_F n := Classical.byContradiction fun y => (Int32.not_le.mpr hw) ((nI_leI (by omega) hq).mpr (by omega))
  obtain ⟨s, hs, rfl⟩ := sl_of hx
  have z7 : pt_R M 0 < 7 := hC.2.1 0 (by decide)
  have hCk : CR_P (kn_M M (kv_F n q) (rk_0 n n) (rk_0 n n)) A := CR_wA hC (by decide) (by decide) (by decide) (by decide) (by decide) (by decide)
  have hmk : mo_P M (kn_M M (kv_F n q) (rk_0 n n) (rk_0 n n)) := ⟨rfl, fun k hk => funext fun i => if_neg fun z => by omega⟩
  refine op_ex hC hM (dX6_kind_in h3 h6 ⟨hx, pt_in_nI hs (by decide), z7⟩ hq) (hmk.tr kt_mo) (CR_keep hCk hs h3 (by omega)) fun hM => ?_
  obtain ⟨M2, d, c, m, e1, e2⟩ := dX7_find h3 h6 (MR_t0 hM)
  have e64 : (64 : Int32) * nI n + nI q = nI (64 * n + q) := by rw [show (64 : Int32) = nI 64 from rfl, pk_mul, nI_add]
  have b := dX7_byBits (M := M2) h3 h6 (kv_ltn h3 h6 hq)
  have g := gX7_kind_0_3 (nI s) (nI n) (nI q) M2 (st_M M2 720 n fun i j k => !(kv_F n q).testBit (kq_pos n i j k)) _ hx a1 a2 d hz a3 (by rw [a4, e1]; exact hw) (by rw [e64]; exact pt_in_nI (by omega) (by decide)) (by rw [e64, pt_nt_nI (by omega), e2 q hq]; exact b) ⟨720, 120 * s, rfl, m120 s, by decide, by omega, by omega⟩ (pt_in_nI hs (by decide))
  rw [pt_nt_nI (show s < 2 ^ 31 by omega), m120] at g
  refine ⟨pk7_M M2 s n fun i j k => !(kv_F n q).testBit (kq_pos n i j k), rX7_kind_81 rfl (Nat.le_of_ble_eq_true rfl) (by have y := dX_x5 d; exact y) g, (t0_ca.tr c).tr pk7_ca, MR_S (MR_pk7 m hs h3 (by omega)) fun i j k b1 b2 b3 => ?_⟩
  obtain ⟨p1, -⟩ := (kq_p h3 h6).2.2 i j k b1 b2 b3
  unfold kn_M
  rw [pt_A_wA]
  have e : co_F (pt_A M 24 0) (kb_W (kv_F n q) (rk_0 n n)) (rk_0 n n) (rk_F n i j k) = kb_W (kv_F n q) (rk_0 n n) (rk_F n i j k) := if_pos (by omega)
  rw [e]
  unfold kb_W
  rw [show rk_0 n n - 1 - rk_F n i j k = kq_pos n i j k by omega]
  cases (kv_F n q).testBit (kq_pos n i j k) <;> rfl
