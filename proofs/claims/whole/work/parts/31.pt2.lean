/-! PointTables: mirror, without, rename, table -/
def om_M (M : pt_M) (n : Nat) (g : Nat → Nat) : pt_M := pt_wA M 23 0 (co_F (pt_A M 23 0) (fun p => nI (g p)) n)
theorem om_zero (M : pt_M) (g : Nat → Nat) : om_M M 0 g = M := by
  unfold om_M
  rw [co_zero, pt_wA_self]
theorem om_step (M : pt_M) {p : Nat} (g : Nat → Nat) (hp : p < 2 ^ 31) : pt_wA (om_M M p g) 23 0 (upd (pt_A (om_M M p g) 23 0) (pt_nt (nI p)) (nI (g p))) = om_M M (p + 1) g := by
  unfold om_M
  rw [pt_wA_wA, pt_A_wA, pt_nt_nI hp]
  exact congrArg _ (co_step _ (fun p => nI (g p)) p)
theorem om_at {M : pt_M} {n i : Nat} {g : Nat → Nat} (h : i < n) : pt_A (om_M M n g) 23 0 i = nI (g i) := by
  unfold om_M
  rw [pt_A_wA]
  exact if_pos h
theorem om_A {M : pt_M} {n k i : Nat} {g : Nat → Nat} (h : k ≠ 23) : pt_A (om_M M n g) k i = pt_A M k i := if_neg fun z => h z.1
theorem om_tt {M : pt_M} {t u n m : Nat} {B : Nat → Nat → Nat → Bool} {g : Nat → Nat} {x : Int32} (ht : t < 7) (h : tb_P M u m B) (hu : u ≠ t) (hx : x = nI n) (hn : n ≤ 10) (hg : ∀ i, i < n → g i < 10) : tt_H (om_M M n g) t u x n B g := ⟨ht, h.1, hu, hx, hn, fun i j hi hj => by rw [om_A (by decide)]; exact h.2.2.2 i j hi hj, fun i hi => ⟨om_at hi, hg i hi⟩⟩
theorem rX6_mirror_18 {vs : List pt_V} {M M' : pt_M} {x : Int32} {L : List (Nat × pt_V)} (hn : narrow .boolean (.int x) = .int x) (hvs : (vs.map pt_w).sum ≤ 5) (hX : M'.2.2.2.2 = M.2.2.2.2) (h : pt_Go YX6_mirror (0, pt_en 0 vs, [], M) (18, L, [pt_i x], M')) : pt_Does yX6_mirror YX6_mirror vs M (some (pt_i x)) M' := pt_does_go tX6_mirror_ok nX6_mirror hvs hX ⟨_, by with_unfolding_all rfl, rfl, _, rfl, hn⟩ h
theorem rX6_mirror_69 {vs : List pt_V} {M M' : pt_M} {x : Int32} {L : List (Nat × pt_V)} (hn : narrow .boolean (.int x) = .int x) (hvs : (vs.map pt_w).sum ≤ 5) (hX : M'.2.2.2.2 = M.2.2.2.2) (h : pt_Go YX6_mirror (0, pt_en 0 vs, [], M) (69, L, [pt_i x], M')) : pt_Does yX6_mirror YX6_mirror vs M (some (pt_i x)) M' := pt_does_go tX6_mirror_ok nX6_mirror hvs hX ⟨_, by with_unfolding_all rfl, rfl, _, rfl, hn⟩ h
set_option maxRecDepth 100000 in
theorem gX6_mirror_0_1 (x1 : Int32) (x2 : Int32) (n : Nat) (B : Nat → Nat → Nat → Bool) (og : Nat → Nat) (M : pt_M) (h1 : tA_P M x2) (h2 : sl_P x1) :
    pt_Go YX6_mirror (0, [(0, pt_r 2 0), (1, pt_i x1), (2, pt_i x2)], [], M)
      (22, [(0, pt_r 2 0), (1, pt_i x1), (3, pt_r 3 (pt_R M (pt_nt x2 + 1))), (4, pt_i 0)], [], M) :=
  (pt_run_ok tX6_mirror_ok 11 [.inr (2, some (pt_r 3 (pt_R M (pt_nt x2 + 1))), M), .inr (1, some (pt_i 1), M), .inl false] (P := pt_Cal YX6_mirror (.invokevirtual 120) [pt_r 2 0, pt_i x2] M (some (pt_r 3 (pt_R M (pt_nt x2 + 1)))) M ∧ pt_Cal YX6_mirror (.invokestatic 75) [pt_i x1] M (some (pt_i 1)) M ∧ (¬ (1 : Int32) = (0 : Int32)) ∧ True) (by with_unfolding_all rfl) ⟨(pt_callV (i := 0) kX6_mirror_120 mX6_tableAt rfl (by decide) rfl (dX6_tableAt_1 h1)), (pt_callS kX6_mirror_75 mX6_isSlot rfl (dX6_isSlot_1 h2)), (by decide), trivial⟩ : pt_Go YX6_mirror _ (22, [(0, pt_r 2 0), (1, pt_i x1), (2, pt_i x2), (3, pt_r 3 (pt_R M (pt_nt x2 + 1))), (4, pt_i 0)], [], M)).tr (pt_pick [0, 1, 3, 4] (by with_unfolding_all rfl))
set_option maxRecDepth 100000 in
theorem gX6_mirror_0_2 (x1 : Int32) (x2 : Int32) (n : Nat) (B : Nat → Nat → Nat → Bool) (og : Nat → Nat) (M : pt_M) (h1 : tA_P M x2) (h2 : ¬ sl_P x1) :
    pt_Go YX6_mirror (0, [(0, pt_r 2 0), (1, pt_i x1), (2, pt_i x2)], [], M)
      (18, [(0, pt_r 2 0), (1, pt_i x1), (2, pt_i x2), (3, pt_r 3 (pt_R M (pt_nt x2 + 1)))], [pt_i 0], M) :=
  pt_run_ok tX6_mirror_ok 8 [.inr (2, some (pt_r 3 (pt_R M (pt_nt x2 + 1))), M), .inr (1, some (pt_i 0), M), .inl true] (P := pt_Cal YX6_mirror (.invokevirtual 120) [pt_r 2 0, pt_i x2] M (some (pt_r 3 (pt_R M (pt_nt x2 + 1)))) M ∧ pt_Cal YX6_mirror (.invokestatic 75) [pt_i x1] M (some (pt_i 0)) M ∧ ((0 : Int32) = (0 : Int32)) ∧ True) (by with_unfolding_all rfl) ⟨(pt_callV (i := 0) kX6_mirror_120 mX6_tableAt rfl (by decide) rfl (dX6_tableAt_1 h1)), (pt_callS kX6_mirror_75 mX6_isSlot rfl (dX6_isSlot_0 h2)), (by decide), trivial⟩
set_option maxRecDepth 100000 in
theorem gX6_mirror_0_3 (x1 : Int32) (x2 : Int32) (n : Nat) (B : Nat → Nat → Nat → Bool) (og : Nat → Nat) (M : pt_M) (h1 : tN_P M x2) (h2 : sl_P x1) :
    pt_Go YX6_mirror (0, [(0, pt_r 2 0), (1, pt_i x1), (2, pt_i x2)], [], M)
      (18, [(0, pt_r 2 0), (1, pt_i x1), (2, pt_i x2), (3, pt_r 0 0)], [pt_i 0], M) :=
  pt_run_ok tX6_mirror_ok 10 [.inr (2, some (pt_r 0 0), M), .inr (1, some (pt_i 1), M), .inl false] (P := pt_Cal YX6_mirror (.invokevirtual 120) [pt_r 2 0, pt_i x2] M (some (pt_r 0 0)) M ∧ pt_Cal YX6_mirror (.invokestatic 75) [pt_i x1] M (some (pt_i 1)) M ∧ (¬ (1 : Int32) = (0 : Int32)) ∧ True) (by with_unfolding_all rfl) ⟨(pt_callV (i := 0) kX6_mirror_120 mX6_tableAt rfl (by decide) rfl (dX6_tableAt_0 h1)), (pt_callS kX6_mirror_75 mX6_isSlot rfl (dX6_isSlot_1 h2)), (by decide), trivial⟩
set_option maxRecDepth 100000 in
theorem gX6_mirror_0_4 (x1 : Int32) (x2 : Int32) (n : Nat) (B : Nat → Nat → Nat → Bool) (og : Nat → Nat) (M : pt_M) (h1 : tN_P M x2) (h2 : ¬ sl_P x1) :
    pt_Go YX6_mirror (0, [(0, pt_r 2 0), (1, pt_i x1), (2, pt_i x2)], [], M)
      (18, [(0, pt_r 2 0), (1, pt_i x1), (2, pt_i x2), (3, pt_r 0 0)], [pt_i 0], M) :=
  pt_run_ok tX6_mirror_ok 8 [.inr (2, some (pt_r 0 0), M), .inr (1, some (pt_i 0), M), .inl true] (P := pt_Cal YX6_mirror (.invokevirtual 120) [pt_r 2 0, pt_i x2] M (some (pt_r 0 0)) M ∧ pt_Cal YX6_mirror (.invokestatic 75) [pt_i x1] M (some (pt_i 0)) M ∧ ((0 : Int32) = (0 : Int32)) ∧ True) (by with_unfolding_all rfl) ⟨(pt_callV (i := 0) kX6_mirror_120 mX6_tableAt rfl (by decide) rfl (dX6_tableAt_0 h1)), (pt_callS kX6_mirror_75 mX6_isSlot rfl (dX6_isSlot_0 h2)), (by decide), trivial⟩
set_option maxRecDepth 100000 in
theorem gX6_mirror_22_1 (l1 : Int32) (l3 : Nat) (l4 : Int32) (n : Nat) (B : Nat → Nat → Nat → Bool) (og : Nat → Nat) (M : pt_M) (h1 : l3 < 7) (h2 : ¬ (pt_F M 3 0 l3) ≤ l4) (h3 : pt_in l4 10) :
    pt_Go YX6_mirror (22, [(0, pt_r 2 0), (1, pt_i l1), (3, pt_r 3 l3), (4, pt_i l4)], [], M)
      (22, [(0, pt_r 2 0), (1, pt_i l1), (3, pt_r 3 l3), (4, pt_i (l4 + 1))], [], (pt_wA M 23 0 (upd (pt_A M 23 0) (pt_nt l4) l4))) :=
  pt_run_ok tX6_mirror_ok 11 [.inl false] (P := (l3 < 7) ∧ (¬ (pt_F M 3 0 l3) ≤ l4) ∧ (pt_in l4 10) ∧ True) (by with_unfolding_all rfl) ⟨h1, h2, h3, trivial⟩
set_option maxRecDepth 100000 in
theorem gX6_mirror_22_2 (l1 : Int32) (l3 : Nat) (l4 : Int32) (n : Nat) (B : Nat → Nat → Nat → Bool) (og : Nat → Nat) (M : pt_M) (h1 : l3 < 7) (h2 : (pt_F M 3 0 l3) ≤ l4) (h3 : (pt_R M 0) < 7) (h4 : tt_H M (pt_R M 0) l3 (pt_F M 3 0 l3) n B og) (h5 : kp_P (mt_F M (pt_R M 0) n fun i j k => B (og i) (og j) (og k) != true) l1) :
    pt_Go YX6_mirror (22, [(0, pt_r 2 0), (1, pt_i l1), (3, pt_r 3 l3), (4, pt_i l4)], [], M)
      (69, [(0, pt_r 2 0), (1, pt_i l1), (3, pt_r 3 l3), (4, pt_i l4)], [pt_i 1], (kp_M (mt_F M (pt_R M 0) n fun i j k => B (og i) (og j) (og k) != true) l1)) :=
  pt_run_ok tX6_mirror_ok 17 [.inl true, .inr (5, none, (mt_F M (pt_R M 0) n fun i j k => B (og i) (og j) (og k) != true)), .inr (2, none, (kp_M (mt_F M (pt_R M 0) n fun i j k => B (og i) (og j) (og k) != true) l1))] (P := (l3 < 7) ∧ ((pt_F M 3 0 l3) ≤ l4) ∧ (l3 < 7) ∧ pt_Cal YX6_mirror (.invokevirtual 137) [pt_r 3 (pt_R M 0), pt_r 3 l3, pt_r 23 0, pt_i (pt_F M 3 0 l3), pt_i 1] M none (mt_F M (pt_R M 0) n fun i j k => B (og i) (og j) (og k) != true) ∧ pt_Cal YX6_mirror (.invokevirtual 88) [pt_r 2 0, pt_i l1] (mt_F M (pt_R M 0) n fun i j k => B (og i) (og j) (og k) != true) none (kp_M (mt_F M (pt_R M 0) n fun i j k => B (og i) (og j) (og k) != true) l1) ∧ True) (by with_unfolding_all rfl) ⟨h1, h2, h1, (pt_callV (i := (pt_R M 0)) kX6_mirror_137 mX4_takeTurns rfl h3 rfl (dX4_takeTurns_t (mr := true) h4)), (pt_callV (i := 0) kX6_mirror_88 mX6_keepSpare rfl (by decide) rfl (dX6_keepSpare h5)), trivial⟩
theorem dX6_mirror_p2 (x1 : Int32) (x2 : Int32) (n : Nat) (B : Nat → Nat → Nat → Bool) (og : Nat → Nat) (M : pt_M) (h1 : tA_P M x2) (h2 : ¬ sl_P x1) : pt_Does yX6_mirror YX6_mirror [pt_r 2 0, pt_i x1, pt_i x2] M (some (pt_i 0)) M :=
  rX6_mirror_18 pt_nar0 (Nat.le_of_ble_eq_true rfl) rfl (gX6_mirror_0_2 x1 x2 n B og M h1 h2)
theorem dX6_mirror_p3 (x1 : Int32) (x2 : Int32) (n : Nat) (B : Nat → Nat → Nat → Bool) (og : Nat → Nat) (M : pt_M) (h1 : tN_P M x2) (h2 : sl_P x1) : pt_Does yX6_mirror YX6_mirror [pt_r 2 0, pt_i x1, pt_i x2] M (some (pt_i 0)) M :=
  rX6_mirror_18 pt_nar0 (Nat.le_of_ble_eq_true rfl) rfl (gX6_mirror_0_3 x1 x2 n B og M h1 h2)
theorem dX6_mirror_p4 (x1 : Int32) (x2 : Int32) (n : Nat) (B : Nat → Nat → Nat → Bool) (og : Nat → Nat) (M : pt_M) (h1 : tN_P M x2) (h2 : ¬ sl_P x1) : pt_Does yX6_mirror YX6_mirror [pt_r 2 0, pt_i x1, pt_i x2] M (some (pt_i 0)) M :=
  rX6_mirror_18 pt_nar0 (Nat.le_of_ble_eq_true rfl) rfl (gX6_mirror_0_4 x1 x2 n B og M h1 h2)
theorem dX6_mirror {x1 x2 : Int32} {n : Nat} {B : Nat → Nat → Nat → Bool} {M : pt_M} (hA : tA_P M x2) (hk : kp_P M x1) (h : tb_P M (pt_R M (pt_nt x2 + 1)) n B) (hu : pt_R M (pt_nt x2 + 1) ≠ pt_R M 0) : pt_Does yX6_mirror YX6_mirror [pt_r 2 0, pt_i x1, pt_i x2] M (some (pt_i 1)) (kp_M (mt_F (om_M M n fun i => i) (pt_R M 0) n fun i j k => B i j k != true) x1) := by
  obtain ⟨ht, hn, hs, hB⟩ := id h
  generalize hu' : pt_R M (pt_nt x2 + 1) = u at *
  have K := pt_for0 (Y := YX6_mirror) (fun p => (22, [(0, pt_r 2 0), (1, pt_i x1), (3, pt_r 3 u), (4, pt_i (nI p))], [], om_M M p fun i => i)) (n := n) fun p hp => by
    refine (gX6_mirror_22_1 x1 u (nI p) n B (fun i => i) (om_M M p fun i => i) ht (by show ¬ pt_F M 3 0 u ≤ _; rw [hs]; exact nI_ge hp (by omega)) (pt_in_nI (by omega) (by decide))).to ?_
    rw [nI_1, om_step M (fun i => i) (by omega)]
  have g0 := gX6_mirror_0_1 x1 x2 n B (fun i => i) M hA hk.1
  rw [hu'] at g0
  refine rX6_mirror_69 rfl (Nat.le_of_ble_eq_true rfl) rfl ((g0.toM (om_zero M _).symm).tr (K.tr (gX6_mirror_22_2 x1 u (nI n) n B (fun i => i) (om_M M n fun i => i) ht (by show pt_F M 3 0 u ≤ _; rw [hs]; exact Int32.le_refl _) hk.2.2 (om_tt hk.2.2 h hu hs hn (fun i hi => by omega)) hk)))
theorem rX6_without_38 {vs : List pt_V} {M M' : pt_M} {x : Int32} {L : List (Nat × pt_V)} (hn : narrow .boolean (.int x) = .int x) (hvs : (vs.map pt_w).sum ≤ 6) (hX : M'.2.2.2.2 = M.2.2.2.2) (h : pt_Go YX6_without (0, pt_en 0 vs, [], M) (38, L, [pt_i x], M')) : pt_Does yX6_without YX6_without vs M (some (pt_i x)) M' := pt_does_go tX6_without_ok nX6_without hvs hX ⟨_, by with_unfolding_all rfl, rfl, _, rfl, hn⟩ h
theorem rX6_without_109 {vs : List pt_V} {M M' : pt_M} {x : Int32} {L : List (Nat × pt_V)} (hn : narrow .boolean (.int x) = .int x) (hvs : (vs.map pt_w).sum ≤ 6) (hX : M'.2.2.2.2 = M.2.2.2.2) (h : pt_Go YX6_without (0, pt_en 0 vs, [], M) (109, L, [pt_i x], M')) : pt_Does yX6_without YX6_without vs M (some (pt_i x)) M' := pt_does_go tX6_without_ok nX6_without hvs hX ⟨_, by with_unfolding_all rfl, rfl, _, rfl, hn⟩ h
set_option maxRecDepth 100000 in
theorem gX6_without_0_1 (x1 : Int32) (x2 : Int32) (x3 : Int32) (n : Nat) (B : Nat → Nat → Nat → Bool) (og : Nat → Nat) (M : pt_M) (h1 : tA_P M x2) (h2 : sl_P x1) (h3 : (pt_R M (pt_nt x2 + 1)) < 7) (h4 : hp_P M (pt_R M (pt_nt x2 + 1)) x3) (h5 : (pt_F M 3 0 (pt_R M (pt_nt x2 + 1))) = 3) :
    pt_Go YX6_without (0, [(0, pt_r 2 0), (1, pt_i x1), (2, pt_i x2), (3, pt_i x3)], [], M)
      (38, [(0, pt_r 2 0), (1, pt_i x1), (2, pt_i x2), (3, pt_i x3), (4, pt_r 3 (pt_R M (pt_nt x2 + 1)))], [pt_i 0], M) :=
  pt_run_ok tX6_without_ok 18 [.inr (2, some (pt_r 3 (pt_R M (pt_nt x2 + 1))), M), .inr (1, some (pt_i 1), M), .inl false, .inr (2, some (pt_i 1), M), .inl false, .inl false] (P := pt_Cal YX6_without (.invokevirtual 120) [pt_r 2 0, pt_i x2] M (some (pt_r 3 (pt_R M (pt_nt x2 + 1)))) M ∧ pt_Cal YX6_without (.invokestatic 75) [pt_i x1] M (some (pt_i 1)) M ∧ (¬ (1 : Int32) = (0 : Int32)) ∧ pt_Cal YX6_without (.invokevirtual 147) [pt_r 3 (pt_R M (pt_nt x2 + 1)), pt_i x3] M (some (pt_i 1)) M ∧ (¬ (1 : Int32) = (0 : Int32)) ∧ ((pt_R M (pt_nt x2 + 1)) < 7) ∧ ((pt_F M 3 0 (pt_R M (pt_nt x2 + 1))) = 3) ∧ True) (by with_unfolding_all rfl) ⟨(pt_callV (i := 0) kX6_without_120 mX6_tableAt rfl (by decide) rfl (dX6_tableAt_1 h1)), (pt_callS kX6_without_75 mX6_isSlot rfl (dX6_isSlot_1 h2)), (by decide), (pt_callV (i := (pt_R M (pt_nt x2 + 1))) kX6_without_147 mX4_hasPoint rfl h3 rfl (dX4_hasPoint_1 h3 h4)), (by decide), h3, h5, trivial⟩
set_option maxRecDepth 100000 in
theorem gX6_without_0_2 (x1 : Int32) (x2 : Int32) (x3 : Int32) (n : Nat) (B : Nat → Nat → Nat → Bool) (og : Nat → Nat) (M : pt_M) (h1 : tA_P M x2) (h2 : sl_P x1) (h3 : (pt_R M (pt_nt x2 + 1)) < 7) (h4 : hp_P M (pt_R M (pt_nt x2 + 1)) x3) (h5 : ¬ (pt_F M 3 0 (pt_R M (pt_nt x2 + 1))) = 3) :
    pt_Go YX6_without (0, [(0, pt_r 2 0), (1, pt_i x1), (2, pt_i x2), (3, pt_i x3)], [], M)
      (42, [(0, pt_r 2 0), (1, pt_i x1), (3, pt_i x3), (4, pt_r 3 (pt_R M (pt_nt x2 + 1))), (5, pt_i 0)], [], M) :=
  (pt_run_ok tX6_without_ok 19 [.inr (2, some (pt_r 3 (pt_R M (pt_nt x2 + 1))), M), .inr (1, some (pt_i 1), M), .inl false, .inr (2, some (pt_i 1), M), .inl false, .inl true] (P := pt_Cal YX6_without (.invokevirtual 120) [pt_r 2 0, pt_i x2] M (some (pt_r 3 (pt_R M (pt_nt x2 + 1)))) M ∧ pt_Cal YX6_without (.invokestatic 75) [pt_i x1] M (some (pt_i 1)) M ∧ (¬ (1 : Int32) = (0 : Int32)) ∧ pt_Cal YX6_without (.invokevirtual 147) [pt_r 3 (pt_R M (pt_nt x2 + 1)), pt_i x3] M (some (pt_i 1)) M ∧ (¬ (1 : Int32) = (0 : Int32)) ∧ ((pt_R M (pt_nt x2 + 1)) < 7) ∧ (¬ (pt_F M 3 0 (pt_R M (pt_nt x2 + 1))) = 3) ∧ True) (by with_unfolding_all rfl) ⟨(pt_callV (i := 0) kX6_without_120 mX6_tableAt rfl (by decide) rfl (dX6_tableAt_1 h1)), (pt_callS kX6_without_75 mX6_isSlot rfl (dX6_isSlot_1 h2)), (by decide), (pt_callV (i := (pt_R M (pt_nt x2 + 1))) kX6_without_147 mX4_hasPoint rfl h3 rfl (dX4_hasPoint_1 h3 h4)), (by decide), h3, h5, trivial⟩ : pt_Go YX6_without _ (42, [(0, pt_r 2 0), (1, pt_i x1), (2, pt_i x2), (3, pt_i x3), (4, pt_r 3 (pt_R M (pt_nt x2 + 1))), (5, pt_i 0)], [], M)).tr (pt_pick [0, 1, 3, 4, 5] (by with_unfolding_all rfl))
set_option maxRecDepth 100000 in
theorem gX6_without_0_3 (x1 : Int32) (x2 : Int32) (x3 : Int32) (n : Nat) (B : Nat → Nat → Nat → Bool) (og : Nat → Nat) (M : pt_M) (h1 : tA_P M x2) (h2 : sl_P x1) (h3 : (pt_R M (pt_nt x2 + 1)) < 7) (h4 : ¬ hp_P M (pt_R M (pt_nt x2 + 1)) x3) :
    pt_Go YX6_without (0, [(0, pt_r 2 0), (1, pt_i x1), (2, pt_i x2), (3, pt_i x3)], [], M)
      (38, [(0, pt_r 2 0), (1, pt_i x1), (2, pt_i x2), (3, pt_i x3), (4, pt_r 3 (pt_R M (pt_nt x2 + 1)))], [pt_i 0], M) :=
  pt_run_ok tX6_without_ok 14 [.inr (2, some (pt_r 3 (pt_R M (pt_nt x2 + 1))), M), .inr (1, some (pt_i 1), M), .inl false, .inr (2, some (pt_i 0), M), .inl true] (P := pt_Cal YX6_without (.invokevirtual 120) [pt_r 2 0, pt_i x2] M (some (pt_r 3 (pt_R M (pt_nt x2 + 1)))) M ∧ pt_Cal YX6_without (.invokestatic 75) [pt_i x1] M (some (pt_i 1)) M ∧ (¬ (1 : Int32) = (0 : Int32)) ∧ pt_Cal YX6_without (.invokevirtual 147) [pt_r 3 (pt_R M (pt_nt x2 + 1)), pt_i x3] M (some (pt_i 0)) M ∧ ((0 : Int32) = (0 : Int32)) ∧ True) (by with_unfolding_all rfl) ⟨(pt_callV (i := 0) kX6_without_120 mX6_tableAt rfl (by decide) rfl (dX6_tableAt_1 h1)), (pt_callS kX6_without_75 mX6_isSlot rfl (dX6_isSlot_1 h2)), (by decide), (pt_callV (i := (pt_R M (pt_nt x2 + 1))) kX6_without_147 mX4_hasPoint rfl h3 rfl (dX4_hasPoint_0 h3 h4)), (by decide), trivial⟩
set_option maxRecDepth 100000 in
theorem gX6_without_0_4 (x1 : Int32) (x2 : Int32) (x3 : Int32) (n : Nat) (B : Nat → Nat → Nat → Bool) (og : Nat → Nat) (M : pt_M) (h1 : tA_P M x2) (h2 : ¬ sl_P x1) :
    pt_Go YX6_without (0, [(0, pt_r 2 0), (1, pt_i x1), (2, pt_i x2), (3, pt_i x3)], [], M)
      (38, [(0, pt_r 2 0), (1, pt_i x1), (2, pt_i x2), (3, pt_i x3), (4, pt_r 3 (pt_R M (pt_nt x2 + 1)))], [pt_i 0], M) :=
  pt_run_ok tX6_without_ok 8 [.inr (2, some (pt_r 3 (pt_R M (pt_nt x2 + 1))), M), .inr (1, some (pt_i 0), M), .inl true] (P := pt_Cal YX6_without (.invokevirtual 120) [pt_r 2 0, pt_i x2] M (some (pt_r 3 (pt_R M (pt_nt x2 + 1)))) M ∧ pt_Cal YX6_without (.invokestatic 75) [pt_i x1] M (some (pt_i 0)) M ∧ ((0 : Int32) = (0 : Int32)) ∧ True) (by with_unfolding_all rfl) ⟨(pt_callV (i := 0) kX6_without_120 mX6_tableAt rfl (by decide) rfl (dX6_tableAt_1 h1)), (pt_callS kX6_without_75 mX6_isSlot rfl (dX6_isSlot_0 h2)), (by decide), trivial⟩
set_option maxRecDepth 100000 in
theorem gX6_without_0_5 (x1 : Int32) (x2 : Int32) (x3 : Int32) (n : Nat) (B : Nat → Nat → Nat → Bool) (og : Nat → Nat) (M : pt_M) (h1 : tN_P M x2) (h2 : sl_P x1) :
    pt_Go YX6_without (0, [(0, pt_r 2 0), (1, pt_i x1), (2, pt_i x2), (3, pt_i x3)], [], M)
      (38, [(0, pt_r 2 0), (1, pt_i x1), (2, pt_i x2), (3, pt_i x3), (4, pt_r 0 0)], [pt_i 0], M) :=
  pt_run_ok tX6_without_ok 10 [.inr (2, some (pt_r 0 0), M), .inr (1, some (pt_i 1), M), .inl false] (P := pt_Cal YX6_without (.invokevirtual 120) [pt_r 2 0, pt_i x2] M (some (pt_r 0 0)) M ∧ pt_Cal YX6_without (.invokestatic 75) [pt_i x1] M (some (pt_i 1)) M ∧ (¬ (1 : Int32) = (0 : Int32)) ∧ True) (by with_unfolding_all rfl) ⟨(pt_callV (i := 0) kX6_without_120 mX6_tableAt rfl (by decide) rfl (dX6_tableAt_0 h1)), (pt_callS kX6_without_75 mX6_isSlot rfl (dX6_isSlot_1 h2)), (by decide), trivial⟩
set_option maxRecDepth 100000 in
theorem gX6_without_0_6 (x1 : Int32) (x2 : Int32) (x3 : Int32) (n : Nat) (B : Nat → Nat → Nat → Bool) (og : Nat → Nat) (M : pt_M) (h1 : tN_P M x2) (h2 : ¬ sl_P x1) :
    pt_Go YX6_without (0, [(0, pt_r 2 0), (1, pt_i x1), (2, pt_i x2), (3, pt_i x3)], [], M)
      (38, [(0, pt_r 2 0), (1, pt_i x1), (2, pt_i x2), (3, pt_i x3), (4, pt_r 0 0)], [pt_i 0], M) :=
  pt_run_ok tX6_without_ok 8 [.inr (2, some (pt_r 0 0), M), .inr (1, some (pt_i 0), M), .inl true] (P := pt_Cal YX6_without (.invokevirtual 120) [pt_r 2 0, pt_i x2] M (some (pt_r 0 0)) M ∧ pt_Cal YX6_without (.invokestatic 75) [pt_i x1] M (some (pt_i 0)) M ∧ ((0 : Int32) = (0 : Int32)) ∧ True) (by with_unfolding_all rfl) ⟨(pt_callV (i := 0) kX6_without_120 mX6_tableAt rfl (by decide) rfl (dX6_tableAt_0 h1)), (pt_callS kX6_without_75 mX6_isSlot rfl (dX6_isSlot_0 h2)), (by decide), trivial⟩
set_option maxRecDepth 100000 in
theorem gX6_without_42_1 (l1 : Int32) (l3 : Int32) (l4 : Nat) (l5 : Int32) (n : Nat) (B : Nat → Nat → Nat → Bool) (og : Nat → Nat) (M : pt_M) (h1 : l4 < 7) (h2 : ¬ ((pt_F M 3 0 l4) - 1) ≤ l5) (h3 : ¬ l3 ≤ l5) (h4 : pt_in l5 10) :
    pt_Go YX6_without (42, [(0, pt_r 2 0), (1, pt_i l1), (3, pt_i l3), (4, pt_r 3 l4), (5, pt_i l5)], [], M)
      (42, [(0, pt_r 2 0), (1, pt_i l1), (3, pt_i l3), (4, pt_r 3 l4), (5, pt_i (l5 + 1))], [], (pt_wA M 23 0 (upd (pt_A M 23 0) (pt_nt l5) l5))) :=
  pt_run_ok tX6_without_ok 17 [.inl false, .inl false] (P := (l4 < 7) ∧ (¬ ((pt_F M 3 0 l4) - 1) ≤ l5) ∧ (¬ l3 ≤ l5) ∧ (pt_in l5 10) ∧ True) (by with_unfolding_all rfl) ⟨h1, h2, h3, h4, trivial⟩
set_option maxRecDepth 100000 in
theorem gX6_without_42_2 (l1 : Int32) (l3 : Int32) (l4 : Nat) (l5 : Int32) (n : Nat) (B : Nat → Nat → Nat → Bool) (og : Nat → Nat) (M : pt_M) (h1 : l4 < 7) (h2 : ¬ ((pt_F M 3 0 l4) - 1) ≤ l5) (h3 : l3 ≤ l5) (h4 : pt_in l5 10) :
    pt_Go YX6_without (42, [(0, pt_r 2 0), (1, pt_i l1), (3, pt_i l3), (4, pt_r 3 l4), (5, pt_i l5)], [], M)
      (42, [(0, pt_r 2 0), (1, pt_i l1), (3, pt_i l3), (4, pt_r 3 l4), (5, pt_i (l5 + 1))], [], (pt_wA M 23 0 (upd (pt_A M 23 0) (pt_nt l5) (l5 + 1)))) :=
  pt_run_ok tX6_without_ok 18 [.inl false, .inl true] (P := (l4 < 7) ∧ (¬ ((pt_F M 3 0 l4) - 1) ≤ l5) ∧ (l3 ≤ l5) ∧ (pt_in l5 10) ∧ True) (by with_unfolding_all rfl) ⟨h1, h2, h3, h4, trivial⟩
set_option maxRecDepth 100000 in
theorem gX6_without_42_3 (l1 : Int32) (l3 : Int32) (l4 : Nat) (l5 : Int32) (n : Nat) (B : Nat → Nat → Nat → Bool) (og : Nat → Nat) (M : pt_M) (h1 : l4 < 7) (h2 : ((pt_F M 3 0 l4) - 1) ≤ l5) (h3 : (pt_R M 0) < 7) (h4 : tt_H M (pt_R M 0) l4 ((pt_F M 3 0 l4) - 1) n B og) (h5 : kp_P (mt_F M (pt_R M 0) n fun i j k => B (og i) (og j) (og k) != false) l1) :
    pt_Go YX6_without (42, [(0, pt_r 2 0), (1, pt_i l1), (3, pt_i l3), (4, pt_r 3 l4), (5, pt_i l5)], [], M)
      (109, [(0, pt_r 2 0), (1, pt_i l1), (3, pt_i l3), (4, pt_r 3 l4), (5, pt_i l5)], [pt_i 1], (kp_M (mt_F M (pt_R M 0) n fun i j k => B (og i) (og j) (og k) != false) l1)) :=
  pt_run_ok tX6_without_ok 21 [.inl true, .inr (5, none, (mt_F M (pt_R M 0) n fun i j k => B (og i) (og j) (og k) != false)), .inr (2, none, (kp_M (mt_F M (pt_R M 0) n fun i j k => B (og i) (og j) (og k) != false) l1))] (P := (l4 < 7) ∧ (((pt_F M 3 0 l4) - 1) ≤ l5) ∧ (l4 < 7) ∧ pt_Cal YX6_without (.invokevirtual 137) [pt_r 3 (pt_R M 0), pt_r 3 l4, pt_r 23 0, pt_i ((pt_F M 3 0 l4) - 1), pt_i 0] M none (mt_F M (pt_R M 0) n fun i j k => B (og i) (og j) (og k) != false) ∧ pt_Cal YX6_without (.invokevirtual 88) [pt_r 2 0, pt_i l1] (mt_F M (pt_R M 0) n fun i j k => B (og i) (og j) (og k) != false) none (kp_M (mt_F M (pt_R M 0) n fun i j k => B (og i) (og j) (og k) != false) l1) ∧ True) (by with_unfolding_all rfl) ⟨h1, h2, h1, (pt_callV (i := (pt_R M 0)) kX6_without_137 mX4_takeTurns rfl h3 rfl (dX4_takeTurns_t (mr := false) h4)), (pt_callV (i := 0) kX6_without_88 mX6_keepSpare rfl (by decide) rfl (dX6_keepSpare h5)), trivial⟩
theorem dX6_without_p1 (x1 : Int32) (x2 : Int32) (x3 : Int32) (n : Nat) (B : Nat → Nat → Nat → Bool) (og : Nat → Nat) (M : pt_M) (h1 : tA_P M x2) (h2 : sl_P x1) (h3 : (pt_R M (pt_nt x2 + 1)) < 7) (h4 : hp_P M (pt_R M (pt_nt x2 + 1)) x3) (h5 : (pt_F M 3 0 (pt_R M (pt_nt x2 + 1))) = 3) : pt_Does yX6_without YX6_without [pt_r 2 0, pt_i x1, pt_i x2, pt_i x3] M (some (pt_i 0)) M :=
  rX6_without_38 pt_nar0 (Nat.le_of_ble_eq_true rfl) rfl (gX6_without_0_1 x1 x2 x3 n B og M h1 h2 h3 h4 h5)
theorem dX6_without_p3 (x1 : Int32) (x2 : Int32) (x3 : Int32) (n : Nat) (B : Nat → Nat → Nat → Bool) (og : Nat → Nat) (M : pt_M) (h1 : tA_P M x2) (h2 : sl_P x1) (h3 : (pt_R M (pt_nt x2 + 1)) < 7) (h4 : ¬ hp_P M (pt_R M (pt_nt x2 + 1)) x3) : pt_Does yX6_without YX6_without [pt_r 2 0, pt_i x1, pt_i x2, pt_i x3] M (some (pt_i 0)) M :=
  rX6_without_38 pt_nar0 (Nat.le_of_ble_eq_true rfl) rfl (gX6_without_0_3 x1 x2 x3 n B og M h1 h2 h3 h4)
theorem dX6_without_p4 (x1 : Int32) (x2 : Int32) (x3 : Int32) (n : Nat) (B : Nat → Nat → Nat → Bool) (og : Nat → Nat) (M : pt_M) (h1 : tA_P M x2) (h2 : ¬ sl_P x1) : pt_Does yX6_without YX6_without [pt_r 2 0, pt_i x1, pt_i x2, pt_i x3] M (some (pt_i 0)) M :=
  rX6_without_38 pt_nar0 (Nat.le_of_ble_eq_true rfl) rfl (gX6_without_0_4 x1 x2 x3 n B og M h1 h2)
theorem dX6_without_p5 (x1 : Int32) (x2 : Int32) (x3 : Int32) (n : Nat) (B : Nat → Nat → Nat → Bool) (og : Nat → Nat) (M : pt_M) (h1 : tN_P M x2) (h2 : sl_P x1) : pt_Does yX6_without YX6_without [pt_r 2 0, pt_i x1, pt_i x2, pt_i x3] M (some (pt_i 0)) M :=
  rX6_without_38 pt_nar0 (Nat.le_of_ble_eq_true rfl) rfl (gX6_without_0_5 x1 x2 x3 n B og M h1 h2)
theorem dX6_without_p6 (x1 : Int32) (x2 : Int32) (x3 : Int32) (n : Nat) (B : Nat → Nat → Nat → Bool) (og : Nat → Nat) (M : pt_M) (h1 : tN_P M x2) (h2 : ¬ sl_P x1) : pt_Does yX6_without YX6_without [pt_r 2 0, pt_i x1, pt_i x2, pt_i x3] M (some (pt_i 0)) M :=
  rX6_without_38 pt_nar0 (Nat.le_of_ble_eq_true rfl) rfl (gX6_without_0_6 x1 x2 x3 n B og M h1 h2)
theorem dX6_without {x1 x2 : Int32} {n q : Nat} {B : Nat → Nat → Nat → Bool} {M : pt_M} (hA : tA_P M x2) (hk : kp_P M x1) (h : tb_P M (pt_R M (pt_nt x2 + 1)) n B) (hu : pt_R M (pt_nt x2 + 1) ≠ pt_R M 0) (hq : q < n) (hn3 : n ≠ 3) (h3 : 3 ≤ n) : pt_Does yX6_without YX6_without [pt_r 2 0, pt_i x1, pt_i x2, pt_i (nI q)] M (some (pt_i 1)) (kp_M (mt_F (om_M M (n - 1) fun i => if i < q then i else i + 1) (pt_R M 0) (n - 1) fun i j k => B (if i < q then i else i + 1) (if j < q then j else j + 1) (if k < q then k else k + 1) != false) x1) := by
  obtain ⟨ht, hn, hs, hB⟩ := id h
  have hhp : hp_P M (pt_R M (pt_nt x2 + 1)) (nI q) := ⟨nI_pos (by omega), by rw [hs]; exact nI_ge hq (by omega)⟩
  generalize hu' : pt_R M (pt_nt x2 + 1) = u at *
  have e1 : nI n - 1 = nI (n - 1) := pk_sub (a := n) (b := 1) (by omega)
  have K := pt_for0 (Y := YX6_without) (fun p => (42, [(0, pt_r 2 0), (1, pt_i x1), (3, pt_i (nI q)), (4, pt_r 3 u), (5, pt_i (nI p))], [], om_M M p fun i => if i < q then i else i + 1)) (n := n - 1) fun p hp => by
    have hlt : ¬ pt_F (om_M M p fun i => if i < q then i else i + 1) 3 0 u - 1 ≤ nI p := by
      show ¬ pt_F M 3 0 u - 1 ≤ _
      rw [hs, e1]
      exact nI_ge hp (by omega)
    have hst := om_step M (p := p) (fun i => if i < q then i else i + 1) (by omega)
    by_cases c : p < q
    · refine (gX6_without_42_1 x1 (nI q) u (nI p) n B (fun i => i) (om_M M p fun i => if i < q then i else i + 1) ht hlt (nI_ge c (by omega)) (pt_in_nI (by omega) (by decide))).to ?_
      rw [if_pos c] at hst
      rw [nI_1, hst]
    · refine (gX6_without_42_2 x1 (nI q) u (nI p) n B (fun i => i) (om_M M p fun i => if i < q then i else i + 1) ht hlt (nI_le (by omega) (by omega)) (pt_in_nI (by omega) (by decide))).to ?_
      rw [if_neg c] at hst
      rw [nI_1, hst]
  have g0 := gX6_without_0_2 x1 x2 (nI q) n B (fun i => i) M hA hk.1
  rw [hu'] at g0
  have g0 := g0 ht hhp (by rw [hs]; exact fun z => hn3 ((nI_eq (b := 3) (by omega) (by decide)).mp z))
  refine rX6_without_109 rfl (Nat.le_of_ble_eq_true rfl) rfl ((g0.toM (om_zero M _).symm).tr (K.tr (gX6_without_42_3 x1 (nI q) u (nI (n - 1)) (n - 1) B (fun i => if i < q then i else i + 1) (om_M M (n - 1) fun i => if i < q then i else i + 1) ht (by show pt_F M 3 0 u - 1 ≤ _; rw [hs, e1]; exact Int32.le_refl _) hk.2.2 (om_tt hk.2.2 h hu (by show pt_F M 3 0 u - 1 = _; rw [hs, e1]) (by omega) (fun i hi => by split <;> omega)) hk)))
/-! renaming by the tape -/
def sn_F (b : Nat → Nat) : Nat → Nat
  | 0 => 0
  | k + 1 => sn_F b k ||| 2 ^ b k
theorem sn_lt {b : Nat → Nat} : ∀ {k : Nat}, (∀ i, i < k → b i < 10) → sn_F b k < 1024
  | 0, _ => Nat.zero_lt_succ _
  | k + 1, h => Nat.or_lt_two_pow (n := 10) (sn_lt fun i hi => h i (by omega)) (p2_lt (h k (by omega)))
theorem rX6_renameByTape_32 {vs : List pt_V} {M M' : pt_M} {x : Int32} {L : List (Nat × pt_V)} (hn : narrow .boolean (.int x) = .int x) (hvs : (vs.map pt_w).sum ≤ 6) (hX : M'.2.2.2.2 = M.2.2.2.2) (h : pt_Go YX6_renameByTape (0, pt_en 0 vs, [], M) (32, L, [pt_i x], M')) : pt_Does yX6_renameByTape YX6_renameByTape vs M (some (pt_i x)) M' := pt_does_go tX6_renameByTape_ok nX6_renameByTape hvs hX ⟨_, by with_unfolding_all rfl, rfl, _, rfl, hn⟩ h
theorem rX6_renameByTape_79 {vs : List pt_V} {M M' : pt_M} {x : Int32} {L : List (Nat × pt_V)} (hn : narrow .boolean (.int x) = .int x) (hvs : (vs.map pt_w).sum ≤ 6) (hX : M'.2.2.2.2 = M.2.2.2.2) (h : pt_Go YX6_renameByTape (0, pt_en 0 vs, [], M) (79, L, [pt_i x], M')) : pt_Does yX6_renameByTape YX6_renameByTape vs M (some (pt_i x)) M' := pt_does_go tX6_renameByTape_ok nX6_renameByTape hvs hX ⟨_, by with_unfolding_all rfl, rfl, _, rfl, hn⟩ h
theorem rX6_renameByTape_110 {vs : List pt_V} {M M' : pt_M} {x : Int32} {L : List (Nat × pt_V)} (hn : narrow .boolean (.int x) = .int x) (hvs : (vs.map pt_w).sum ≤ 6) (hX : M'.2.2.2.2 = M.2.2.2.2) (h : pt_Go YX6_renameByTape (0, pt_en 0 vs, [], M) (110, L, [pt_i x], M')) : pt_Does yX6_renameByTape YX6_renameByTape vs M (some (pt_i x)) M' := pt_does_go tX6_renameByTape_ok nX6_renameByTape hvs hX ⟨_, by with_unfolding_all rfl, rfl, _, rfl, hn⟩ h
theorem rX6_renameByTape_134 {vs : List pt_V} {M M' : pt_M} {x : Int32} {L : List (Nat × pt_V)} (hn : narrow .boolean (.int x) = .int x) (hvs : (vs.map pt_w).sum ≤ 6) (hX : M'.2.2.2.2 = M.2.2.2.2) (h : pt_Go YX6_renameByTape (0, pt_en 0 vs, [], M) (134, L, [pt_i x], M')) : pt_Does yX6_renameByTape YX6_renameByTape vs M (some (pt_i x)) M' := pt_does_go tX6_renameByTape_ok nX6_renameByTape hvs hX ⟨_, by with_unfolding_all rfl, rfl, _, rfl, hn⟩ h
set_option maxRecDepth 100000 in
theorem gX6_renameByTape_0_1 (x1 : Int32) (x2 : Int32) (n : Nat) (B : Nat → Nat → Nat → Bool) (og : Nat → Nat) (M : pt_M) (h1 : tA_P M x2) (h2 : sl_P x1) (h3 : (pt_R M (pt_nt x2 + 1)) < 7) (h4 : ¬ (pt_F M 4 1 0) = (pt_F M 3 0 (pt_R M (pt_nt x2 + 1)))) :
    pt_Go YX6_renameByTape (0, [(0, pt_r 2 0), (1, pt_i x1), (2, pt_i x2)], [], M)
      (32, [(0, pt_r 2 0), (1, pt_i x1), (2, pt_i x2), (3, pt_r 3 (pt_R M (pt_nt x2 + 1)))], [pt_i 0], M) :=
  pt_run_ok tX6_renameByTape_ok 16 [.inr (2, some (pt_r 3 (pt_R M (pt_nt x2 + 1))), M), .inr (1, some (pt_i 1), M), .inl false, .inl false] (P := pt_Cal YX6_renameByTape (.invokevirtual 120) [pt_r 2 0, pt_i x2] M (some (pt_r 3 (pt_R M (pt_nt x2 + 1)))) M ∧ pt_Cal YX6_renameByTape (.invokestatic 75) [pt_i x1] M (some (pt_i 1)) M ∧ (¬ (1 : Int32) = (0 : Int32)) ∧ ((pt_R M (pt_nt x2 + 1)) < 7) ∧ (¬ (pt_F M 4 1 0) = (pt_F M 3 0 (pt_R M (pt_nt x2 + 1)))) ∧ True) (by with_unfolding_all rfl) ⟨(pt_callV (i := 0) kX6_renameByTape_120 mX6_tableAt rfl (by decide) rfl (dX6_tableAt_1 h1)), (pt_callS kX6_renameByTape_75 mX6_isSlot rfl (dX6_isSlot_1 h2)), (by decide), h3, h4, trivial⟩
set_option maxRecDepth 100000 in
theorem gX6_renameByTape_0_2 (x1 : Int32) (x2 : Int32) (n : Nat) (B : Nat → Nat → Nat → Bool) (og : Nat → Nat) (M : pt_M) (h1 : tA_P M x2) (h2 : sl_P x1) (h3 : (pt_R M (pt_nt x2 + 1)) < 7) (h4 : (pt_F M 4 1 0) = (pt_F M 3 0 (pt_R M (pt_nt x2 + 1)))) :
    pt_Go YX6_renameByTape (0, [(0, pt_r 2 0), (1, pt_i x1), (2, pt_i x2)], [], M)
      (39, [(0, pt_r 2 0), (1, pt_i x1), (3, pt_r 3 (pt_R M (pt_nt x2 + 1))), (4, pt_i 0), (5, pt_i 0)], [], M) :=
  (pt_run_ok tX6_renameByTape_ok 19 [.inr (2, some (pt_r 3 (pt_R M (pt_nt x2 + 1))), M), .inr (1, some (pt_i 1), M), .inl false, .inl true] (P := pt_Cal YX6_renameByTape (.invokevirtual 120) [pt_r 2 0, pt_i x2] M (some (pt_r 3 (pt_R M (pt_nt x2 + 1)))) M ∧ pt_Cal YX6_renameByTape (.invokestatic 75) [pt_i x1] M (some (pt_i 1)) M ∧ (¬ (1 : Int32) = (0 : Int32)) ∧ ((pt_R M (pt_nt x2 + 1)) < 7) ∧ ((pt_F M 4 1 0) = (pt_F M 3 0 (pt_R M (pt_nt x2 + 1)))) ∧ True) (by with_unfolding_all rfl) ⟨(pt_callV (i := 0) kX6_renameByTape_120 mX6_tableAt rfl (by decide) rfl (dX6_tableAt_1 h1)), (pt_callS kX6_renameByTape_75 mX6_isSlot rfl (dX6_isSlot_1 h2)), (by decide), h3, h4, trivial⟩ : pt_Go YX6_renameByTape _ (39, [(0, pt_r 2 0), (1, pt_i x1), (2, pt_i x2), (3, pt_r 3 (pt_R M (pt_nt x2 + 1))), (4, pt_i 0), (5, pt_i 0)], [], M)).tr (pt_pick [0, 1, 3, 4, 5] (by with_unfolding_all rfl))
set_option maxRecDepth 100000 in
theorem gX6_renameByTape_0_3 (x1 : Int32) (x2 : Int32) (n : Nat) (B : Nat → Nat → Nat → Bool) (og : Nat → Nat) (M : pt_M) (h1 : tA_P M x2) (h2 : ¬ sl_P x1) :
    pt_Go YX6_renameByTape (0, [(0, pt_r 2 0), (1, pt_i x1), (2, pt_i x2)], [], M)
      (32, [(0, pt_r 2 0), (1, pt_i x1), (2, pt_i x2), (3, pt_r 3 (pt_R M (pt_nt x2 + 1)))], [pt_i 0], M) :=
  pt_run_ok tX6_renameByTape_ok 8 [.inr (2, some (pt_r 3 (pt_R M (pt_nt x2 + 1))), M), .inr (1, some (pt_i 0), M), .inl true] (P := pt_Cal YX6_renameByTape (.invokevirtual 120) [pt_r 2 0, pt_i x2] M (some (pt_r 3 (pt_R M (pt_nt x2 + 1)))) M ∧ pt_Cal YX6_renameByTape (.invokestatic 75) [pt_i x1] M (some (pt_i 0)) M ∧ ((0 : Int32) = (0 : Int32)) ∧ True) (by with_unfolding_all rfl) ⟨(pt_callV (i := 0) kX6_renameByTape_120 mX6_tableAt rfl (by decide) rfl (dX6_tableAt_1 h1)), (pt_callS kX6_renameByTape_75 mX6_isSlot rfl (dX6_isSlot_0 h2)), (by decide), trivial⟩
set_option maxRecDepth 100000 in
theorem gX6_renameByTape_0_4 (x1 : Int32) (x2 : Int32) (n : Nat) (B : Nat → Nat → Nat → Bool) (og : Nat → Nat) (M : pt_M) (h1 : tN_P M x2) (h2 : sl_P x1) :
    pt_Go YX6_renameByTape (0, [(0, pt_r 2 0), (1, pt_i x1), (2, pt_i x2)], [], M)
      (32, [(0, pt_r 2 0), (1, pt_i x1), (2, pt_i x2), (3, pt_r 0 0)], [pt_i 0], M) :=
  pt_run_ok tX6_renameByTape_ok 10 [.inr (2, some (pt_r 0 0), M), .inr (1, some (pt_i 1), M), .inl false] (P := pt_Cal YX6_renameByTape (.invokevirtual 120) [pt_r 2 0, pt_i x2] M (some (pt_r 0 0)) M ∧ pt_Cal YX6_renameByTape (.invokestatic 75) [pt_i x1] M (some (pt_i 1)) M ∧ (¬ (1 : Int32) = (0 : Int32)) ∧ True) (by with_unfolding_all rfl) ⟨(pt_callV (i := 0) kX6_renameByTape_120 mX6_tableAt rfl (by decide) rfl (dX6_tableAt_0 h1)), (pt_callS kX6_renameByTape_75 mX6_isSlot rfl (dX6_isSlot_1 h2)), (by decide), trivial⟩
set_option maxRecDepth 100000 in
theorem gX6_renameByTape_0_5 (x1 : Int32) (x2 : Int32) (n : Nat) (B : Nat → Nat → Nat → Bool) (og : Nat → Nat) (M : pt_M) (h1 : tN_P M x2) (h2 : ¬ sl_P x1) :
    pt_Go YX6_renameByTape (0, [(0, pt_r 2 0), (1, pt_i x1), (2, pt_i x2)], [], M)
      (32, [(0, pt_r 2 0), (1, pt_i x1), (2, pt_i x2), (3, pt_r 0 0)], [pt_i 0], M) :=
  pt_run_ok tX6_renameByTape_ok 8 [.inr (2, some (pt_r 0 0), M), .inr (1, some (pt_i 0), M), .inl true] (P := pt_Cal YX6_renameByTape (.invokevirtual 120) [pt_r 2 0, pt_i x2] M (some (pt_r 0 0)) M ∧ pt_Cal YX6_renameByTape (.invokestatic 75) [pt_i x1] M (some (pt_i 0)) M ∧ ((0 : Int32) = (0 : Int32)) ∧ True) (by with_unfolding_all rfl) ⟨(pt_callV (i := 0) kX6_renameByTape_120 mX6_tableAt rfl (by decide) rfl (dX6_tableAt_0 h1)), (pt_callS kX6_renameByTape_75 mX6_isSlot rfl (dX6_isSlot_0 h2)), (by decide), trivial⟩
set_option maxRecDepth 100000 in
theorem gX6_renameByTape_39_1 (l1 : Int32) (l3 : Nat) (l4 : Int32) (l5 : Int32) (n : Nat) (B : Nat → Nat → Nat → Bool) (og : Nat → Nat) (M : pt_M) (h1 : l3 < 7) (h2 : ¬ (pt_F M 3 0 l3) ≤ l5) (h3 : by_H M l5) (h4 : pt_in l5 10) (h5 : hp_P (pt_wA M 23 0 (upd (pt_A M 23 0) (pt_nt l5) (pt_A M 14 0 (pt_nt l5)))) l3 (pt_A (pt_wA M 23 0 (upd (pt_A M 23 0) (pt_nt l5) (pt_A M 14 0 (pt_nt l5)))) 23 0 (pt_nt l5))) :
    pt_Go YX6_renameByTape (39, [(0, pt_r 2 0), (1, pt_i l1), (3, pt_r 3 l3), (4, pt_i l4), (5, pt_i l5)], [], M)
      (39, [(0, pt_r 2 0), (1, pt_i l1), (3, pt_r 3 l3), (4, pt_i (l4 ||| ((1 : Int32) <<< ((pt_A (pt_wA M 23 0 (upd (pt_A M 23 0) (pt_nt l5) (pt_A M 14 0 (pt_nt l5)))) 23 0 (pt_nt l5)) &&& 31)))), (5, pt_i (l5 + 1))], [], (pt_wA M 23 0 (upd (pt_A M 23 0) (pt_nt l5) (pt_A M 14 0 (pt_nt l5))))) :=
  pt_run_ok tX6_renameByTape_ok 30 [.inl false, .inr (2, some (pt_i (pt_A M 14 0 (pt_nt l5))), M), .inr (2, some (pt_i 1), (pt_wA M 23 0 (upd (pt_A M 23 0) (pt_nt l5) (pt_A M 14 0 (pt_nt l5))))), .inl true] (P := (l3 < 7) ∧ (¬ (pt_F M 3 0 l3) ≤ l5) ∧ pt_Cal YX6_renameByTape (.invokevirtual 144) [pt_r 4 0, pt_i l5] M (some (pt_i (pt_A M 14 0 (pt_nt l5)))) M ∧ (pt_in l5 10) ∧ (pt_in l5 10) ∧ pt_Cal YX6_renameByTape (.invokevirtual 147) [pt_r 3 l3, pt_i (pt_A (pt_wA M 23 0 (upd (pt_A M 23 0) (pt_nt l5) (pt_A M 14 0 (pt_nt l5)))) 23 0 (pt_nt l5))] (pt_wA M 23 0 (upd (pt_A M 23 0) (pt_nt l5) (pt_A M 14 0 (pt_nt l5)))) (some (pt_i 1)) (pt_wA M 23 0 (upd (pt_A M 23 0) (pt_nt l5) (pt_A M 14 0 (pt_nt l5)))) ∧ (¬ (1 : Int32) = (0 : Int32)) ∧ (pt_in l5 10) ∧ True) (by with_unfolding_all rfl) ⟨h1, h2, (pt_callV (i := 0) kX6_renameByTape_144 mX5_byteAt rfl (by decide) rfl (dX5_byteAt h3)), h4, h4, (pt_callV (i := l3) kX6_renameByTape_147 mX4_hasPoint rfl h1 rfl (dX4_hasPoint_1 h1 h5)), (by decide), h4, trivial⟩
set_option maxRecDepth 100000 in
theorem gX6_renameByTape_39_2 (l1 : Int32) (l3 : Nat) (l4 : Int32) (l5 : Int32) (n : Nat) (B : Nat → Nat → Nat → Bool) (og : Nat → Nat) (M : pt_M) (h1 : l3 < 7) (h2 : ¬ (pt_F M 3 0 l3) ≤ l5) (h3 : by_H M l5) (h4 : pt_in l5 10) (h5 : ¬ hp_P (pt_wA M 23 0 (upd (pt_A M 23 0) (pt_nt l5) (pt_A M 14 0 (pt_nt l5)))) l3 (pt_A (pt_wA M 23 0 (upd (pt_A M 23 0) (pt_nt l5) (pt_A M 14 0 (pt_nt l5)))) 23 0 (pt_nt l5))) :
    pt_Go YX6_renameByTape (39, [(0, pt_r 2 0), (1, pt_i l1), (3, pt_r 3 l3), (4, pt_i l4), (5, pt_i l5)], [], M)
      (79, [(0, pt_r 2 0), (1, pt_i l1), (3, pt_r 3 l3), (4, pt_i l4), (5, pt_i l5)], [pt_i 0], (pt_wA M 23 0 (upd (pt_A M 23 0) (pt_nt l5) (pt_A M 14 0 (pt_nt l5))))) :=
  pt_run_ok tX6_renameByTape_ok 20 [.inl false, .inr (2, some (pt_i (pt_A M 14 0 (pt_nt l5))), M), .inr (2, some (pt_i 0), (pt_wA M 23 0 (upd (pt_A M 23 0) (pt_nt l5) (pt_A M 14 0 (pt_nt l5))))), .inl false] (P := (l3 < 7) ∧ (¬ (pt_F M 3 0 l3) ≤ l5) ∧ pt_Cal YX6_renameByTape (.invokevirtual 144) [pt_r 4 0, pt_i l5] M (some (pt_i (pt_A M 14 0 (pt_nt l5)))) M ∧ (pt_in l5 10) ∧ (pt_in l5 10) ∧ pt_Cal YX6_renameByTape (.invokevirtual 147) [pt_r 3 l3, pt_i (pt_A (pt_wA M 23 0 (upd (pt_A M 23 0) (pt_nt l5) (pt_A M 14 0 (pt_nt l5)))) 23 0 (pt_nt l5))] (pt_wA M 23 0 (upd (pt_A M 23 0) (pt_nt l5) (pt_A M 14 0 (pt_nt l5)))) (some (pt_i 0)) (pt_wA M 23 0 (upd (pt_A M 23 0) (pt_nt l5) (pt_A M 14 0 (pt_nt l5)))) ∧ ((0 : Int32) = (0 : Int32)) ∧ True) (by with_unfolding_all rfl) ⟨h1, h2, (pt_callV (i := 0) kX6_renameByTape_144 mX5_byteAt rfl (by decide) rfl (dX5_byteAt h3)), h4, h4, (pt_callV (i := l3) kX6_renameByTape_147 mX4_hasPoint rfl h1 rfl (dX4_hasPoint_0 h1 h5)), (by decide), trivial⟩
set_option maxRecDepth 100000 in
theorem gX6_renameByTape_39_3 (l1 : Int32) (l3 : Nat) (l4 : Int32) (l5 : Int32) (n : Nat) (B : Nat → Nat → Nat → Bool) (og : Nat → Nat) (M : pt_M) (h1 : l3 < 7) (h2 : (pt_F M 3 0 l3) ≤ l5) (h3 : ¬ l4 = (ep_F M l3)) :
    pt_Go YX6_renameByTape (39, [(0, pt_r 2 0), (1, pt_i l1), (3, pt_r 3 l3), (4, pt_i l4), (5, pt_i l5)], [], M)
      (110, [(0, pt_r 2 0), (1, pt_i l1), (3, pt_r 3 l3), (4, pt_i l4), (5, pt_i l5)], [pt_i 0], M) :=
  pt_run_ok tX6_renameByTape_ok 9 [.inl true, .inr (1, some (pt_i (ep_F M l3)), M), .inl false] (P := (l3 < 7) ∧ ((pt_F M 3 0 l3) ≤ l5) ∧ pt_Cal YX6_renameByTape (.invokevirtual 150) [pt_r 3 l3] M (some (pt_i (ep_F M l3))) M ∧ (¬ l4 = (ep_F M l3)) ∧ True) (by with_unfolding_all rfl) ⟨h1, h2, (pt_callV (i := l3) kX6_renameByTape_150 mX4_everyPoint rfl h1 rfl (dX4_everyPoint h1)), h3, trivial⟩
set_option maxRecDepth 100000 in
theorem gX6_renameByTape_39_4 (l1 : Int32) (l3 : Nat) (l4 : Int32) (l5 : Int32) (n : Nat) (B : Nat → Nat → Nat → Bool) (og : Nat → Nat) (M : pt_M) (h1 : l3 < 7) (h2 : (pt_F M 3 0 l3) ≤ l5) (h3 : l4 = (ep_F M l3)) (h4 : (pt_R M 0) < 7) (h5 : tt_H M (pt_R M 0) l3 (pt_F M 3 0 l3) n B og) (h6 : kp_P (mt_F M (pt_R M 0) n fun i j k => B (og i) (og j) (og k) != false) l1) :
    pt_Go YX6_renameByTape (39, [(0, pt_r 2 0), (1, pt_i l1), (3, pt_r 3 l3), (4, pt_i l4), (5, pt_i l5)], [], M)
      (134, [(0, pt_r 2 0), (1, pt_i l1), (3, pt_r 3 l3), (4, pt_i l4), (5, pt_i l5)], [pt_i 1], (kp_M (mt_F M (pt_R M 0) n fun i j k => B (og i) (og j) (og k) != false) l1)) :=
  pt_run_ok tX6_renameByTape_ok 21 [.inl true, .inr (1, some (pt_i (ep_F M l3)), M), .inl true, .inr (5, none, (mt_F M (pt_R M 0) n fun i j k => B (og i) (og j) (og k) != false)), .inr (2, none, (kp_M (mt_F M (pt_R M 0) n fun i j k => B (og i) (og j) (og k) != false) l1))] (P := (l3 < 7) ∧ ((pt_F M 3 0 l3) ≤ l5) ∧ pt_Cal YX6_renameByTape (.invokevirtual 150) [pt_r 3 l3] M (some (pt_i (ep_F M l3))) M ∧ (l4 = (ep_F M l3)) ∧ (l3 < 7) ∧ pt_Cal YX6_renameByTape (.invokevirtual 137) [pt_r 3 (pt_R M 0), pt_r 3 l3, pt_r 23 0, pt_i (pt_F M 3 0 l3), pt_i 0] M none (mt_F M (pt_R M 0) n fun i j k => B (og i) (og j) (og k) != false) ∧ pt_Cal YX6_renameByTape (.invokevirtual 88) [pt_r 2 0, pt_i l1] (mt_F M (pt_R M 0) n fun i j k => B (og i) (og j) (og k) != false) none (kp_M (mt_F M (pt_R M 0) n fun i j k => B (og i) (og j) (og k) != false) l1) ∧ True) (by with_unfolding_all rfl) ⟨h1, h2, (pt_callV (i := l3) kX6_renameByTape_150 mX4_everyPoint rfl h1 rfl (dX4_everyPoint h1)), h3, h1, (pt_callV (i := (pt_R M 0)) kX6_renameByTape_137 mX4_takeTurns rfl h4 rfl (dX4_takeTurns_t (mr := false) h5)), (pt_callV (i := 0) kX6_renameByTape_88 mX6_keepSpare rfl (by decide) rfl (dX6_keepSpare h6)), trivial⟩
theorem dX6_renameByTape_p1 (x1 : Int32) (x2 : Int32) (n : Nat) (B : Nat → Nat → Nat → Bool) (og : Nat → Nat) (M : pt_M) (h1 : tA_P M x2) (h2 : sl_P x1) (h3 : (pt_R M (pt_nt x2 + 1)) < 7) (h4 : ¬ (pt_F M 4 1 0) = (pt_F M 3 0 (pt_R M (pt_nt x2 + 1)))) : pt_Does yX6_renameByTape YX6_renameByTape [pt_r 2 0, pt_i x1, pt_i x2] M (some (pt_i 0)) M :=
  rX6_renameByTape_32 pt_nar0 (Nat.le_of_ble_eq_true rfl) rfl (gX6_renameByTape_0_1 x1 x2 n B og M h1 h2 h3 h4)
theorem dX6_renameByTape_p3 (x1 : Int32) (x2 : Int32) (n : Nat) (B : Nat → Nat → Nat → Bool) (og : Nat → Nat) (M : pt_M) (h1 : tA_P M x2) (h2 : ¬ sl_P x1) : pt_Does yX6_renameByTape YX6_renameByTape [pt_r 2 0, pt_i x1, pt_i x2] M (some (pt_i 0)) M :=
  rX6_renameByTape_32 pt_nar0 (Nat.le_of_ble_eq_true rfl) rfl (gX6_renameByTape_0_3 x1 x2 n B og M h1 h2)
theorem dX6_renameByTape_p4 (x1 : Int32) (x2 : Int32) (n : Nat) (B : Nat → Nat → Nat → Bool) (og : Nat → Nat) (M : pt_M) (h1 : tN_P M x2) (h2 : sl_P x1) : pt_Does yX6_renameByTape YX6_renameByTape [pt_r 2 0, pt_i x1, pt_i x2] M (some (pt_i 0)) M :=
  rX6_renameByTape_32 pt_nar0 (Nat.le_of_ble_eq_true rfl) rfl (gX6_renameByTape_0_4 x1 x2 n B og M h1 h2)
theorem dX6_renameByTape_p5 (x1 : Int32) (x2 : Int32) (n : Nat) (B : Nat → Nat → Nat → Bool) (og : Nat → Nat) (M : pt_M) (h1 : tN_P M x2) (h2 : ¬ sl_P x1) : pt_Does yX6_renameByTape YX6_renameByTape [pt_r 2 0, pt_i x1, pt_i x2] M (some (pt_i 0)) M :=
  rX6_renameByTape_32 pt_nar0 (Nat.le_of_ble_eq_true rfl) rfl (gX6_renameByTape_0_5 x1 x2 n B og M h1 h2)
def rn_F (n : Nat) (b : Nat → Nat) : Option Nat := fs_F (n - 0) 0 fun k => if b k < n then none else some k
theorem dX6_renameByTape {x1 x2 : Int32} {n : Nat} {b : Nat → Nat} {B : Nat → Nat → Nat → Bool} {M : pt_M} (hA : tA_P M x2) (hk : kp_P M x1) (h : tb_P M (pt_R M (pt_nt x2 + 1)) n B) (hu : pt_R M (pt_nt x2 + 1) ≠ pt_R M 0) (htp : tp_P M n b) :
    (∀ k, rn_F n b = some k → pt_Does yX6_renameByTape YX6_renameByTape [pt_r 2 0, pt_i x1, pt_i x2] M (some (pt_i 0)) (om_M M (k + 1) b)) ∧ (rn_F n b = none → ¬ sn_F b n = 2 ^ n - 1 → pt_Does yX6_renameByTape YX6_renameByTape [pt_r 2 0, pt_i x1, pt_i x2] M (some (pt_i 0)) (om_M M n b)) ∧ (rn_F n b = none → sn_F b n = 2 ^ n - 1 → pt_Does yX6_renameByTape YX6_renameByTape [pt_r 2 0, pt_i x1, pt_i x2] M (some (pt_i 1)) (kp_M (mt_F (om_M M n b) (pt_R M 0) n fun i j k => B (b i) (b j) (b k) != false) x1)) := by
  obtain ⟨ht, hn, hs, hB⟩ := id h
  generalize hu' : pt_R M (pt_nt x2 + 1) = u at *
  have g0 := gX6_renameByTape_0_2 x1 x2 n B b M hA hk.1
  rw [hu'] at g0
  have g0 := g0 ht (by rw [htp.1, hs])
  have step : ∀ k, k < n → pt_A (om_M M k b) 14 0 (pt_nt (nI k)) = nI (b k) := fun k hk => by
    rw [om_A (by decide), pt_nt_nI (by omega)]
    exact (htp.2.2 k hk).1
  have hby : ∀ k, k < n → by_H (om_M M k b) (nI k) := fun k hk => tp_by htp hk
  have hst : ∀ k, k < n → pt_wA (om_M M k b) 23 0 (upd (pt_A (om_M M k b) 23 0) (pt_nt (nI k)) (pt_A (om_M M k b) 14 0 (pt_nt (nI k)))) = om_M M (k + 1) b := fun k hk => by
    rw [step k hk]
    exact om_step M b (by omega)
  have hval : ∀ k, k < n → pt_A (om_M M (k + 1) b) 23 0 (pt_nt (nI k)) = nI (b k) := fun k hk => by
    rw [pt_nt_nI (by omega)]
    exact om_at (by omega)
  have hlt : ∀ k, k < n → ¬ pt_F (om_M M k b) 3 0 u ≤ nI k := fun k hk => by
    show ¬ pt_F M 3 0 u ≤ _
    rw [hs]
    exact nI_ge hk (by omega)
  have hle : pt_F (om_M M n b) 3 0 u ≤ nI n := by
    show pt_F M 3 0 u ≤ _
    rw [hs]
    exact Int32.le_refl _
  have hhp : ∀ k, k < n → (hp_P (om_M M (k + 1) b) u (nI (b k)) ↔ b k < n) := fun k hk => by
    have h256 := (htp.2.2 k hk).2
    unfold hp_P
    show ¬ nI (b k) < 0 ∧ ¬ pt_F M 3 0 u ≤ nI (b k) ↔ _
    rw [hs, nI_leI (by omega) (by omega)]
    constructor
    · intro z; omega
    · intro z
      exact ⟨nI_pos (by omega), by omega⟩
  have hsh : ∀ k, k < n → b k < n → nI (sn_F b k) ||| ((1 : Int32) <<< (nI (b k) &&& 31)) = nI (sn_F b (k + 1)) := fun k hk hb => by
    rw [pt_shl1 (b k) (by omega), pt_or]
    rfl
  have K := pt_nest (Y := YX6_renameByTape) (σ := (0, [(0, pt_r 2 0), (1, pt_i x1), (2, pt_i x2)], [], M)) (τ := (39, [(0, pt_r 2 0), (1, pt_i x1), (3, pt_r 3 u), (4, pt_i (nI (sn_F b n))), (5, pt_i (nI n))], [], om_M M n b)) (R := fun k => (79, [], [pt_i 0], om_M M (k + 1) b)) (n := n) (i := 0)
    (S := fun k => (39, [(0, pt_r 2 0), (1, pt_i x1), (3, pt_r 3 u), (4, pt_i (nI (sn_F b k))), (5, pt_i (nI k))], [], om_M M k b)) (f := fun k => if b k < n then none else some k)
    (Nat.zero_le n) (g0.toM (om_zero M b).symm) pt_Go.rf fun k _ hkn => by
      have hh := hhp k hkn
      have g1 := gX6_renameByTape_39_1 x1 u (nI (sn_F b k)) (nI k) n B b (om_M M k b) ht (hlt k hkn) (hby k hkn) (pt_in_nI (by omega) (by decide))
      have g2 := gX6_renameByTape_39_2 x1 u (nI (sn_F b k)) (nI k) n B b (om_M M k b) ht (hlt k hkn) (hby k hkn) (pt_in_nI (by omega) (by decide))
      rw [hst k hkn, hval k hkn] at g1 g2
      by_cases c : b k < n
      · refine ⟨fun v z => by simp [c] at z, fun _ => (g1 (hh.mpr c)).to ?_⟩
        rw [hsh k hkn c, nI_1]
      · refine ⟨fun v z => ?_, fun z => by simp [c] at z⟩
        simp only [if_neg c, Option.some.injEq] at z
        subst z
        exact (g2 (fun z => c (hh.mp z))).tr pt_dropA
  have hep : ep_F (om_M M n b) u = nI (2 ^ n - 1) := ep_nI hn hs
  have h2n := pb_p2 hn
  refine ⟨fun k hf => rX6_renameByTape_79 rfl (Nat.le_of_ble_eq_true rfl) rfl (K.1 k hf), fun hf hne => ?_, fun hf he => ?_⟩
  · have hb : ∀ i, i < n → b i < 10 := fun i hi => by
      have := fs_none.mp hf i (by omega) (by omega)
      split at this
      · omega
      · cases this
    have hsl := sn_lt hb
    refine rX6_renameByTape_110 rfl (Nat.le_of_ble_eq_true rfl) rfl ((K.2 hf).tr (gX6_renameByTape_39_3 x1 u (nI (sn_F b n)) (nI n) n B b (om_M M n b) ht hle ?_))
    rw [hep]
    exact fun z => hne ((nI_eq (by omega) (by omega)).mp z)
  · have hb : ∀ i, i < n → b i < 10 := fun i hi => by
      have := fs_none.mp hf i (by omega) (by omega)
      split at this
      · omega
      · cases this
    exact rX6_renameByTape_134 rfl (Nat.le_of_ble_eq_true rfl) rfl ((K.2 hf).tr (gX6_renameByTape_39_4 x1 u (nI (sn_F b n)) (nI n) n B b (om_M M n b) ht hle (by rw [hep, he]) hk.2.2 (om_tt hk.2.2 h hu hs hn hb) hk))
/-! a table by the tape's bits -/
def tb_W (b : Nat → Nat) (p : Nat) : Int32 := if (b (p / 8)).testBit (7 - p % 8) then 2 else 1
theorem hb_nI {M : pt_M} {L p : Nat} {b : Nat → Nat} (h : tp_P M L b) (hp : p < 1120) (hL : p / 8 < L) : hb_P M (nI p) ↔ (b (p / 8)).testBit (7 - p % 8) = true := by
  have e8 : nI p / 8 = nI (p / 8) := pk_div (d := 8) (by omega) (by decide) (by decide)
  have er : nI p - nI p / 8 * 8 = nI (p % 8) := pk_rem (d := 8) (by omega) (by decide) (by decide)
  have e7 : (7 : Int32) - nI (p % 8) = nI (7 - p % 8) := pk_sub (a := 7) (by omega)
  obtain ⟨h1, h2⟩ := h.2.2 (p / 8) hL
  have := h.2.1
  unfold hb_P
  rw [er, e8, e7, pt_nt_nI (by omega), h1]
  exact pt_bit1 (by omega) (by omega)
def tw_M (M : pt_M) (N : Nat) (b : Nat → Nat) : pt_M := pt_wA M 24 0 (co_F (pt_A M 24 0) (tb_W b) N)
theorem rX6_tableByTape_32 {vs : List pt_V} {M M' : pt_M} {x : Int32} {L : List (Nat × pt_V)} (hn : narrow .boolean (.int x) = .int x) (hvs : (vs.map pt_w).sum ≤ 4) (hX : M'.2.2.2.2 = M.2.2.2.2) (h : pt_Go YX6_tableByTape (0, pt_en 0 vs, [], M) (32, L, [pt_i x], M')) : pt_Does yX6_tableByTape YX6_tableByTape vs M (some (pt_i x)) M' := pt_does_go tX6_tableByTape_ok nX6_tableByTape hvs hX ⟨_, by with_unfolding_all rfl, rfl, _, rfl, hn⟩ h
theorem rX6_tableByTape_89 {vs : List pt_V} {M M' : pt_M} {x : Int32} {L : List (Nat × pt_V)} (hn : narrow .boolean (.int x) = .int x) (hvs : (vs.map pt_w).sum ≤ 4) (hX : M'.2.2.2.2 = M.2.2.2.2) (h : pt_Go YX6_tableByTape (0, pt_en 0 vs, [], M) (89, L, [pt_i x], M')) : pt_Does yX6_tableByTape YX6_tableByTape vs M (some (pt_i x)) M' := pt_does_go tX6_tableByTape_ok nX6_tableByTape hvs hX ⟨_, by with_unfolding_all rfl, rfl, _, rfl, hn⟩ h
set_option maxRecDepth 100000 in
theorem gX6_tableByTape_0_1 (x1 : Int32) (x2 : Int32) (n : Nat) (M : pt_M) (h1 : sl_P x1) (h2 : sz_P x2) (h3 : ¬ (to_F x2) ≤ ((pt_F M 4 1 0) * 8)) :
    pt_Go YX6_tableByTape (0, [(0, pt_r 2 0), (1, pt_i x1), (2, pt_i x2)], [], M)
      (32, [(0, pt_r 2 0), (1, pt_i x1), (2, pt_i x2)], [pt_i 0], M) :=
  pt_run_ok tX6_tableByTape_ok 15 [.inr (1, some (pt_i 1), M), .inl false, .inr (1, some (pt_i 1), M), .inl false, .inr (1, some (pt_i (to_F x2)), M), .inl false] (P := pt_Cal YX6_tableByTape (.invokestatic 75) [pt_i x1] M (some (pt_i 1)) M ∧ (¬ (1 : Int32) = (0 : Int32)) ∧ pt_Cal YX6_tableByTape (.invokestatic 79) [pt_i x2] M (some (pt_i 1)) M ∧ (¬ (1 : Int32) = (0 : Int32)) ∧ pt_Cal YX6_tableByTape (.invokestatic 110) [pt_i x2] M (some (pt_i (to_F x2))) M ∧ (¬ (to_F x2) ≤ ((pt_F M 4 1 0) * 8)) ∧ True) (by with_unfolding_all rfl) ⟨(pt_callS kX6_tableByTape_75 mX6_isSlot rfl (dX6_isSlot_1 h1)), (by decide), (pt_callS kX6_tableByTape_79 mX6_isSize rfl (dX6_isSize_1 h2)), (by decide), (pt_callS kX6_tableByTape_110 mX6_turnsOf rfl (dX6_turnsOf x2 M)), h3, trivial⟩
set_option maxRecDepth 100000 in
theorem gX6_tableByTape_0_2 (x1 : Int32) (x2 : Int32) (n : Nat) (M : pt_M) (h1 : sl_P x1) (h2 : sz_P x2) (h3 : (to_F x2) ≤ ((pt_F M 4 1 0) * 8)) :
    pt_Go YX6_tableByTape (0, [(0, pt_r 2 0), (1, pt_i x1), (2, pt_i x2)], [], M)
      (35, [(0, pt_r 2 0), (1, pt_i x1), (2, pt_i x2), (3, pt_i 0)], [], M) :=
  pt_run_ok tX6_tableByTape_ok 16 [.inr (1, some (pt_i 1), M), .inl false, .inr (1, some (pt_i 1), M), .inl false, .inr (1, some (pt_i (to_F x2)), M), .inl true] (P := pt_Cal YX6_tableByTape (.invokestatic 75) [pt_i x1] M (some (pt_i 1)) M ∧ (¬ (1 : Int32) = (0 : Int32)) ∧ pt_Cal YX6_tableByTape (.invokestatic 79) [pt_i x2] M (some (pt_i 1)) M ∧ (¬ (1 : Int32) = (0 : Int32)) ∧ pt_Cal YX6_tableByTape (.invokestatic 110) [pt_i x2] M (some (pt_i (to_F x2))) M ∧ ((to_F x2) ≤ ((pt_F M 4 1 0) * 8)) ∧ True) (by with_unfolding_all rfl) ⟨(pt_callS kX6_tableByTape_75 mX6_isSlot rfl (dX6_isSlot_1 h1)), (by decide), (pt_callS kX6_tableByTape_79 mX6_isSize rfl (dX6_isSize_1 h2)), (by decide), (pt_callS kX6_tableByTape_110 mX6_turnsOf rfl (dX6_turnsOf x2 M)), h3, trivial⟩
set_option maxRecDepth 100000 in
theorem gX6_tableByTape_0_3 (x1 : Int32) (x2 : Int32) (n : Nat) (M : pt_M) (h1 : sl_P x1) (h2 : ¬ sz_P x2) :
    pt_Go YX6_tableByTape (0, [(0, pt_r 2 0), (1, pt_i x1), (2, pt_i x2)], [], M)
      (32, [(0, pt_r 2 0), (1, pt_i x1), (2, pt_i x2)], [pt_i 0], M) :=
  pt_run_ok tX6_tableByTape_ok 7 [.inr (1, some (pt_i 1), M), .inl false, .inr (1, some (pt_i 0), M), .inl true] (P := pt_Cal YX6_tableByTape (.invokestatic 75) [pt_i x1] M (some (pt_i 1)) M ∧ (¬ (1 : Int32) = (0 : Int32)) ∧ pt_Cal YX6_tableByTape (.invokestatic 79) [pt_i x2] M (some (pt_i 0)) M ∧ ((0 : Int32) = (0 : Int32)) ∧ True) (by with_unfolding_all rfl) ⟨(pt_callS kX6_tableByTape_75 mX6_isSlot rfl (dX6_isSlot_1 h1)), (by decide), (pt_callS kX6_tableByTape_79 mX6_isSize rfl (dX6_isSize_0 h2)), (by decide), trivial⟩
set_option maxRecDepth 100000 in
theorem gX6_tableByTape_0_4 (x1 : Int32) (x2 : Int32) (n : Nat) (M : pt_M) (h1 : ¬ sl_P x1) :
    pt_Go YX6_tableByTape (0, [(0, pt_r 2 0), (1, pt_i x1), (2, pt_i x2)], [], M)
      (32, [(0, pt_r 2 0), (1, pt_i x1), (2, pt_i x2)], [pt_i 0], M) :=
  pt_run_ok tX6_tableByTape_ok 4 [.inr (1, some (pt_i 0), M), .inl true] (P := pt_Cal YX6_tableByTape (.invokestatic 75) [pt_i x1] M (some (pt_i 0)) M ∧ ((0 : Int32) = (0 : Int32)) ∧ True) (by with_unfolding_all rfl) ⟨(pt_callS kX6_tableByTape_75 mX6_isSlot rfl (dX6_isSlot_0 h1)), (by decide), trivial⟩
set_option maxRecDepth 100000 in
theorem gX6_tableByTape_35_1 (l1 : Int32) (l2 : Int32) (l3 : Int32) (n : Nat) (M : pt_M) (h1 : ¬ (to_F l2) ≤ l3) (h2 : by_H M (l3 / 8)) (h3 : hb_P M l3) (h4 : pt_in l3 120) :
    pt_Go YX6_tableByTape (35, [(0, pt_r 2 0), (1, pt_i l1), (2, pt_i l2), (3, pt_i l3)], [], M)
      (35, [(0, pt_r 2 0), (1, pt_i l1), (2, pt_i l2), (3, pt_i (l3 + 1))], [], (pt_wA M 24 0 (upd (pt_A M 24 0) (pt_nt l3) 2))) :=
  pt_run_ok tX6_tableByTape_ok 17 [.inr (1, some (pt_i (to_F l2)), M), .inl false, .inr (2, some (pt_i 1), M), .inl false] (P := pt_Cal YX6_tableByTape (.invokestatic 110) [pt_i l2] M (some (pt_i (to_F l2))) M ∧ (¬ (to_F l2) ≤ l3) ∧ pt_Cal YX6_tableByTape (.invokevirtual 113) [pt_r 4 0, pt_i l3] M (some (pt_i 1)) M ∧ (¬ (1 : Int32) = (0 : Int32)) ∧ (pt_in l3 120) ∧ True) (by with_unfolding_all rfl) ⟨(pt_callS kX6_tableByTape_110 mX6_turnsOf rfl (dX6_turnsOf l2 M)), h1, (pt_callV (i := 0) kX6_tableByTape_113 mX5_hasBit rfl (by decide) rfl (dX5_hasBit_1 h2 h3)), (by decide), h4, trivial⟩
set_option maxRecDepth 100000 in
theorem gX6_tableByTape_35_2 (l1 : Int32) (l2 : Int32) (l3 : Int32) (n : Nat) (M : pt_M) (h1 : ¬ (to_F l2) ≤ l3) (h2 : by_H M (l3 / 8)) (h3 : ¬ hb_P M l3) (h4 : pt_in l3 120) :
    pt_Go YX6_tableByTape (35, [(0, pt_r 2 0), (1, pt_i l1), (2, pt_i l2), (3, pt_i l3)], [], M)
      (35, [(0, pt_r 2 0), (1, pt_i l1), (2, pt_i l2), (3, pt_i (l3 + 1))], [], (pt_wA M 24 0 (upd (pt_A M 24 0) (pt_nt l3) 1))) :=
  pt_run_ok tX6_tableByTape_ok 16 [.inr (1, some (pt_i (to_F l2)), M), .inl false, .inr (2, some (pt_i 0), M), .inl true] (P := pt_Cal YX6_tableByTape (.invokestatic 110) [pt_i l2] M (some (pt_i (to_F l2))) M ∧ (¬ (to_F l2) ≤ l3) ∧ pt_Cal YX6_tableByTape (.invokevirtual 113) [pt_r 4 0, pt_i l3] M (some (pt_i 0)) M ∧ ((0 : Int32) = (0 : Int32)) ∧ (pt_in l3 120) ∧ True) (by with_unfolding_all rfl) ⟨(pt_callS kX6_tableByTape_110 mX6_turnsOf rfl (dX6_turnsOf l2 M)), h1, (pt_callV (i := 0) kX6_tableByTape_113 mX5_hasBit rfl (by decide) rfl (dX5_hasBit_0 h2 h3)), (by decide), h4, trivial⟩
set_option maxRecDepth 100000 in
theorem gX6_tableByTape_35_3 (l1 : Int32) (l2 : Int32) (l3 : Int32) (n : Nat) (M : pt_M) (h1 : (to_F l2) ≤ l3) (h2 : (pt_R M 0) < 7) (h3 : tr_H (pt_R M 0) l2 0 n) (h4 : kp_P (mt_F M (pt_R M 0) n fun i j k => decide (pt_A M 24 0 (rk_F n i j k) = 1)) l1) :
    pt_Go YX6_tableByTape (35, [(0, pt_r 2 0), (1, pt_i l1), (2, pt_i l2), (3, pt_i l3)], [], M)
      (89, [(0, pt_r 2 0), (1, pt_i l1), (2, pt_i l2), (3, pt_i l3)], [pt_i 1], (kp_M (mt_F M (pt_R M 0) n fun i j k => decide (pt_A M 24 0 (rk_F n i j k) = 1)) l1)) :=
  pt_run_ok tX6_tableByTape_ok 14 [.inr (1, some (pt_i (to_F l2)), M), .inl true, .inr (3, none, (mt_F M (pt_R M 0) n fun i j k => decide (pt_A M 24 0 (rk_F n i j k) = 1))), .inr (2, none, (kp_M (mt_F M (pt_R M 0) n fun i j k => decide (pt_A M 24 0 (rk_F n i j k) = 1)) l1))] (P := pt_Cal YX6_tableByTape (.invokestatic 110) [pt_i l2] M (some (pt_i (to_F l2))) M ∧ ((to_F l2) ≤ l3) ∧ pt_Cal YX6_tableByTape (.invokevirtual 116) [pt_r 3 (pt_R M 0), pt_i l2, pt_r 24 0] M none (mt_F M (pt_R M 0) n fun i j k => decide (pt_A M 24 0 (rk_F n i j k) = 1)) ∧ pt_Cal YX6_tableByTape (.invokevirtual 88) [pt_r 2 0, pt_i l1] (mt_F M (pt_R M 0) n fun i j k => decide (pt_A M 24 0 (rk_F n i j k) = 1)) none (kp_M (mt_F M (pt_R M 0) n fun i j k => decide (pt_A M 24 0 (rk_F n i j k) = 1)) l1) ∧ True) (by with_unfolding_all rfl) ⟨(pt_callS kX6_tableByTape_110 mX6_turnsOf rfl (dX6_turnsOf l2 M)), h1, (pt_callV (i := (pt_R M 0)) kX6_tableByTape_116 mX4_takeRow rfl h2 rfl (dX4_takeRow_t24 h3)), (pt_callV (i := 0) kX6_tableByTape_88 mX6_keepSpare rfl (by decide) rfl (dX6_keepSpare h4)), trivial⟩
theorem dX6_tableByTape_p1 (x1 : Int32) (x2 : Int32) (n : Nat) (M : pt_M) (h1 : sl_P x1) (h2 : sz_P x2) (h3 : ¬ (to_F x2) ≤ ((pt_F M 4 1 0) * 8)) : pt_Does yX6_tableByTape YX6_tableByTape [pt_r 2 0, pt_i x1, pt_i x2] M (some (pt_i 0)) M :=
  rX6_tableByTape_32 pt_nar0 (Nat.le_of_ble_eq_true rfl) rfl (gX6_tableByTape_0_1 x1 x2 n M h1 h2 h3)
theorem dX6_tableByTape_p3 (x1 : Int32) (x2 : Int32) (n : Nat) (M : pt_M) (h1 : sl_P x1) (h2 : ¬ sz_P x2) : pt_Does yX6_tableByTape YX6_tableByTape [pt_r 2 0, pt_i x1, pt_i x2] M (some (pt_i 0)) M :=
  rX6_tableByTape_32 pt_nar0 (Nat.le_of_ble_eq_true rfl) rfl (gX6_tableByTape_0_3 x1 x2 n M h1 h2)
theorem dX6_tableByTape_p4 (x1 : Int32) (x2 : Int32) (n : Nat) (M : pt_M) (h1 : ¬ sl_P x1) : pt_Does yX6_tableByTape YX6_tableByTape [pt_r 2 0, pt_i x1, pt_i x2] M (some (pt_i 0)) M :=
  rX6_tableByTape_32 pt_nar0 (Nat.le_of_ble_eq_true rfl) rfl (gX6_tableByTape_0_4 x1 x2 n M h1)
theorem sz_nI {n : Nat} (h3 : 3 ≤ n) (hn : n ≤ 10) : sz_P (nI n) := ⟨nI_nlt (b := 3) h3 (by omega), nI_nlt (a := 10) hn (by decide)⟩
theorem dX6_tableByTape {x1 : Int32} {n L : Nat} {b : Nat → Nat} {M : pt_M} (hk : kp_P M x1) (h3 : 3 ≤ n) (hn : n ≤ 10) (htp : tp_P M L b) (hL : rk_0 n n ≤ L * 8) : pt_Does yX6_tableByTape YX6_tableByTape [pt_r 2 0, pt_i x1, pt_i (nI n)] M (some (pt_i 1)) (kp_M (mt_F (tw_M M (rk_0 n n) b) (pt_R M 0) n fun i j k => decide (pt_A (tw_M M (rk_0 n n) b) 24 0 (rk_F n i j k) = 1)) x1) := by
  obtain ⟨hto, hN⟩ := to_nI hn
  have hL140 := htp.2.1
  have e8 : pt_F M 4 1 0 * 8 = nI (L * 8) := by rw [htp.1]; exact pk_mul L 8
  have K := pt_for0 (Y := YX6_tableByTape) (fun p => (35, [(0, pt_r 2 0), (1, pt_i x1), (2, pt_i (nI n)), (3, pt_i (nI p))], [], tw_M M p b)) (n := rk_0 n n) fun p hp => by
    have htp' : tp_P (tw_M M p b) L b := htp
    have hb := hb_nI htp' (p := p) (by omega) (by omega)
    have e : nI p / 8 = nI (p / 8) := pk_div (d := 8) (by omega) (by decide) (by decide)
    have hby : by_H (tw_M M p b) (nI p / 8) := by rw [e]; exact tp_by htp' (by omega)
    have hst : ∀ v, v = tb_W b p → pt_wA (tw_M M p b) 24 0 (upd (pt_A (tw_M M p b) 24 0) (pt_nt (nI p)) v) = tw_M M (p + 1) b := fun v hv => by
      subst hv
      unfold tw_M
      rw [pt_wA_wA, pt_A_wA, pt_nt_nI (by omega), co_step]
    cases hv : (b (p / 8)).testBit (7 - p % 8)
    · refine (gX6_tableByTape_35_2 x1 (nI n) (nI p) n (tw_M M p b) (by rw [hto]; exact nI_ge hp (by omega)) hby (fun z => by rw [hb, hv] at z; cases z) (pt_in_nI (by omega) (by decide))).to ?_
      rw [nI_1, hst 1 (by unfold tb_W; rw [hv]; rfl)]
    · refine (gX6_tableByTape_35_1 x1 (nI n) (nI p) n (tw_M M p b) (by rw [hto]; exact nI_ge hp (by omega)) hby (hb.mpr hv) (pt_in_nI (by omega) (by decide))).to ?_
      rw [nI_1, hst 2 (by unfold tb_W; rw [hv]; rfl)]
  refine rX6_tableByTape_89 rfl (Nat.le_of_ble_eq_true rfl) rfl (((gX6_tableByTape_0_2 x1 (nI n) n M hk.1 (sz_nI h3 hn) (by rw [hto, e8]; exact nI_le hL (by omega))).toM ?_).tr (K.tr (gX6_tableByTape_35_3 x1 (nI n) (nI (rk_0 n n)) n (tw_M M (rk_0 n n) b) (by rw [hto]; exact Int32.le_refl _) hk.2.2 ⟨hk.2.2, by decide, rfl, hn⟩ hk)))
  unfold tw_M
  rw [co_zero, pt_wA_self]
