/-! find -/
/-- the model's memory, when find has looked at all below x -/
def fd_P (n x : Nat) (M M' : pt_M) : Prop := pt_F M' = pt_F M ∧ (∀ k i, k ≠ 32 → k ≠ 35 → k ≠ 36 → k ≠ 37 → k ≠ 38 → k ≠ 39 → k ≠ 45 → pt_A M' k i = pt_A M k i) ∧ (∀ p, p < 720 → pt_A M' 32 0 p = pt_A M 32 0 p) ∧ (∀ q, q < kq_m n x → pt_A M' 45 0 (64 * n + q) = nI (kv_F n q)) ∧ (∀ p, p < 64 * n ∨ 64 * n + 64 ≤ p → pt_A M' 45 0 p = pt_A M 45 0 p) ∧ M'.2.2 = M.2.2
theorem fd_0 {n : Nat} {M : pt_M} : fd_P n 0 M M := ⟨rfl, fun _ _ _ _ _ _ _ _ _ => rfl, fun _ _ => rfl, fun q hq => absurd hq (by rw [kq_m0]; omega), fun _ _ => rfl, rfl⟩
/-- what a look at one table leaves alone -/
def fe_P (M M' : pt_M) : Prop := pt_F M' = pt_F M ∧ (∀ k i, k ≠ 32 → k ≠ 35 → k ≠ 36 → k ≠ 37 → k ≠ 38 → k ≠ 39 → pt_A M' k i = pt_A M k i) ∧ (∀ p, p < 720 → pt_A M' 32 0 p = pt_A M 32 0 p) ∧ M'.2.2 = M.2.2
theorem fe_P.tr {M M' M'' : pt_M} (h : fe_P M M') (h' : fe_P M' M'') : fe_P M M'' := ⟨h'.1.trans h.1, fun k i a b c d e f => (h'.2.1 k i a b c d e f).trans (h.2.1 k i a b c d e f), fun p hp => (h'.2.2.1 p hp).trans (h.2.2.1 p hp), h'.2.2.2.trans h.2.2.2⟩
theorem fe_st {n : Nat} {S : Nat → Nat → Nat → Bool} {M : pt_M} : fe_P M (st_M M 720 n S) := ⟨rfl, fun k i a _ _ _ _ _ => if_neg fun z => a z.1, fun p hp => by unfold st_M; rw [pt_A_wA]; exact sm_out (.inl hp), rfl⟩
theorem fe_w {k : Nat} {g : Nat → Int32} {M : pt_M} (h : k = 35 ∨ k = 36 ∨ k = 37) : fe_P M (pt_wA M k 0 g) := ⟨rfl, fun k' i _ b c d _ _ => if_neg fun z => by omega, fun p _ => congrFun (if_neg fun z => by omega) p, rfl⟩
theorem fe_ck {M M' : pt_M} (h : ck_P M M') : fe_P M M' := ⟨h.1, fun k i a b c d e f => h.2.1 k i b d e f, fun p _ => congrFun (h.2.1 32 0 (by decide) (by decide) (by decide) (by decide)) p, h.2.2⟩
theorem fd_fe {n x : Nat} {M M' M'' : pt_M} (h : fd_P n x M M') (k : fe_P M' M'') (e : kq_m n (x + 1) = kq_m n x) : fd_P n (x + 1) M M'' := ⟨k.1.trans h.1, fun k' i a b c d e f g => (k.2.1 k' i a b c d e f).trans (h.2.1 k' i a b c d e f g), fun p hp => (k.2.2.1 p hp).trans (h.2.2.1 p hp), fun q hq => by rw [e] at hq; rw [k.2.1 45 0 (by decide) (by decide) (by decide) (by decide) (by decide) (by decide)]; exact h.2.2.2.1 q hq, fun p hp => by rw [k.2.1 45 0 (by decide) (by decide) (by decide) (by decide) (by decide) (by decide)]; exact h.2.2.2.2.1 p hp, k.2.2.2.trans h.2.2.2.2.2⟩
theorem fd_in {n x : Nat} {M M' M'' : pt_M} (h : fd_P n x M M') (k : fe_P M' M'') (hm : kq_m n x < 64) (e : kq_m n (x + 1) = kq_m n x + 1) (hv : kv_F n (kq_m n x) = x) : fd_P n (x + 1) M (pt_wA M'' 45 0 (upd (pt_A M'' 45 0) (64 * n + kq_m n x) (nI x))) := by
  have e45 : pt_A M'' 45 0 = pt_A M' 45 0 := k.2.1 45 0 (by decide) (by decide) (by decide) (by decide) (by decide) (by decide)
  refine ⟨k.1.trans h.1, fun k' i a b c d e f g => (if_neg fun z => g z.1).trans ((k.2.1 k' i a b c d e f).trans (h.2.1 k' i a b c d e f g)), fun p hp => (k.2.2.1 p hp).trans (h.2.2.1 p hp), fun q hq => ?_, fun p hp => ?_, k.2.2.2.trans h.2.2.2.2.2⟩
  · rw [pt_A_wA, e45]
    unfold upd
    by_cases c : q = kq_m n x
    · rw [if_pos (by omega), c, hv]
    · rw [if_neg (by omega)]
      exact h.2.2.2.1 q (by omega)
  · rw [pt_A_wA, e45]
    unfold upd
    rw [if_neg (by omega)]
    exact h.2.2.2.2.1 p hp
theorem rX7_find_9 {vs : List pt_V} {M M' : pt_M} {L : List (Nat × pt_V)} (hvs : (vs.map pt_w).sum ≤ 5) (hX : M'.2.2.2.2 = M.2.2.2.2) (h : pt_Go YX7_find (0, pt_en 0 vs, [], M) (9, L, [], M')) : pt_Does yX7_find YX7_find vs M none M' := pt_does_go tX7_find_ok nX7_find hvs hX ⟨_, by with_unfolding_all rfl, rfl, rfl⟩ h
theorem rX7_find_139 {vs : List pt_V} {M M' : pt_M} {L : List (Nat × pt_V)} (hvs : (vs.map pt_w).sum ≤ 5) (hX : M'.2.2.2.2 = M.2.2.2.2) (h : pt_Go YX7_find (0, pt_en 0 vs, [], M) (139, L, [], M')) : pt_Does yX7_find YX7_find vs M none M' := pt_does_go tX7_find_ok nX7_find hvs hX ⟨_, by with_unfolding_all rfl, rfl, rfl⟩ h
set_option maxRecDepth 100000 in
theorem gX7_find_0_1 (x1 : Int32) (N : Nat) (w : Int32) (M2 M3 M4 : pt_M) (M : pt_M) (h1 : pt_in x1 7) (h2 : ¬ (pt_A M 44 0 (pt_nt x1)) < 0) :
    pt_Go YX7_find (0, [(0, pt_r 7 0), (1, pt_i x1)], [], M)
      (9, [(0, pt_r 7 0), (1, pt_i x1)], [], M) :=
  pt_run_ok tX7_find_ok 5 [.inl false] (P := (pt_in x1 7) ∧ (¬ (pt_A M 44 0 (pt_nt x1)) < 0) ∧ True) (by with_unfolding_all rfl) ⟨h1, h2, trivial⟩
set_option maxRecDepth 100000 in
theorem gX7_find_0_2 (x1 : Int32) (N : Nat) (w : Int32) (M2 M3 M4 : pt_M) (M : pt_M) (h1 : pt_in x1 7) (h2 : (pt_A M 44 0 (pt_nt x1)) < 0) :
    pt_Go YX7_find (0, [(0, pt_r 7 0), (1, pt_i x1)], [], M)
      (14, [(0, pt_r 7 0), (1, pt_i x1), (2, pt_i 0), (3, pt_i 0)], [], M) :=
  pt_run_ok tX7_find_ok 9 [.inl true] (P := (pt_in x1 7) ∧ ((pt_A M 44 0 (pt_nt x1)) < 0) ∧ True) (by with_unfolding_all rfl) ⟨h1, h2, trivial⟩
set_option maxRecDepth 100000 in
theorem gX7_find_14_1 (l1 : Int32) (l2 : Int32) (l3 : Int32) (N : Nat) (w : Int32) (M2 M3 M4 : pt_M) (M : pt_M) (h1 : ¬ ((1 : Int32) <<< ((to_F (l1 - 1)) &&& 31)) ≤ l3) (h2 : pt_Does yX7_byBits YX7_byBits [pt_r 7 0, pt_i l1, pt_i l3] M none M2) (h3 : pt_Does yX7_whyNot YX7_whyNot [pt_r 7 0, pt_i 720, pt_i l1] M2 (some (pt_i w)) M3) (h4 : ¬ w = 0) :
    pt_Go YX7_find (14, [(0, pt_r 7 0), (1, pt_i l1), (2, pt_i l2), (3, pt_i l3)], [], M)
      (14, [(0, pt_r 7 0), (1, pt_i l1), (2, pt_i l2), (3, pt_i (l3 + 1))], [], M3) :=
  pt_run_ok tX7_find_ok 20 [.inr (1, some (pt_i (to_F (l1 - 1))), M), .inl false, .inr (3, none, M2), .inr (3, some (pt_i w), M3), .inl false] (P := pt_Cal YX7_find (.invokestatic 161) [pt_i (l1 - 1)] M (some (pt_i (to_F (l1 - 1)))) M ∧ (¬ ((1 : Int32) <<< ((to_F (l1 - 1)) &&& 31)) ≤ l3) ∧ pt_Cal YX7_find (.invokevirtual 196) [pt_r 7 0, pt_i l1, pt_i l3] M none M2 ∧ pt_Cal YX7_find (.invokevirtual 137) [pt_r 7 0, pt_i 720, pt_i l1] M2 (some (pt_i w)) M3 ∧ (¬ w = 0) ∧ True) (by with_unfolding_all rfl) ⟨(pt_callS kX7_find_161 mX7_threesOf rfl (dX7_threesOf (l1 - 1) M)), h1, (pt_callV (i := 0) kX7_find_196 mX7_byBits rfl (by decide) rfl h2), (pt_callV (i := 0) kX7_find_137 mX7_whyNot rfl (by decide) rfl h3), h4, trivial⟩
set_option maxRecDepth 100000 in
theorem gX7_find_14_2 (l1 : Int32) (l2 : Int32) (l3 : Int32) (N : Nat) (w : Int32) (M2 M3 M4 : pt_M) (M : pt_M) (h1 : ¬ ((1 : Int32) <<< ((to_F (l1 - 1)) &&& 31)) ≤ l3) (h2 : pt_Does yX7_byBits YX7_byBits [pt_r 7 0, pt_i l1, pt_i l3] M none M2) (h3 : pt_Does yX7_whyNot YX7_whyNot [pt_r 7 0, pt_i 720, pt_i l1] M2 (some (pt_i w)) M3) (h4 : w = 0) (h5 : pt_Does yX7_codeOf YX7_codeOf [pt_r 7 0, pt_i 720, pt_i l1] M3 none M4) :
    pt_Go YX7_find (14, [(0, pt_r 7 0), (1, pt_i l1), (2, pt_i l2), (3, pt_i l3)], [], M)
      (57, [(0, pt_r 7 0), (1, pt_i l1), (2, pt_i l2), (3, pt_i l3), (4, pt_i 0)], [], M4) :=
  pt_run_ok tX7_find_ok 23 [.inr (1, some (pt_i (to_F (l1 - 1))), M), .inl false, .inr (3, none, M2), .inr (3, some (pt_i w), M3), .inl true, .inr (3, none, M4)] (P := pt_Cal YX7_find (.invokestatic 161) [pt_i (l1 - 1)] M (some (pt_i (to_F (l1 - 1)))) M ∧ (¬ ((1 : Int32) <<< ((to_F (l1 - 1)) &&& 31)) ≤ l3) ∧ pt_Cal YX7_find (.invokevirtual 196) [pt_r 7 0, pt_i l1, pt_i l3] M none M2 ∧ pt_Cal YX7_find (.invokevirtual 137) [pt_r 7 0, pt_i 720, pt_i l1] M2 (some (pt_i w)) M3 ∧ (w = 0) ∧ pt_Cal YX7_find (.invokevirtual 171) [pt_r 7 0, pt_i 720, pt_i l1] M3 none M4 ∧ True) (by with_unfolding_all rfl) ⟨(pt_callS kX7_find_161 mX7_threesOf rfl (dX7_threesOf (l1 - 1) M)), h1, (pt_callV (i := 0) kX7_find_196 mX7_byBits rfl (by decide) rfl h2), (pt_callV (i := 0) kX7_find_137 mX7_whyNot rfl (by decide) rfl h3), h4, (pt_callV (i := 0) kX7_find_171 mX7_codeOf rfl (by decide) rfl h5), trivial⟩
set_option maxRecDepth 100000 in
theorem gX7_find_14_3 (l1 : Int32) (l2 : Int32) (l3 : Int32) (N : Nat) (w : Int32) (M2 M3 M4 : pt_M) (M : pt_M) (h1 : ((1 : Int32) <<< ((to_F (l1 - 1)) &&& 31)) ≤ l3) (h2 : pt_in l1 7) :
    pt_Go YX7_find (14, [(0, pt_r 7 0), (1, pt_i l1), (2, pt_i l2), (3, pt_i l3)], [], M)
      (139, [(0, pt_r 7 0), (1, pt_i l1), (2, pt_i l2), (3, pt_i l3)], [], (pt_wA M 44 0 (upd (pt_A M 44 0) (pt_nt l1) l2))) :=
  pt_run_ok tX7_find_ok 13 [.inr (1, some (pt_i (to_F (l1 - 1))), M), .inl true] (P := pt_Cal YX7_find (.invokestatic 161) [pt_i (l1 - 1)] M (some (pt_i (to_F (l1 - 1)))) M ∧ (((1 : Int32) <<< ((to_F (l1 - 1)) &&& 31)) ≤ l3) ∧ (pt_in l1 7) ∧ True) (by with_unfolding_all rfl) ⟨(pt_callS kX7_find_161 mX7_threesOf rfl (dX7_threesOf (l1 - 1) M)), h1, h2, trivial⟩
set_option maxRecDepth 100000 in
theorem gX7_find_57_1 (l1 : Int32) (l2 : Int32) (l3 : Int32) (l4 : Int32) (N : Nat) (w : Int32) (M2 M3 M4 : pt_M) (M : pt_M) (h1 : ¬ l1 ≤ l4) (h2 : pt_in l4 10) :
    pt_Go YX7_find (57, [(0, pt_r 7 0), (1, pt_i l1), (2, pt_i l2), (3, pt_i l3), (4, pt_i l4)], [], M)
      (57, [(0, pt_r 7 0), (1, pt_i l1), (2, pt_i l2), (3, pt_i l3), (4, pt_i (l4 + 1))], [], (pt_wA M 35 0 (upd (pt_A M 35 0) (pt_nt l4) l4))) :=
  pt_run_ok tX7_find_ok 10 [.inl false] (P := (¬ l1 ≤ l4) ∧ (pt_in l4 10) ∧ True) (by with_unfolding_all rfl) ⟨h1, h2, trivial⟩
set_option maxRecDepth 100000 in
theorem gX7_find_57_2 (l1 : Int32) (l2 : Int32) (l3 : Int32) (l4 : Int32) (N : Nat) (w : Int32) (M2 M3 M4 : pt_M) (M : pt_M) (h1 : l1 ≤ l4) (h2 : pt_Does yX7_rowOf YX7_rowOf [pt_r 7 0, pt_i 720, pt_i l1, pt_r 37 0] M none M2) (h3 : cn_P (to_F l1) N) (h4 : ¬ (mc_F (pt_A M2 37 0) (pt_A M2 38 0) N) = 0) :
    pt_Go YX7_find (57, [(0, pt_r 7 0), (1, pt_i l1), (2, pt_i l2), (3, pt_i l3), (4, pt_i l4)], [], M)
      (14, [(0, pt_r 7 0), (1, pt_i l1), (2, pt_i l2), (3, pt_i (l3 + 1))], [], M2) :=
  (pt_run_ok tX7_find_ok 20 [.inl true, .inr (4, none, M2), .inr (1, some (pt_i (to_F l1)), M2), .inr (3, some (pt_i (mc_F (pt_A M2 37 0) (pt_A M2 38 0) N)), M2), .inl false] (P := (l1 ≤ l4) ∧ pt_Cal YX7_find (.invokevirtual 157) [pt_r 7 0, pt_i 720, pt_i l1, pt_r 37 0] M none M2 ∧ pt_Cal YX7_find (.invokestatic 161) [pt_i l1] M2 (some (pt_i (to_F l1))) M2 ∧ pt_Cal YX7_find (.invokestatic 164) [pt_r 37 0, pt_r 38 0, pt_i (to_F l1)] M2 (some (pt_i (mc_F (pt_A M2 37 0) (pt_A M2 38 0) N))) M2 ∧ (¬ (mc_F (pt_A M2 37 0) (pt_A M2 38 0) N) = 0) ∧ True) (by with_unfolding_all rfl) ⟨h1, (pt_callV (i := 0) kX7_find_157 mX7_rowOf rfl (by decide) rfl h2), (pt_callS kX7_find_161 mX7_threesOf rfl (dX7_threesOf l1 M2)), (pt_callS kX7_find_164 mX7_compare rfl (dX7_compare_3738t h3)), h4, trivial⟩ : pt_Go YX7_find _ (14, [(0, pt_r 7 0), (1, pt_i l1), (2, pt_i l2), (3, pt_i (l3 + 1)), (4, pt_i l4)], [], M2)).tr (pt_pick [0, 1, 2, 3] (by with_unfolding_all rfl))
set_option maxRecDepth 100000 in
theorem gX7_find_57_3 (l1 : Int32) (l2 : Int32) (l3 : Int32) (l4 : Int32) (N : Nat) (w : Int32) (M2 M3 M4 : pt_M) (M : pt_M) (h1 : l1 ≤ l4) (h2 : pt_Does yX7_rowOf YX7_rowOf [pt_r 7 0, pt_i 720, pt_i l1, pt_r 37 0] M none M2) (h3 : cn_P (to_F l1) N) (h4 : (mc_F (pt_A M2 37 0) (pt_A M2 38 0) N) = 0) (h5 : pt_in ((64 * l1) + l2) 448) :
    pt_Go YX7_find (57, [(0, pt_r 7 0), (1, pt_i l1), (2, pt_i l2), (3, pt_i l3), (4, pt_i l4)], [], M)
      (14, [(0, pt_r 7 0), (1, pt_i l1), (2, pt_i (l2 + 1)), (3, pt_i (l3 + 1))], [], (pt_wA M2 45 0 (upd (pt_A M2 45 0) (pt_nt ((64 * l1) + l2)) l3))) :=
  (pt_run_ok tX7_find_ok 29 [.inl true, .inr (4, none, M2), .inr (1, some (pt_i (to_F l1)), M2), .inr (3, some (pt_i (mc_F (pt_A M2 37 0) (pt_A M2 38 0) N)), M2), .inl true] (P := (l1 ≤ l4) ∧ pt_Cal YX7_find (.invokevirtual 157) [pt_r 7 0, pt_i 720, pt_i l1, pt_r 37 0] M none M2 ∧ pt_Cal YX7_find (.invokestatic 161) [pt_i l1] M2 (some (pt_i (to_F l1))) M2 ∧ pt_Cal YX7_find (.invokestatic 164) [pt_r 37 0, pt_r 38 0, pt_i (to_F l1)] M2 (some (pt_i (mc_F (pt_A M2 37 0) (pt_A M2 38 0) N))) M2 ∧ ((mc_F (pt_A M2 37 0) (pt_A M2 38 0) N) = 0) ∧ (pt_in ((64 * l1) + l2) 448) ∧ True) (by with_unfolding_all rfl) ⟨h1, (pt_callV (i := 0) kX7_find_157 mX7_rowOf rfl (by decide) rfl h2), (pt_callS kX7_find_161 mX7_threesOf rfl (dX7_threesOf l1 M2)), (pt_callS kX7_find_164 mX7_compare rfl (dX7_compare_3738t h3)), h4, h5, trivial⟩ : pt_Go YX7_find _ (14, [(0, pt_r 7 0), (1, pt_i l1), (2, pt_i (l2 + 1)), (3, pt_i (l3 + 1)), (4, pt_i l4)], [], (pt_wA M2 45 0 (upd (pt_A M2 45 0) (pt_nt ((64 * l1) + l2)) l3)))).tr (pt_pick [0, 1, 2, 3] (by with_unfolding_all rfl))
theorem fi_tab : ((List.range 7).all fun n => decide (n < 3) || (decide ((1 : Int32) <<< ((to_F (nI n - 1)) &&& 31) = nI (kq_n n)) && decide (kq_n n ≤ 1024))) = true := by decide +kernel
theorem fi_n {n : Nat} (h3 : 3 ≤ n) (h6 : n ≤ 6) : (1 : Int32) <<< ((to_F (nI n - 1)) &&& 31) = nI (kq_n n) ∧ kq_n n ≤ 1024 := by
  have h := pt_all fi_tab (i := n) (by omega)
  rw [Bool.or_eq_true, Bool.and_eq_true] at h
  rcases h with h | h
  · exact absurd (of_decide_eq_true h) (by omega)
  · exact ⟨of_decide_eq_true h.1, of_decide_eq_true h.2⟩
theorem fnd_step {n x : Nat} {M M1 : pt_M} (h3 : 3 ≤ n) (h6 : n ≤ 6) (hx : x < kq_n n) (hk : fd_P n x M M1) : ∃ M', pt_Go YX7_find (14, [(0, pt_r 7 0), (1, pt_i (nI n)), (2, pt_i (nI (kq_m n x))), (3, pt_i (nI x))], [], M1) (14, [(0, pt_r 7 0), (1, pt_i (nI n)), (2, pt_i (nI (kq_m n (x + 1)))), (3, pt_i (nI (x + 1)))], [], M') ∧ fd_P n (x + 1) M M' := by
  obtain ⟨e1, e2⟩ := fi_n h3 h6
  have hn : n ≤ 10 := by omega
  have hcn := to_nI hn
  obtain ⟨s1, s2⟩ := kq_st h3 h6 hx
  have hall := kq_all h3 h6 hx
  have hlt : ¬ (1 : Int32) <<< ((to_F (nI n - 1)) &&& 31) ≤ nI x := by rw [e1]; exact nI_ge hx (by omega)
  have hml : ml_P (st_M M1 720 n fun i j k => !x.testBit (kq_pos n i j k)) 720 n (kq_T n x) := st_ml (by decide) hn
  obtain ⟨g, hw⟩ := dX7_whyNot hml
  have hwl : wy_F n (kq_T n x) < 2 ^ 31 := by have := wy_lt (B := kq_T n x) hn; omega
  have hb := dX7_byBits (M := M1) h3 h6 hx
  by_cases c : wy_F n (kq_T n x) = 0
  case neg =>
    have em := s2 fun z => c (hall.mpr z).1
    refine ⟨_, (gX7_find_14_1 (nI n) (nI (kq_m n x)) (nI x) 0 (nI (wy_F n (kq_T n x))) _ _ M M1 hlt hb hw (fun z => c ((nI_0' hwl).mp z))).to (by rw [nI_1, em]), fd_fe hk (fe_st.tr (fe_w (.inr (.inl rfl)))) em⟩
  have hlw : lw_P n (kq_T n x) := lw_of hn nB_sy c
  obtain ⟨M4, hc, k4, a4⟩ := dX7_codeOf (M := pt_wA (st_M M1 720 n fun i j k => !x.testBit (kq_pos n i j k)) 36 0 g) (ml_A hml rfl) hlw kq_dg h3
  have g1 := gX7_find_14_2 (nI n) (nI (kq_m n x)) (nI x) 0 (nI (wy_F n (kq_T n x))) _ _ M4 M1 hlt hb hw (by rw [c]; rfl) hc
  have K := pt_for0 (Y := YX7_find) (fun q => (57, [(0, pt_r 7 0), (1, pt_i (nI n)), (2, pt_i (nI (kq_m n x))), (3, pt_i (nI x)), (4, pt_i (nI q))], [], pt_wA M4 35 0 (co_F (pt_A M4 35 0) nI q))) (n := n) fun q hq => by
    refine (gX7_find_57_1 (nI n) (nI (kq_m n x)) (nI x) (nI q) 0 0 M M M _ (nI_ge hq (by omega)) (pt_in_nI (by omega) (by decide))).to ?_
    rw [wA_2 _ _ _ _ (by omega), co_step, nI_1]
  have e0 : pt_wA M4 35 0 (co_F (pt_A M4 35 0) nI 0) = M4 := by
    rw [co_zero]
    exact pt_wA_self M4 35 0
  rw [e0] at K
  generalize hM5 : pt_wA M4 35 0 (co_F (pt_A M4 35 0) nI n) = M5 at K
  have hml5 : ml_P M5 720 n (kq_T n x) := ml_A hml (by rw [← hM5]; exact (k4.2.1 32 0 (by decide) (by decide) (by decide) (by decide)))
  have hro : ro_Q M5 n fun a => a := ⟨fun e he => ⟨by rw [← hM5, pt_A_wA]; exact if_pos he, he⟩, fun a b h1 _ z => by dsimp only at z; omega⟩
  have hr := dX7_rowOf hml5 hro
  have f5 : fe_P M1 M5 := by
    rw [← hM5]
    exact ((fe_st.tr (fe_w (.inr (.inl rfl)))).tr (fe_ck k4)).tr (fe_w (.inl rfl))
  have e38 : pt_A M5 38 0 = pt_A M4 38 0 := by rw [← hM5]; rfl
  have hcmp : mc_F (pt_A (pt_wA M5 37 0 (co_F (pt_A M5 37 0) (rw_F n (kq_T n x) (fun a => a) false) (rk_0 n n))) 37 0) (pt_A (pt_wA M5 37 0 (co_F (pt_A M5 37 0) (rw_F n (kq_T n x) (fun a => a) false) (rk_0 n n))) 38 0) (rk_0 n n) = mc_F (rw_F n (kq_T n x) (fun a => a) false) (cd_F n (kq_T n x)) (rk_0 n n) := by
    refine mc_cg (fun p hp => by rw [pt_A_wA]; exact if_pos hp) fun p hp => ?_
    show pt_A M5 38 0 p = _
    rw [e38]
    exact a4 p hp
  have f6 := f5.tr (fe_w (k := 37) (g := co_F (pt_A M5 37 0) (rw_F n (kq_T n x) (fun a => a) false) (rk_0 n n)) (.inr (.inr rfl)))
  generalize pt_wA M5 37 0 (co_F (pt_A M5 37 0) (rw_F n (kq_T n x) (fun a => a) false) (rk_0 n n)) = M6 at hr hcmp f6
  by_cases d : mc_F (rw_F n (kq_T n x) (fun a => a) false) (cd_F n (kq_T n x)) (rk_0 n n) = 0
  · obtain ⟨v1, v2⟩ := s1 (hall.mp ⟨c, d⟩)
    have hm16 : kq_m n x + 1 ≤ 16 := by
      have := kq_mo (n := n) (show x + 1 ≤ kq_n n by omega)
      have := kq_mn h3 h6
      omega
    have e64 : (64 : Int32) * nI n + nI (kq_m n x) = nI (64 * n + kq_m n x) := by rw [show (64 : Int32) = nI 64 from rfl, pk_mul, nI_add]
    refine ⟨_, g1.tr (K.tr ((gX7_find_57_3 (nI n) (nI (kq_m n x)) (nI x) (nI n) (rk_0 n n) 0 M6 M M M5 (Int32.le_refl _) hr hcn (hcmp.trans d) (by rw [e64]; exact pt_in_nI (by omega) (by decide))).to ?_)), fd_in hk f6 (by omega) v2 v1⟩
    rw [e64, pt_nt_nI (by omega), nI_1, nI_1, v2]
  · have em := s2 fun z => d (hall.mpr z).2
    exact ⟨M6, g1.tr (K.tr ((gX7_find_57_2 (nI n) (nI (kq_m n x)) (nI x) (nI n) (rk_0 n n) 0 M6 M M M5 (Int32.le_refl _) hr hcn (fun z => d (hcmp.symm.trans z))).to (by rw [nI_1, em]))), fd_fe hk f6 em⟩
theorem ml_lo {M M' : pt_M} {s n : Nat} {B : Nat → Nat → Nat → Bool} (hs : s < 6) (h : ml_P M (120 * s) n B) (e : ∀ p, p < 720 → pt_A M' 32 0 p = pt_A M 32 0 p) : ml_P M' (120 * s) n B := ⟨h.1, h.2.1, fun i j k h1 h2 h3 => by
  have := th_lt h1 h2 (show k < 10 by have := h.2.1; omega)
  rw [e _ (by omega)]
  exact h.2.2.1 i j k h1 h2 h3, h.2.2.2⟩
theorem MR_lo {M M' : pt_M} {A : iv_A} (h : MR_P M A) (hF : pt_F M' 7 = pt_F M 7) (e : ∀ k, k = 30 ∨ k = 31 ∨ k = 41 → pt_A M' k 0 = pt_A M k 0) (e32 : ∀ p, p < 720 → pt_A M' 32 0 p = pt_A M 32 0 p) (hk : kd_P M') : MR_P M' A := by
  obtain ⟨q1, q2, q3, q4, q5, q6, q7⟩ := h
  refine ⟨by rw [hF]; exact q1, mp_A q2 (e 30 (by decide)), fun s hs => ⟨?_, ?_⟩, by rw [hF]; exact q4, by rw [hF]; exact q5, fun p hp => ?_, hk⟩
  · rw [e 31 (by decide)]
    exact (q3 s hs).1
  · exact (q3 s hs).2.imp id fun z => ⟨z.1, ml_lo hs z.2 e32⟩
  · rw [e 41 (by decide)]
    exact q6 p hp
theorem dX7_find {n : Nat} {M : pt_M} {A : iv_A} (h3 : 3 ≤ n) (h6 : n ≤ 6) (h : MR_P M A) : ∃ M', pt_Does yX7_find YX7_find [pt_r 7 0, pt_i (nI n)] M none M' ∧ ca_P M M' ∧ MR_P M' A ∧ pt_A M' 44 0 n = nI (kn_F n) ∧ ∀ q, q < kn_F n → pt_A M' 45 0 (64 * n + q) = nI (kv_F n q) := by
  have en : pt_nt (nI n) = n := pt_nt_nI (by omega)
  have hin : pt_in (nI n) 7 := pt_in_nI (by omega) (by decide)
  have hkn := (kq_mn h3 h6).2
  rcases h.2.2.2.2.2.2 n h3 h6 with z | ⟨z1, z2⟩
  case inr => exact ⟨M, rX7_find_9 (Nat.le_of_ble_eq_true rfl) rfl (gX7_find_0_1 (nI n) 0 0 M M M M hin (by rw [en, z1]; exact nI_pos (by omega))), ca_P.rf, h, z1, z2⟩
  obtain ⟨e1, e2⟩ := fi_n h3 h6
  have key : ∀ x, x ≤ kq_n n → ∃ M', pt_Go YX7_find (14, [(0, pt_r 7 0), (1, pt_i (nI n)), (2, pt_i (nI (kq_m n 0))), (3, pt_i (nI 0))], [], M) (14, [(0, pt_r 7 0), (1, pt_i (nI n)), (2, pt_i (nI (kq_m n x))), (3, pt_i (nI x))], [], M') ∧ fd_P n x M M' := fun x => by
    induction x with
    | zero => exact fun _ => ⟨M, pt_Go.rf, fd_0⟩
    | succ x ih =>
      intro hx
      obtain ⟨M1, g1, k1⟩ := ih (by omega)
      obtain ⟨M2, g2, k2⟩ := fnd_step h3 h6 (by omega) k1
      exact ⟨M2, g1.tr g2, k2⟩
  obtain ⟨M1, g1, k1⟩ := key (kq_n n) (Nat.le_refl _)
  rw [kq_m0, (kq_mn h3 h6).1] at g1
  have g0 := gX7_find_0_2 (nI n) 0 0 M M M M hin (by rw [en, z]; decide)
  have g2 := gX7_find_14_3 (nI n) (nI (kn_F n)) (nI (kq_n n)) 0 0 M M M M1 (by rw [e1]; exact Int32.le_refl _) hin
  rw [en] at g2
  have e44 : pt_A M1 44 0 = pt_A M 44 0 := k1.2.1 44 0 (by decide) (by decide) (by decide) (by decide) (by decide) (by decide) (by decide)
  have h44 : pt_A (pt_wA M1 44 0 (upd (pt_A M1 44 0) n (nI (kn_F n)))) 44 0 n = nI (kn_F n) := by
    rw [pt_A_wA]
    exact if_pos rfl
  have h45 : ∀ q, q < kn_F n → pt_A (pt_wA M1 44 0 (upd (pt_A M1 44 0) n (nI (kn_F n)))) 45 0 (64 * n + q) = nI (kv_F n q) := fun q hq => k1.2.2.2.1 q (by rw [(kq_mn h3 h6).1]; exact hq)
  refine ⟨pt_wA M1 44 0 (upd (pt_A M1 44 0) n (nI (kn_F n))), rX7_find_139 (Nat.le_of_ble_eq_true rfl) (show M1.2.2.2.2 = M.2.2.2.2 from congrArg (fun z => z.2.2) k1.2.2.2.2.2) (g0.tr (g1.tr g2)), ?_, MR_lo h (congrFun k1.1 7) (fun k hk => ?_) (fun p hp => k1.2.2.1 p hp) (fun m m3 m6 => ?_), h44, h45⟩
  · exact ⟨fun k _ => congrFun k1.1 k, fun k hk => funext fun i => (if_neg fun z => by omega).trans (k1.2.1 k i (by omega) (by omega) (by omega) (by omega) (by omega) (by omega) (by omega)), congrArg (fun z => z.2.1) k1.2.2.2.2.2⟩
  · exact (if_neg fun z => by omega).trans (k1.2.1 k 0 (by omega) (by omega) (by omega) (by omega) (by omega) (by omega) (by omega))
  · by_cases c : m = n
    · subst c
      exact .inr ⟨h44, h45⟩
    · have x44 : pt_A (pt_wA M1 44 0 (upd (pt_A M1 44 0) n (nI (kn_F n)))) 44 0 m = pt_A M 44 0 m := by
        rw [pt_A_wA, e44]
        exact if_neg c
      have hm := (kq_mn m3 m6).2
      rcases h.2.2.2.2.2.2 m m3 m6 with y | ⟨y1, y2⟩
      · exact .inl (x44.trans y)
      · exact .inr ⟨x44.trans y1, fun q hq => (k1.2.2.2.2.1 _ (by omega)).trans (y2 q hq)⟩
