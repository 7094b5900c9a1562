/-! which -/
theorem bt_s {f : Nat → Int32} {p : Nat} : bt_F f (p + 1) = 2 * bt_F f p + if f p = 2 then 1 else 0 := by
  have e : bt_F f (p + 1) = if f p = 2 then bt_F f p * 2 ^ 1 ||| 1 else bt_F f p * 2 ^ 1 := rfl
  rw [e]
  split
  · rw [Nat.mul_comm, ← Nat.two_pow_add_eq_or_of_lt (i := 1) (b := 1) (by decide)]
  · omega
theorem bt_eq {f : Nat → Int32} : ∀ {N c : Nat}, c < 2 ^ N → (∀ p, p < N → f p = 1 ∨ f p = 2) → ((∀ p, p < N → kb_W c N p = f p) ↔ bt_F f N = c)
  | 0, c, hc, _ => ⟨fun _ => by rw [Nat.pow_zero] at hc; show 0 = c; omega, fun _ p hp => absurd hp (Nat.not_lt_zero p)⟩
  | N + 1, c, hc, hf => by
    have ih := bt_eq (f := f) (N := N) (c := c / 2) (by rw [Nat.pow_succ] at hc; omega) fun p hp => hf p (by omega)
    have lo : ∀ p, p < N → kb_W c (N + 1) p = kb_W (c / 2) N p := fun p hp => by
      unfold kb_W
      rw [show N + 1 - 1 - p = N - 1 - p + 1 by omega, Nat.testBit_succ]
    have hi : kb_W c (N + 1) N = if c % 2 = 1 then 2 else 1 := by
      unfold kb_W
      rw [show N + 1 - 1 - N = 0 by omega, Nat.testBit_zero]
      by_cases y : c % 2 = 1
      · rw [if_pos (decide_eq_true y), if_pos y]
      · rw [if_neg (fun z => y (of_decide_eq_true z)), if_neg y]
    rw [bt_s]
    constructor
    · intro z
      have a := ih.mp fun p hp => (lo p hp).symm.trans (z p (by omega))
      have b := hi.symm.trans (z N (by omega))
      rw [a, ← b]
      by_cases y : c % 2 = 1
      · rw [if_pos y, if_pos rfl]
        omega
      · rw [if_neg y, if_neg (by decide)]
        omega
    · intro z p hp
      have two : (bt_F f N = c / 2) ∧ (f N = 2 ↔ c % 2 = 1) := by
        by_cases y : f N = 2
        · rw [if_pos y] at z
          exact ⟨by omega, fun _ => by omega, fun _ => y⟩
        · rw [if_neg y] at z
          exact ⟨by omega, fun w => absurd w y, fun w => by omega⟩
      by_cases e : p = N
      · rw [e, hi]
        rcases hf N (by omega) with y | y
        · rw [if_neg (fun w => by have := two.2.mpr w; rw [y] at this; exact absurd this (by decide)), y]
        · rw [if_pos (two.2.mp y), y]
      · rw [lo p (by omega)]
        exact ih.mpr two.1 p (by omega)
theorem kq_rw {n c : Nat} (h3 : 3 ≤ n) (h6 : n ≤ 6) : ∀ p, p < rk_0 n n → rw_F n (kq_T n c) (fun a => a) false p = kb_W c (rk_0 n n) p := fun p hp => by
  obtain ⟨i, j, k, b1, b2, b3, b4, -⟩ := tr_of (show n ≤ 10 by omega) hp
  obtain ⟨p1, -⟩ := (kq_p h3 h6).2.2 i j k b1 b2 b3
  rw [← b4, rw_at (by omega) b1 b2 b3]
  unfold kb_W kq_T
  rw [show rk_0 n n - 1 - rk_F n i j k = kq_pos n i j k by omega]
  show (if nB_F n _ i j k != false then (1 : Int32) else 2) = _
  rw [nB_up b1 b2 b3]
  cases c.testBit (kq_pos n i j k) <;> rfl
theorem kq_2N {n c : Nat} (h3 : 3 ≤ n) (h6 : n ≤ 6) (h : c < kq_n n) : c < 2 ^ rk_0 n n := by
  have e : n = 3 ∨ n = 4 ∨ n = 5 ∨ n = 6 := by omega
  rcases e with rfl | rfl | rfl | rfl
  · exact Nat.lt_of_lt_of_le h (by decide)
  · exact Nat.lt_of_lt_of_le h (by decide)
  · exact Nat.lt_of_lt_of_le h (by decide)
  · exact Nat.lt_of_lt_of_le h (by decide)
theorem dX6_which_in12 {n : Nat} {x1 : Int32} {B : Nat → Nat → Nat → Bool} {M : pt_M} (h3 : 3 ≤ n) (h6 : n ≤ 6) (h : lA_P M x1 n B) (hf : fr_H (wl_M M x1 n B) (pt_R M (pt_nt x1 + 1)) n B) (hc : ¬ 0 < cq_F (pt_A (fw_M (wl_M M x1 n B) (pt_R M (pt_nt x1 + 1)) n B) 12 (pt_R M (pt_nt x1 + 1))) (pt_A (fw_M (wl_M M x1 n B) (pt_R M (pt_nt x1 + 1)) n B) 13 (pt_R M (pt_nt x1 + 1))) (rk_0 n n)) : pt_Does yX6_which YX6_which [pt_r 2 0, pt_i x1] M (some (pt_i (wh_I n (kn_F n) (bt_F (pt_A (fw_M (wl_M M x1 n B) (pt_R M (pt_nt x1 + 1)) n B) 12 (pt_R M (pt_nt x1 + 1))) (rk_0 n n))))) (fw_M (wl_M M x1 n B) (pt_R M (pt_nt x1 + 1)) n B) := by
  have c : n = 3 ∨ n = 4 ∨ n = 5 ∨ n = 6 := by omega
  rcases c with rfl | rfl | rfl | rfl
  · exact dX6_which_3_12 h hf hc
  · exact dX6_which_4_12 h hf hc
  · exact dX6_which_5_12 h hf hc
  · exact dX6_which_6_12 h hf hc
theorem dX6_which_in13 {n : Nat} {x1 : Int32} {B : Nat → Nat → Nat → Bool} {M : pt_M} (h3 : 3 ≤ n) (h6 : n ≤ 6) (h : lA_P M x1 n B) (hf : fr_H (wl_M M x1 n B) (pt_R M (pt_nt x1 + 1)) n B) (hc : 0 < cq_F (pt_A (fw_M (wl_M M x1 n B) (pt_R M (pt_nt x1 + 1)) n B) 12 (pt_R M (pt_nt x1 + 1))) (pt_A (fw_M (wl_M M x1 n B) (pt_R M (pt_nt x1 + 1)) n B) 13 (pt_R M (pt_nt x1 + 1))) (rk_0 n n)) : pt_Does yX6_which YX6_which [pt_r 2 0, pt_i x1] M (some (pt_i (wh_I n (kn_F n) (bt_F (pt_A (fw_M (wl_M M x1 n B) (pt_R M (pt_nt x1 + 1)) n B) 13 (pt_R M (pt_nt x1 + 1))) (rk_0 n n))))) (fw_M (wl_M M x1 n B) (pt_R M (pt_nt x1 + 1)) n B) := by
  have c : n = 3 ∨ n = 4 ∨ n = 5 ∨ n = 6 := by omega
  rcases c with rfl | rfl | rfl | rfl
  · exact dX6_which_3_13 h hf hc
  · exact dX6_which_4_13 h hf hc
  · exact dX6_which_5_13 h hf hc
  · exact dX6_which_6_13 h hf hc
theorem rX7_which_25 {vs : List pt_V} {M M' : pt_M} {x : Int32} {L : List (Nat × pt_V)} (hvs : (vs.map pt_w).sum ≤ 5) (hX : M'.2.2.2.2 = M.2.2.2.2) (h : pt_Go YX7_which (0, pt_en 0 vs, [], M) (25, L, [pt_i x], M')) : pt_Does yX7_which YX7_which vs M (some (pt_i x)) M' := pt_does_go tX7_which_ok nX7_which hvs hX ⟨_, by with_unfolding_all rfl, rfl, _, rfl, rfl⟩ h
theorem rX7_which_158 {vs : List pt_V} {M M' : pt_M} {x : Int32} {L : List (Nat × pt_V)} (hvs : (vs.map pt_w).sum ≤ 5) (hX : M'.2.2.2.2 = M.2.2.2.2) (h : pt_Go YX7_which (0, pt_en 0 vs, [], M) (158, L, [pt_i x], M')) : pt_Does yX7_which YX7_which vs M (some (pt_i x)) M' := pt_does_go tX7_which_ok nX7_which hvs hX ⟨_, by with_unfolding_all rfl, rfl, _, rfl, rfl⟩ h
theorem rX7_which_166 {vs : List pt_V} {M M' : pt_M} {x : Int32} {L : List (Nat × pt_V)} (hvs : (vs.map pt_w).sum ≤ 5) (hX : M'.2.2.2.2 = M.2.2.2.2) (h : pt_Go YX7_which (0, pt_en 0 vs, [], M) (166, L, [pt_i x], M')) : pt_Does yX7_which YX7_which vs M (some (pt_i x)) M' := pt_does_go tX7_which_ok nX7_which hvs hX ⟨_, by with_unfolding_all rfl, rfl, _, rfl, rfl⟩ h
set_option maxRecDepth 100000 in
theorem gX7_which_0_1 (x1 : Int32) (N : Nat) (M2 M3 M4 : pt_M) (M : pt_M) (h1 : pt_Does yX7_isLawful YX7_isLawful [pt_r 7 0, pt_i x1] (pt_wF M 7 0 0 0) (some (pt_i 1)) M2) (h2 : pt_in x1 6) (h3 : ¬ (pt_A M2 31 0 (pt_nt x1)) ≤ 6) :
    pt_Go YX7_which (0, [(0, pt_r 7 0), (1, pt_i x1)], [], M)
      (25, [(0, pt_r 7 0), (1, pt_i x1)], [pt_i (-1)], M2) :=
  pt_run_ok tX7_which_ok 14 [.inr (2, some (pt_i 1), M2), .inl false, .inl false] (P := pt_Cal YX7_which (.invokevirtual 141) [pt_r 7 0, pt_i x1] (pt_wF M 7 0 0 0) (some (pt_i 1)) M2 ∧ (¬ (1 : Int32) = (0 : Int32)) ∧ (pt_in x1 6) ∧ (¬ (pt_A M2 31 0 (pt_nt x1)) ≤ 6) ∧ True) (by with_unfolding_all rfl) ⟨(pt_callV (i := 0) kX7_which_141 mX7_isLawful rfl (by decide) rfl h1), (by decide), h2, h3, trivial⟩
set_option maxRecDepth 100000 in
theorem gX7_which_0_2 (x1 : Int32) (N : Nat) (M2 M3 M4 : pt_M) (M : pt_M) (h1 : pt_Does yX7_isLawful YX7_isLawful [pt_r 7 0, pt_i x1] (pt_wF M 7 0 0 0) (some (pt_i 1)) M2) (h2 : pt_in x1 6) (h3 : (pt_A M2 31 0 (pt_nt x1)) ≤ 6) (h4 : pt_Does yX7_find YX7_find [pt_r 7 0, pt_i (pt_A M2 31 0 (pt_nt x1))] M2 none M3) (h5 : pt_Does yX7_codeOf YX7_codeOf [pt_r 7 0, pt_i (120 * x1), pt_i (pt_A M2 31 0 (pt_nt x1))] M3 none M4) :
    pt_Go YX7_which (0, [(0, pt_r 7 0), (1, pt_i x1)], [], M)
      (49, [(0, pt_r 7 0), (2, pt_i (pt_A M2 31 0 (pt_nt x1))), (3, pt_i 0)], [], M4) :=
  (pt_run_ok tX7_which_ok 29 [.inr (2, some (pt_i 1), M2), .inl false, .inl true, .inr (2, none, M3), .inr (3, none, M4)] (P := pt_Cal YX7_which (.invokevirtual 141) [pt_r 7 0, pt_i x1] (pt_wF M 7 0 0 0) (some (pt_i 1)) M2 ∧ (¬ (1 : Int32) = (0 : Int32)) ∧ (pt_in x1 6) ∧ ((pt_A M2 31 0 (pt_nt x1)) ≤ 6) ∧ (pt_in x1 6) ∧ pt_Cal YX7_which (.invokevirtual 199) [pt_r 7 0, pt_i (pt_A M2 31 0 (pt_nt x1))] M2 none M3 ∧ pt_Cal YX7_which (.invokevirtual 171) [pt_r 7 0, pt_i (120 * x1), pt_i (pt_A M2 31 0 (pt_nt x1))] M3 none M4 ∧ True) (by with_unfolding_all rfl) ⟨(pt_callV (i := 0) kX7_which_141 mX7_isLawful rfl (by decide) rfl h1), (by decide), h2, h3, h2, (pt_callV (i := 0) kX7_which_199 mX7_find rfl (by decide) rfl h4), (pt_callV (i := 0) kX7_which_171 mX7_codeOf rfl (by decide) rfl h5), trivial⟩ : pt_Go YX7_which _ (49, [(0, pt_r 7 0), (1, pt_i x1), (2, pt_i (pt_A M2 31 0 (pt_nt x1))), (3, pt_i 0)], [], M4)).tr (pt_pick [0, 2, 3] (by with_unfolding_all rfl))
set_option maxRecDepth 100000 in
theorem gX7_which_0_3 (x1 : Int32) (N : Nat) (M2 M3 M4 : pt_M) (M : pt_M) (h1 : pt_Does yX7_isLawful YX7_isLawful [pt_r 7 0, pt_i x1] (pt_wF M 7 0 0 0) (some (pt_i 0)) M2) :
    pt_Go YX7_which (0, [(0, pt_r 7 0), (1, pt_i x1)], [], M)
      (25, [(0, pt_r 7 0), (1, pt_i x1)], [pt_i (-1)], M2) :=
  pt_run_ok tX7_which_ok 8 [.inr (2, some (pt_i 0), M2), .inl true] (P := pt_Cal YX7_which (.invokevirtual 141) [pt_r 7 0, pt_i x1] (pt_wF M 7 0 0 0) (some (pt_i 0)) M2 ∧ ((0 : Int32) = (0 : Int32)) ∧ True) (by with_unfolding_all rfl) ⟨(pt_callV (i := 0) kX7_which_141 mX7_isLawful rfl (by decide) rfl h1), (by decide), trivial⟩
set_option maxRecDepth 100000 in
theorem gX7_which_49_1 (l2 : Int32) (l3 : Int32) (N : Nat) (M2 M3 M4 : pt_M) (M : pt_M) (h1 : ¬ (to_F l2) ≤ l3) (h2 : pt_in l3 120) :
    pt_Go YX7_which (49, [(0, pt_r 7 0), (2, pt_i l2), (3, pt_i l3)], [], M)
      (49, [(0, pt_r 7 0), (2, pt_i l2), (3, pt_i (l3 + 1))], [], (pt_wA M 40 0 (upd (pt_A M 40 0) (pt_nt l3) (pt_A M 38 0 (pt_nt l3))))) :=
  pt_run_ok tX7_which_ok 14 [.inr (1, some (pt_i (to_F l2)), M), .inl false] (P := pt_Cal YX7_which (.invokestatic 161) [pt_i l2] M (some (pt_i (to_F l2))) M ∧ (¬ (to_F l2) ≤ l3) ∧ (pt_in l3 120) ∧ (pt_in l3 120) ∧ True) (by with_unfolding_all rfl) ⟨(pt_callS kX7_which_161 mX7_threesOf rfl (dX7_threesOf l2 M)), h1, h2, h2, trivial⟩
set_option maxRecDepth 100000 in
theorem gX7_which_49_2 (l2 : Int32) (l3 : Int32) (N : Nat) (M2 M3 M4 : pt_M) (M : pt_M) (h1 : (to_F l2) ≤ l3) :
    pt_Go YX7_which (49, [(0, pt_r 7 0), (2, pt_i l2), (3, pt_i l3)], [], M)
      (77, [(0, pt_r 7 0), (2, pt_i l2), (3, pt_i 0)], [], M) :=
  pt_run_ok tX7_which_ok 6 [.inr (1, some (pt_i (to_F l2)), M), .inl true] (P := pt_Cal YX7_which (.invokestatic 161) [pt_i l2] M (some (pt_i (to_F l2))) M ∧ ((to_F l2) ≤ l3) ∧ True) (by with_unfolding_all rfl) ⟨(pt_callS kX7_which_161 mX7_threesOf rfl (dX7_threesOf l2 M)), h1, trivial⟩
set_option maxRecDepth 100000 in
theorem gX7_which_77_1 (l2 : Int32) (l3 : Int32) (N : Nat) (M2 M3 M4 : pt_M) (M : pt_M) (h1 : pt_in l2 7) (h2 : ¬ (pt_A M 44 0 (pt_nt l2)) ≤ l3) (h3 : pt_in ((64 * l2) + l3) 448) (h4 : pt_Does yX7_byBits YX7_byBits [pt_r 7 0, pt_i l2, pt_i (pt_A M 45 0 (pt_nt ((64 * l2) + l3)))] M none M2) :
    pt_Go YX7_which (77, [(0, pt_r 7 0), (2, pt_i l2), (3, pt_i l3)], [], M)
      (106, [(0, pt_r 7 0), (2, pt_i l2), (3, pt_i l3), (4, pt_i 0)], [], M2) :=
  pt_run_ok tX7_which_ok 19 [.inl false, .inr (3, none, M2)] (P := (pt_in l2 7) ∧ (¬ (pt_A M 44 0 (pt_nt l2)) ≤ l3) ∧ (pt_in ((64 * l2) + l3) 448) ∧ pt_Cal YX7_which (.invokevirtual 196) [pt_r 7 0, pt_i l2, pt_i (pt_A M 45 0 (pt_nt ((64 * l2) + l3)))] M none M2 ∧ True) (by with_unfolding_all rfl) ⟨h1, h2, h3, (pt_callV (i := 0) kX7_which_196 mX7_byBits rfl (by decide) rfl h4), trivial⟩
set_option maxRecDepth 100000 in
theorem gX7_which_77_2 (l2 : Int32) (l3 : Int32) (N : Nat) (M2 M3 M4 : pt_M) (M : pt_M) (h1 : pt_in l2 7) (h2 : (pt_A M 44 0 (pt_nt l2)) ≤ l3) :
    pt_Go YX7_which (77, [(0, pt_r 7 0), (2, pt_i l2), (3, pt_i l3)], [], M)
      (166, [(0, pt_r 7 0), (2, pt_i l2), (3, pt_i l3)], [pt_i (-1)], M) :=
  pt_run_ok tX7_which_ok 7 [.inl true] (P := (pt_in l2 7) ∧ ((pt_A M 44 0 (pt_nt l2)) ≤ l3) ∧ True) (by with_unfolding_all rfl) ⟨h1, h2, trivial⟩
set_option maxRecDepth 100000 in
theorem gX7_which_106_1 (l2 : Int32) (l3 : Int32) (l4 : Int32) (N : Nat) (M2 M3 M4 : pt_M) (M : pt_M) (h1 : ¬ l2 ≤ l4) (h2 : pt_in l4 10) :
    pt_Go YX7_which (106, [(0, pt_r 7 0), (2, pt_i l2), (3, pt_i l3), (4, pt_i l4)], [], M)
      (106, [(0, pt_r 7 0), (2, pt_i l2), (3, pt_i l3), (4, pt_i (l4 + 1))], [], (pt_wA M 35 0 (upd (pt_A M 35 0) (pt_nt l4) l4))) :=
  pt_run_ok tX7_which_ok 10 [.inl false] (P := (¬ l2 ≤ l4) ∧ (pt_in l4 10) ∧ True) (by with_unfolding_all rfl) ⟨h1, h2, trivial⟩
set_option maxRecDepth 100000 in
theorem gX7_which_106_2 (l2 : Int32) (l3 : Int32) (l4 : Int32) (N : Nat) (M2 M3 M4 : pt_M) (M : pt_M) (h1 : l2 ≤ l4) (h2 : pt_Does yX7_rowOf YX7_rowOf [pt_r 7 0, pt_i 720, pt_i l2, pt_r 37 0] M none M2) (h3 : cn_P (to_F l2) N) (h4 : (mc_F (pt_A M2 37 0) (pt_A M2 40 0) N) = 0) :
    pt_Go YX7_which (106, [(0, pt_r 7 0), (2, pt_i l2), (3, pt_i l3), (4, pt_i l4)], [], M)
      (158, [(0, pt_r 7 0), (2, pt_i l2), (3, pt_i l3), (4, pt_i l4)], [pt_i l3], M2) :=
  pt_run_ok tX7_which_ok 18 [.inl true, .inr (4, none, M2), .inr (1, some (pt_i (to_F l2)), M2), .inr (3, some (pt_i (mc_F (pt_A M2 37 0) (pt_A M2 40 0) N)), M2), .inl false] (P := (l2 ≤ l4) ∧ pt_Cal YX7_which (.invokevirtual 157) [pt_r 7 0, pt_i 720, pt_i l2, pt_r 37 0] M none M2 ∧ pt_Cal YX7_which (.invokestatic 161) [pt_i l2] M2 (some (pt_i (to_F l2))) M2 ∧ pt_Cal YX7_which (.invokestatic 164) [pt_r 37 0, pt_r 40 0, pt_i (to_F l2)] M2 (some (pt_i (mc_F (pt_A M2 37 0) (pt_A M2 40 0) N))) M2 ∧ ((mc_F (pt_A M2 37 0) (pt_A M2 40 0) N) = 0) ∧ True) (by with_unfolding_all rfl) ⟨h1, (pt_callV (i := 0) kX7_which_157 mX7_rowOf rfl (by decide) rfl h2), (pt_callS kX7_which_161 mX7_threesOf rfl (dX7_threesOf l2 M2)), (pt_callS kX7_which_164 mX7_compare rfl (dX7_compare_3740t h3)), h4, trivial⟩
set_option maxRecDepth 100000 in
theorem gX7_which_106_3 (l2 : Int32) (l3 : Int32) (l4 : Int32) (N : Nat) (M2 M3 M4 : pt_M) (M : pt_M) (h1 : l2 ≤ l4) (h2 : pt_Does yX7_rowOf YX7_rowOf [pt_r 7 0, pt_i 720, pt_i l2, pt_r 37 0] M none M2) (h3 : cn_P (to_F l2) N) (h4 : ¬ (mc_F (pt_A M2 37 0) (pt_A M2 40 0) N) = 0) :
    pt_Go YX7_which (106, [(0, pt_r 7 0), (2, pt_i l2), (3, pt_i l3), (4, pt_i l4)], [], M)
      (77, [(0, pt_r 7 0), (2, pt_i l2), (3, pt_i (l3 + 1))], [], M2) :=
  (pt_run_ok tX7_which_ok 19 [.inl true, .inr (4, none, M2), .inr (1, some (pt_i (to_F l2)), M2), .inr (3, some (pt_i (mc_F (pt_A M2 37 0) (pt_A M2 40 0) N)), M2), .inl true] (P := (l2 ≤ l4) ∧ pt_Cal YX7_which (.invokevirtual 157) [pt_r 7 0, pt_i 720, pt_i l2, pt_r 37 0] M none M2 ∧ pt_Cal YX7_which (.invokestatic 161) [pt_i l2] M2 (some (pt_i (to_F l2))) M2 ∧ pt_Cal YX7_which (.invokestatic 164) [pt_r 37 0, pt_r 40 0, pt_i (to_F l2)] M2 (some (pt_i (mc_F (pt_A M2 37 0) (pt_A M2 40 0) N))) M2 ∧ (¬ (mc_F (pt_A M2 37 0) (pt_A M2 40 0) N) = 0) ∧ True) (by with_unfolding_all rfl) ⟨h1, (pt_callV (i := 0) kX7_which_157 mX7_rowOf rfl (by decide) rfl h2), (pt_callS kX7_which_161 mX7_threesOf rfl (dX7_threesOf l2 M2)), (pt_callS kX7_which_164 mX7_compare rfl (dX7_compare_3740t h3)), h4, trivial⟩ : pt_Go YX7_which _ (77, [(0, pt_r 7 0), (2, pt_i l2), (3, pt_i (l3 + 1)), (4, pt_i l4)], [], M2)).tr (pt_pick [0, 1, 2] (by with_unfolding_all rfl))
/-- the loop over the kinds -/
theorem wh_go {n c : Nat} {M0 : pt_M} (h3 : 3 ≤ n) (h6 : n ≤ 6) (h44 : pt_A M0 44 0 n = nI (kn_F n)) (h45 : ∀ q, q < kn_F n → pt_A M0 45 0 (64 * n + q) = nI (kv_F n q)) (hc : ∀ k, k < kn_F n → (mc_F (rw_F n (kq_T n (kv_F n k)) (fun a => a) false) (pt_A M0 40 0) (rk_0 n n) = 0 ↔ kv_F n k = c)) : ∀ d k M1, k + d = kn_F n → fe_P M0 M1 → ∃ M2 L, fe_P M0 M2 ∧ ((∃ v, fs_F d k (fun k => if kv_F n k = c then some k else none) = some v ∧ pt_Go YX7_which (77, [(0, pt_r 7 0), (2, pt_i (nI n)), (3, pt_i (nI k))], [], M1) (158, L, [pt_i (nI v)], M2)) ∨ (fs_F d k (fun k => if kv_F n k = c then some k else none) = none ∧ pt_Go YX7_which (77, [(0, pt_r 7 0), (2, pt_i (nI n)), (3, pt_i (nI k))], [], M1) (166, L, [pt_i (-1)], M2))) := by
  obtain ⟨a1, a2, a3, a4⟩ := n36 h3 h6
  have hkn := (kq_mn h3 h6).2
  have hn : n ≤ 10 := by omega
  have hcn := to_nI hn
  intro d
  induction d with
  | zero =>
    intro k M1 hk he
    have e44 : pt_A M1 44 0 n = nI (kn_F n) := (congrFun (he.2.1 44 0 (by decide) (by decide) (by decide) (by decide) (by decide) (by decide)) n).trans h44
    exact ⟨M1, _, he, .inr ⟨rfl, gX7_which_77_2 (nI n) (nI k) 0 M1 M1 M1 M1 a3 (by rw [a4, e44, show k = kn_F n by omega]; exact Int32.le_refl _)⟩⟩
  | succ d ih =>
    intro k M1 hk he
    have hq : k < kn_F n := by omega
    have e44 : pt_A M1 44 0 n = nI (kn_F n) := (congrFun (he.2.1 44 0 (by decide) (by decide) (by decide) (by decide) (by decide) (by decide)) n).trans h44
    have e45 : pt_A M1 45 0 (64 * n + k) = nI (kv_F n k) := (congrFun (he.2.1 45 0 (by decide) (by decide) (by decide) (by decide) (by decide) (by decide)) _).trans (h45 k hq)
    have e64 : (64 : Int32) * nI n + nI k = nI (64 * n + k) := by rw [show (64 : Int32) = nI 64 from rfl, pk_mul, nI_add]
    have b := dX7_byBits (M := M1) h3 h6 (kv_ltn h3 h6 hq)
    have hml : ml_P (st_M M1 720 n fun i j k' => !(kv_F n k).testBit (kq_pos n i j k')) 720 n (kq_T n (kv_F n k)) := st_ml (by decide) hn
    have f4 : fe_P M1 (st_M M1 720 n fun i j k' => !(kv_F n k).testBit (kq_pos n i j k')) := fe_st
    have g1 := gX7_which_77_1 (nI n) (nI k) 0 _ M1 M1 M1 a3 (by rw [a4, e44]; exact nI_ge hq (by omega)) (by rw [e64]; exact pt_in_nI (by omega) (by decide)) (by rw [e64, pt_nt_nI (by omega), e45]; exact b)
    generalize (st_M M1 720 n fun i j k' => !(kv_F n k).testBit (kq_pos n i j k')) = M4 at g1 hml f4
    have K := pt_for0 (Y := YX7_which) (fun q => (106, [(0, pt_r 7 0), (2, pt_i (nI n)), (3, pt_i (nI k)), (4, pt_i (nI q))], [], pt_wA M4 35 0 (co_F (pt_A M4 35 0) nI q))) (n := n) fun q hq => by
      refine (gX7_which_106_1 (nI n) (nI k) (nI q) 0 M1 M1 M1 _ (nI_ge hq (by omega)) (pt_in_nI (by omega) (by decide))).to ?_
      rw [wA_2 _ _ _ _ (by omega), co_step, nI_1]
    have e0 : pt_wA M4 35 0 (co_F (pt_A M4 35 0) nI 0) = M4 := by
      rw [co_zero]
      exact pt_wA_self M4 35 0
    rw [e0] at K
    generalize hM5 : pt_wA M4 35 0 (co_F (pt_A M4 35 0) nI n) = M5 at K
    have hml5 : ml_P M5 720 n (kq_T n (kv_F n k)) := ml_A hml (by rw [← hM5]; rfl)
    have hro : ro_Q M5 n fun a => a := ⟨fun e he => ⟨by rw [← hM5, pt_A_wA]; exact if_pos he, he⟩, fun a b h1 _ z => by dsimp only at z; omega⟩
    have hr := dX7_rowOf hml5 hro
    have f5 : fe_P M0 M5 := by
      rw [← hM5]
      exact (he.tr f4).tr (fe_w (.inl rfl))
    have f6 := f5.tr (fe_w (k := 37) (g := co_F (pt_A M5 37 0) (rw_F n (kq_T n (kv_F n k)) (fun a => a) false) (rk_0 n n)) (.inr (.inr rfl)))
    have hcmp : mc_F (pt_A (pt_wA M5 37 0 (co_F (pt_A M5 37 0) (rw_F n (kq_T n (kv_F n k)) (fun a => a) false) (rk_0 n n))) 37 0) (pt_A (pt_wA M5 37 0 (co_F (pt_A M5 37 0) (rw_F n (kq_T n (kv_F n k)) (fun a => a) false) (rk_0 n n))) 40 0) (rk_0 n n) = mc_F (rw_F n (kq_T n (kv_F n k)) (fun a => a) false) (pt_A M0 40 0) (rk_0 n n) := by
      refine mc_cg (fun p hp => by rw [pt_A_wA]; exact if_pos hp) fun p hp => ?_
      exact congrFun (f6.2.1 40 0 (by decide) (by decide) (by decide) (by decide) (by decide) (by decide)) p
    generalize pt_wA M5 37 0 (co_F (pt_A M5 37 0) (rw_F n (kq_T n (kv_F n k)) (fun a => a) false) (rk_0 n n)) = M6 at hr hcmp f6
    have hck := hc k hq
    by_cases y : kv_F n k = c
    · refine ⟨M6, _, f6, .inl ⟨k, ?_, g1.tr (K.tr (gX7_which_106_2 (nI n) (nI k) (nI n) (rk_0 n n) M6 M1 M1 M5 (Int32.le_refl _) hr hcn (hcmp.trans (hck.mpr y))))⟩⟩
      rw [fs_F]
      simp only [if_pos y]
    · have g2 := gX7_which_106_3 (nI n) (nI k) (nI n) (rk_0 n n) M6 M1 M1 M5 (Int32.le_refl _) hr hcn (fun z => y (hck.mp (hcmp.symm.trans z)))
      rw [nI_1] at g2
      have es : fs_F (d + 1) k (fun k => if kv_F n k = c then some k else none) = fs_F d (k + 1) (fun k => if kv_F n k = c then some k else none) := by
        rw [fs_F]
        simp only [if_neg y]
      rw [es]
      obtain ⟨M2, L, i1, i2⟩ := ih (k + 1) M6 (by omega) f6
      refine ⟨M2, L, i1, ?_⟩
      rcases i2 with ⟨v, v1, v2⟩ | ⟨v1, v2⟩
      · exact .inl ⟨v, v1, g1.tr (K.tr (g2.tr v2))⟩
      · exact .inr ⟨v1, g1.tr (K.tr (g2.tr v2))⟩
theorem dX7_which_y {s n : Nat} {B : Nat → Nat → Nat → Bool} {M M2 M3 : pt_M} (hs : s < 6) (hl : pt_Does yX7_isLawful YX7_isLawful [pt_r 7 0, pt_i (nI s)] (pt_wF M 7 0 0 0) (some (pt_i 1)) M2) (hN : pt_A M2 31 0 s = nI n) (h3 : 3 ≤ n) (h6 : n ≤ 6) (hf : pt_Does yX7_find YX7_find [pt_r 7 0, pt_i (nI n)] M2 none M3) (h44 : pt_A M3 44 0 n = nI (kn_F n)) (h45 : ∀ q, q < kn_F n → pt_A M3 45 0 (64 * n + q) = nI (kv_F n q)) (hml : ml_P M3 (120 * s) n B) (h : lw_P n B) (hd : dg_P n B) : ∃ M', pt_Does yX7_which YX7_which [pt_r 7 0, pt_i (nI s)] M (some (pt_i (wh_I n (kn_F n) (bt_F (cd_F n B) (rk_0 n n))))) M' ∧ pt_F M' = pt_F M3 ∧ (∀ k i, k ≠ 32 → k ≠ 35 → k ≠ 36 → k ≠ 37 → k ≠ 38 → k ≠ 39 → k ≠ 40 → pt_A M' k i = pt_A M3 k i) ∧ (∀ p, p < 720 → pt_A M' 32 0 p = pt_A M3 32 0 p) ∧ M'.2.2 = M3.2.2 := by
  have hn := h.1
  have hcn := to_nI hn
  have es : pt_nt (nI s) = s := pt_nt_nI (by omega)
  obtain ⟨M4, d4, k4, a4⟩ := dX7_codeOf hml h hd h3
  have hfe := fe_ck k4
  have g0 := gX7_which_0_2 (nI s) 0 M2 M3 M4 M hl (pt_in_nI hs (by decide)) (by rw [es, hN]; exact (n36 h3 h6).2.1) (by rw [es, hN]; exact hf) (by rw [es, hN, m120]; exact d4)
  rw [es, hN] at g0
  have K := pt_for0 (Y := YX7_which) (fun q => (49, [(0, pt_r 7 0), (2, pt_i (nI n)), (3, pt_i (nI q))], [], pt_wA M4 40 0 (co_F (pt_A M4 40 0) (pt_A M4 38 0) q))) (n := rk_0 n n) fun q hq => by
    have h120 := hcn.2
    refine (gX7_which_49_1 (nI n) (nI q) 0 M M M _ (by rw [hcn.1]; exact nI_ge hq (by omega)) (pt_in_nI (by omega) (by decide))).to ?_
    have e : pt_A (pt_wA M4 40 0 (co_F (pt_A M4 40 0) (pt_A M4 38 0) q)) 38 0 = pt_A M4 38 0 := rfl
    rw [wA_2 _ _ _ _ (by omega), e, pt_nt_nI (by omega), co_step, nI_1]
  have e0 : pt_wA M4 40 0 (co_F (pt_A M4 40 0) (pt_A M4 38 0) 0) = M4 := by
    rw [co_zero]
    exact pt_wA_self M4 40 0
  rw [e0] at K
  have g1 := gX7_which_49_2 (nI n) (nI (rk_0 n n)) 0 M M M (pt_wA M4 40 0 (co_F (pt_A M4 40 0) (pt_A M4 38 0) (rk_0 n n))) (by rw [hcn.1]; exact Int32.le_refl _)
  have x44 : pt_A (pt_wA M4 40 0 (co_F (pt_A M4 40 0) (pt_A M4 38 0) (rk_0 n n))) 44 0 n = nI (kn_F n) := (congrFun (k4.2.1 44 0 (by decide) (by decide) (by decide) (by decide)) n).trans h44
  have x45 : ∀ q, q < kn_F n → pt_A (pt_wA M4 40 0 (co_F (pt_A M4 40 0) (pt_A M4 38 0) (rk_0 n n))) 45 0 (64 * n + q) = nI (kv_F n q) := fun q hq => (congrFun (k4.2.1 45 0 (by decide) (by decide) (by decide) (by decide)) _).trans (h45 q hq)
  have c12 := cd_12 h h3
  have hc : ∀ k, k < kn_F n → (mc_F (rw_F n (kq_T n (kv_F n k)) (fun a => a) false) (pt_A (pt_wA M4 40 0 (co_F (pt_A M4 40 0) (pt_A M4 38 0) (rk_0 n n))) 40 0) (rk_0 n n) = 0 ↔ kv_F n k = bt_F (cd_F n B) (rk_0 n n)) := fun k hk => by
    rw [mc_cg (f' := rw_F n (kq_T n (kv_F n k)) (fun a => a) false) (w' := cd_F n B) (fun _ _ => rfl) (fun p hp => by rw [pt_A_wA]; exact (if_pos hp).trans (a4 p hp)), mc_0 (fun p _ => rw_12) c12]
    have b := bt_eq (f := cd_F n B) (kq_2N h3 h6 (kv_ltn h3 h6 hk)) c12
    constructor
    · intro z
      exact (b.mp fun p hp => (kq_rw h3 h6 p hp).symm.trans (z p hp)).symm
    · intro z p hp
      exact (kq_rw h3 h6 p hp).trans (b.mpr z.symm p hp)
  obtain ⟨M6, L, f6, r⟩ := wh_go h3 h6 x44 x45 hc (kn_F n) 0 _ (by omega) ⟨rfl, fun _ _ _ _ _ _ _ _ => rfl, fun _ _ => rfl, rfl⟩
  have hX : M6.2.2.2.2 = M.2.2.2.2 := (congrArg (fun z => z.2.2) f6.2.2.2).trans ((congrArg (fun z => z.2.2) k4.2.2).trans ((dX_x5 hf).trans (dX_x5 hl)))
  refine ⟨M6, ?_, f6.1.trans k4.1, fun k i c1 c2 c3 c4 c5 c6 c7 => (f6.2.1 k i c1 c2 c3 c4 c5 c6).trans ((if_neg fun z => c7 z.1).trans (k4.2.1 k i c2 c4 c5 c6)), fun p hp => (f6.2.2.1 p hp).trans (hfe.2.2.1 p hp), f6.2.2.2.trans k4.2.2⟩
  unfold wh_I wh_F
  rcases r with ⟨v, v1, v2⟩ | ⟨v1, v2⟩
  · rw [Nat.sub_zero, v1]
    exact rX7_which_158 (Nat.le_of_ble_eq_true rfl) hX (g0.tr (K.tr (g1.tr v2)))
  · rw [Nat.sub_zero, v1]
    exact rX7_which_166 (Nat.le_of_ble_eq_true rfl) hX (g0.tr (K.tr (g1.tr v2)))
theorem bt_cg {f g : Nat → Int32} : ∀ {N : Nat}, (∀ p, p < N → f p = g p) → bt_F f N = bt_F g N
  | 0, _ => rfl
  | N + 1, h => by rw [bt_s, bt_s, bt_cg (N := N) fun p hp => h p (by omega), h N (by omega)]
theorem op_which {M : pt_M} (h : IV_P M) (x : Int32) : op_P yX6_which YX6_which yX7_which YX7_which [pt_i x] M := by
  obtain ⟨A, hC, hM⟩ := h
  have zB : Nat → Nat → Nat → Bool := fun _ _ _ => false
  rcases lw_case hC x with ⟨h1, h2⟩ | ⟨s, hs, rfl, hn⟩
  · exact op_of hC hM (A' := A) (M2 := t0_M M) (dX6_which0_p5 x 0 zB 0 M h1) mo_P.rf hC fun hM => ⟨rX7_which_25 (Nat.le_of_ble_eq_true rfl) rfl (gX7_which_0_3 x 0 (t0_M M) M M M (il_0 (h2 M hM))), t0_ca, hM⟩
  have hC1 := CR_wm hC hs hn
  by_cases hz : wy_F (iv_N A s) (iv_B A s) = 0
  case neg =>
    refine op_ex hC hM (A' := A) (dX6_which0_p4 (nI s) (iv_N A s) (iv_B A s) 0 M (CR_lN hC hs hn hz)) mo_wm hC1 fun hM => ?_
    obtain ⟨g, hg⟩ := il_f hM hs hn hz
    have G := gX7_which_0_3 (nI s) 0 _ M M _ hg
    refine ⟨_, rX7_which_25 (Nat.le_of_ble_eq_true rfl) ?_ G, ca_t36, MR_36 hM⟩
    rfl
  obtain ⟨q1, q2, q3, q4, q5, q6⟩ := CR_y hC hs hn
  have es : pt_nt (nI s) = s := pt_nt_nI (by omega)
  obtain ⟨x1, x2, x3, x4, x5, x6, x7, x8⟩ := xr_ok hC hs hn hz
  have hl := CR_lA hC hs hn hz
  have t7 : pt_R M (s + 1) < 7 := x3.1.1
  by_cases c : iv_N A s ≤ 6
  case neg =>
    have d1 := dX6_which0_p1 (nI s) (iv_N A s) (iv_B A s) 0 M hl
    rw [es] at d1
    refine op_ex hC hM (A' := A) (d1 t7 (by rw [x6]; exact .inr (by rw [nI_toInt (by omega)]; omega)) rfl) mo_wm hC1 fun hM => ?_
    obtain ⟨g, hg⟩ := il_t hM hs hn hz
    have y := MR_y (MR_36 (g := g) hM) hs hn
    have G := gX7_which_0_1 (nI s) 0 _ M M _ hg (pt_in_nI hs (by decide)) (by rw [es, y.2.1]; exact nI_ge (a := 6) (by omega) (by omega))
    refine ⟨_, rX7_which_25 (Nat.le_of_ble_eq_true rfl) ?_ G, ca_t36, MR_36 hM⟩
    rfl
  have mod : ∀ M1, MR_P M1 A → ∃ M2, pt_Does yX7_which YX7_which [pt_r 7 0, pt_i (nI s)] M1 (some (pt_i (wh_I (iv_N A s) (kn_F (iv_N A s)) (bt_F (cd_F (iv_N A s) (iv_B A s)) (rk_0 (iv_N A s) (iv_N A s)))))) M2 ∧ ca_P M1 M2 ∧ MR_P M2 A := fun M1 hM => by
    obtain ⟨g, hg⟩ := il_t hM hs hn hz
    have y := MR_y (MR_36 (g := g) hM) hs hn
    obtain ⟨M3, d3, c3, m3, e3, e4⟩ := dX7_find q1 c (MR_36 (g := g) hM)
    obtain ⟨M2, d, k1, k2, k3, k4⟩ := dX7_which_y hs hg y.2.1 q1 c d3 e3 e4 (MR_y m3 hs hn).2.2 x2 iv_dg
    have kk : ∀ k i, k ≠ 32 → k ≠ 35 → k ≠ 36 → k ≠ 37 → k ≠ 38 → k ≠ 39 → k ≠ 40 → pt_A M2 k i = pt_A M3 k i := k2
    refine ⟨M2, d, (ca_t36.tr c3).tr ⟨fun k _ => congrFun k1 k, fun k hk => funext fun i => kk k i (by omega) (by omega) (by omega) (by omega) (by omega) (by omega) (by omega), congrArg (fun z => z.2.1) k4⟩, MR_lo m3 (congrFun k1 7) (fun k hk => kk k 0 (by omega) (by omega) (by omega) (by omega) (by omega) (by omega) (by omega)) k3 fun m a b => ?_⟩
    rw [kk 44 0 (by decide) (by decide) (by decide) (by decide) (by decide) (by decide) (by decide), kk 45 0 (by decide) (by decide) (by decide) (by decide) (by decide) (by decide) (by decide)]
    exact m3.2.2.2.2.2.2 m a b
  by_cases v : mc_F (fr_R (iv_N A s) (iv_B A s) true (iv_N A s)) (fr_R (iv_N A s) (iv_B A s) false (iv_N A s)) (rk_0 (iv_N A s) (iv_N A s)) < 0
  · have d1 := dX6_which_in13 (x1 := nI s) q1 c hl
    rw [es] at d1
    have d1 := d1 x3 (x5.mpr v)
    have eC : cd_F (iv_N A s) (iv_B A s) = fr_R (iv_N A s) (iv_B A s) true (iv_N A s) := if_pos v
    rw [eC] at mod
    have eb := bt_cg (N := rk_0 (iv_N A s) (iv_N A s)) fun p hp => (x4 p hp).2
    unfold xr_M at eb
    rw [eb] at d1
    exact op_ex hC hM d1 x7 x1 fun hM => mod _ hM
  · have d1 := dX6_which_in12 (x1 := nI s) q1 c hl
    rw [es] at d1
    have d1 := d1 x3 (fun z => v (x5.mp z))
    have eC : cd_F (iv_N A s) (iv_B A s) = fr_R (iv_N A s) (iv_B A s) false (iv_N A s) := if_neg v
    rw [eC] at mod
    have eb := bt_cg (N := rk_0 (iv_N A s) (iv_N A s)) fun p hp => (x4 p hp).1
    unfold xr_M at eb
    rw [eb] at d1
    exact op_ex hC hM d1 x7 x1 fun hM => mod _ hM
