/-! which: of 3 to 6 points -/
set_option maxRecDepth 100000 in
theorem gX6_which3_0_1 (x1 : Int32) (n : Nat) (B : Nat → Nat → Nat → Bool) (N : Nat) (M : pt_M) (h1 : lA_P M x1 n B) (h2 : (pt_R M (pt_nt x1 + 1)) < 7) (h3 : (pt_F (wl_M M x1 n B) 3 0 (pt_R M (pt_nt x1 + 1))) = 3) (h4 : (nI 1) = 0) :
    pt_Go YX6_which (0, [(0, pt_r 2 0), (1, pt_i x1)], [], M)
      (26, [(0, pt_r 2 0), (1, pt_i x1), (2, pt_r 3 (pt_R M (pt_nt x1 + 1))), (3, pt_r 61 0)], [pt_i (-1)], (wl_M M x1 n B)) :=
  pt_run_ok tX6_which_ok 14 [.inr (2, some (pt_r 3 (pt_R M (pt_nt x1 + 1))), (wl_M M x1 n B)), .inr (1, some (pt_r 61 0), (wl_M M x1 n B)), .inl false] (P := pt_Cal YX6_which (.invokevirtual 163) [pt_r 2 0, pt_i x1] M (some (pt_r 3 (pt_R M (pt_nt x1 + 1)))) (wl_M M x1 n B) ∧ ((pt_R M (pt_nt x1 + 1)) < 7) ∧ pt_Cal YX6_which (.invokestatic 252) [pt_i (pt_F (wl_M M x1 n B) 3 0 (pt_R M (pt_nt x1 + 1)))] (wl_M M x1 n B) (some (pt_r 61 0)) (wl_M M x1 n B) ∧ ((nI 1) = 0) ∧ True) (by with_unfolding_all rfl) ⟨(pt_callV (i := 0) kX6_which_163 mX6_lawfulAt rfl (by decide) rfl (dX6_lawfulAt_y h1)), h2, (pt_callS kX6_which_252 mX6_kindsOf rfl (dX6_kindsOf_3 h3)), h4, trivial⟩
set_option maxRecDepth 100000 in
theorem gX6_which3_0_2 (x1 : Int32) (n : Nat) (B : Nat → Nat → Nat → Bool) (N : Nat) (M : pt_M) (h1 : lA_P M x1 n B) (h2 : (pt_R M (pt_nt x1 + 1)) < 7) (h3 : (pt_F (wl_M M x1 n B) 3 0 (pt_R M (pt_nt x1 + 1))) = 3) (h4 : ¬ (nI 1) = 0) (h5 : fr_H (wl_M M x1 n B) (pt_R M (pt_nt x1 + 1)) n B) (h6 : ¬ 0 < cq_F (pt_A (fw_M (wl_M M x1 n B) (pt_R M (pt_nt x1 + 1)) n B) 12 (pt_R M (pt_nt x1 + 1))) (pt_A (fw_M (wl_M M x1 n B) (pt_R M (pt_nt x1 + 1)) n B) 13 (pt_R M (pt_nt x1 + 1))) (rk_0 n n)) (h7 : bo_P (to_F (pt_F (fw_M (wl_M M x1 n B) (pt_R M (pt_nt x1 + 1)) n B) 3 0 (pt_R M (pt_nt x1 + 1)))) N) :
    pt_Go YX6_which (0, [(0, pt_r 2 0), (1, pt_i x1)], [], M)
      (50, [(3, pt_r 61 0), (4, pt_i (nI (bt_F (pt_A (fw_M (wl_M M x1 n B) (pt_R M (pt_nt x1 + 1)) n B) 12 (pt_R M (pt_nt x1 + 1))) N))), (5, pt_i 0)], [], (fw_M (wl_M M x1 n B) (pt_R M (pt_nt x1 + 1)) n B)) :=
  (pt_run_ok tX6_which_ok 24 [.inr (2, some (pt_r 3 (pt_R M (pt_nt x1 + 1))), (wl_M M x1 n B)), .inr (1, some (pt_r 61 0), (wl_M M x1 n B)), .inl true, .inr (2, some (pt_r 12 (pt_R M (pt_nt x1 + 1))), (fw_M (wl_M M x1 n B) (pt_R M (pt_nt x1 + 1)) n B)), .inr (1, some (pt_i (to_F (pt_F (fw_M (wl_M M x1 n B) (pt_R M (pt_nt x1 + 1)) n B) 3 0 (pt_R M (pt_nt x1 + 1))))), (fw_M (wl_M M x1 n B) (pt_R M (pt_nt x1 + 1)) n B)), .inr (2, some (pt_i (nI (bt_F (pt_A (fw_M (wl_M M x1 n B) (pt_R M (pt_nt x1 + 1)) n B) 12 (pt_R M (pt_nt x1 + 1))) N))), (fw_M (wl_M M x1 n B) (pt_R M (pt_nt x1 + 1)) n B))] (P := pt_Cal YX6_which (.invokevirtual 163) [pt_r 2 0, pt_i x1] M (some (pt_r 3 (pt_R M (pt_nt x1 + 1)))) (wl_M M x1 n B) ∧ ((pt_R M (pt_nt x1 + 1)) < 7) ∧ pt_Cal YX6_which (.invokestatic 252) [pt_i (pt_F (wl_M M x1 n B) 3 0 (pt_R M (pt_nt x1 + 1)))] (wl_M M x1 n B) (some (pt_r 61 0)) (wl_M M x1 n B) ∧ (¬ (nI 1) = 0) ∧ pt_Cal YX6_which (.invokevirtual 196) [pt_r 5 0, pt_r 3 (pt_R M (pt_nt x1 + 1))] (wl_M M x1 n B) (some (pt_r 12 (pt_R M (pt_nt x1 + 1)))) (fw_M (wl_M M x1 n B) (pt_R M (pt_nt x1 + 1)) n B) ∧ ((pt_R M (pt_nt x1 + 1)) < 7) ∧ pt_Cal YX6_which (.invokestatic 110) [pt_i (pt_F (fw_M (wl_M M x1 n B) (pt_R M (pt_nt x1 + 1)) n B) 3 0 (pt_R M (pt_nt x1 + 1)))] (fw_M (wl_M M x1 n B) (pt_R M (pt_nt x1 + 1)) n B) (some (pt_i (to_F (pt_F (fw_M (wl_M M x1 n B) (pt_R M (pt_nt x1 + 1)) n B) 3 0 (pt_R M (pt_nt x1 + 1)))))) (fw_M (wl_M M x1 n B) (pt_R M (pt_nt x1 + 1)) n B) ∧ pt_Cal YX6_which (.invokestatic 256) [pt_r 12 (pt_R M (pt_nt x1 + 1)), pt_i (to_F (pt_F (fw_M (wl_M M x1 n B) (pt_R M (pt_nt x1 + 1)) n B) 3 0 (pt_R M (pt_nt x1 + 1))))] (fw_M (wl_M M x1 n B) (pt_R M (pt_nt x1 + 1)) n B) (some (pt_i (nI (bt_F (pt_A (fw_M (wl_M M x1 n B) (pt_R M (pt_nt x1 + 1)) n B) 12 (pt_R M (pt_nt x1 + 1))) N)))) (fw_M (wl_M M x1 n B) (pt_R M (pt_nt x1 + 1)) n B) ∧ True) (by with_unfolding_all rfl) ⟨(pt_callV (i := 0) kX6_which_163 mX6_lawfulAt rfl (by decide) rfl (dX6_lawfulAt_y h1)), h2, (pt_callS kX6_which_252 mX6_kindsOf rfl (dX6_kindsOf_3 h3)), h4, (pt_callV (i := 0) kX6_which_196 mX0_codeOf rfl (by decide) rfl (dX0_codeOf_own h5 h6)), h2, (pt_callS kX6_which_110 mX6_turnsOf rfl (dX6_turnsOf (pt_F (fw_M (wl_M M x1 n B) (pt_R M (pt_nt x1 + 1)) n B) 3 0 (pt_R M (pt_nt x1 + 1))) (fw_M (wl_M M x1 n B) (pt_R M (pt_nt x1 + 1)) n B))), (pt_callS kX6_which_256 mX0_bitsOf rfl (dX0_bitsOf_t12 h2 h7)), trivial⟩ : pt_Go YX6_which _ (50, [(0, pt_r 2 0), (1, pt_i x1), (2, pt_r 3 (pt_R M (pt_nt x1 + 1))), (3, pt_r 61 0), (4, pt_i (nI (bt_F (pt_A (fw_M (wl_M M x1 n B) (pt_R M (pt_nt x1 + 1)) n B) 12 (pt_R M (pt_nt x1 + 1))) N))), (5, pt_i 0)], [], (fw_M (wl_M M x1 n B) (pt_R M (pt_nt x1 + 1)) n B))).tr (pt_pick [3, 4, 5] (by with_unfolding_all rfl))
set_option maxRecDepth 100000 in
theorem gX6_which3_0_3 (x1 : Int32) (n : Nat) (B : Nat → Nat → Nat → Bool) (N : Nat) (M : pt_M) (h1 : lA_P M x1 n B) (h2 : (pt_R M (pt_nt x1 + 1)) < 7) (h3 : (pt_F (wl_M M x1 n B) 3 0 (pt_R M (pt_nt x1 + 1))) = 3) (h4 : ¬ (nI 1) = 0) (h5 : fr_H (wl_M M x1 n B) (pt_R M (pt_nt x1 + 1)) n B) (h6 : 0 < cq_F (pt_A (fw_M (wl_M M x1 n B) (pt_R M (pt_nt x1 + 1)) n B) 12 (pt_R M (pt_nt x1 + 1))) (pt_A (fw_M (wl_M M x1 n B) (pt_R M (pt_nt x1 + 1)) n B) 13 (pt_R M (pt_nt x1 + 1))) (rk_0 n n)) (h7 : bo_P (to_F (pt_F (fw_M (wl_M M x1 n B) (pt_R M (pt_nt x1 + 1)) n B) 3 0 (pt_R M (pt_nt x1 + 1)))) N) :
    pt_Go YX6_which (0, [(0, pt_r 2 0), (1, pt_i x1)], [], M)
      (50, [(3, pt_r 61 0), (4, pt_i (nI (bt_F (pt_A (fw_M (wl_M M x1 n B) (pt_R M (pt_nt x1 + 1)) n B) 13 (pt_R M (pt_nt x1 + 1))) N))), (5, pt_i 0)], [], (fw_M (wl_M M x1 n B) (pt_R M (pt_nt x1 + 1)) n B)) :=
  (pt_run_ok tX6_which_ok 24 [.inr (2, some (pt_r 3 (pt_R M (pt_nt x1 + 1))), (wl_M M x1 n B)), .inr (1, some (pt_r 61 0), (wl_M M x1 n B)), .inl true, .inr (2, some (pt_r 13 (pt_R M (pt_nt x1 + 1))), (fw_M (wl_M M x1 n B) (pt_R M (pt_nt x1 + 1)) n B)), .inr (1, some (pt_i (to_F (pt_F (fw_M (wl_M M x1 n B) (pt_R M (pt_nt x1 + 1)) n B) 3 0 (pt_R M (pt_nt x1 + 1))))), (fw_M (wl_M M x1 n B) (pt_R M (pt_nt x1 + 1)) n B)), .inr (2, some (pt_i (nI (bt_F (pt_A (fw_M (wl_M M x1 n B) (pt_R M (pt_nt x1 + 1)) n B) 13 (pt_R M (pt_nt x1 + 1))) N))), (fw_M (wl_M M x1 n B) (pt_R M (pt_nt x1 + 1)) n B))] (P := pt_Cal YX6_which (.invokevirtual 163) [pt_r 2 0, pt_i x1] M (some (pt_r 3 (pt_R M (pt_nt x1 + 1)))) (wl_M M x1 n B) ∧ ((pt_R M (pt_nt x1 + 1)) < 7) ∧ pt_Cal YX6_which (.invokestatic 252) [pt_i (pt_F (wl_M M x1 n B) 3 0 (pt_R M (pt_nt x1 + 1)))] (wl_M M x1 n B) (some (pt_r 61 0)) (wl_M M x1 n B) ∧ (¬ (nI 1) = 0) ∧ pt_Cal YX6_which (.invokevirtual 196) [pt_r 5 0, pt_r 3 (pt_R M (pt_nt x1 + 1))] (wl_M M x1 n B) (some (pt_r 13 (pt_R M (pt_nt x1 + 1)))) (fw_M (wl_M M x1 n B) (pt_R M (pt_nt x1 + 1)) n B) ∧ ((pt_R M (pt_nt x1 + 1)) < 7) ∧ pt_Cal YX6_which (.invokestatic 110) [pt_i (pt_F (fw_M (wl_M M x1 n B) (pt_R M (pt_nt x1 + 1)) n B) 3 0 (pt_R M (pt_nt x1 + 1)))] (fw_M (wl_M M x1 n B) (pt_R M (pt_nt x1 + 1)) n B) (some (pt_i (to_F (pt_F (fw_M (wl_M M x1 n B) (pt_R M (pt_nt x1 + 1)) n B) 3 0 (pt_R M (pt_nt x1 + 1)))))) (fw_M (wl_M M x1 n B) (pt_R M (pt_nt x1 + 1)) n B) ∧ pt_Cal YX6_which (.invokestatic 256) [pt_r 13 (pt_R M (pt_nt x1 + 1)), pt_i (to_F (pt_F (fw_M (wl_M M x1 n B) (pt_R M (pt_nt x1 + 1)) n B) 3 0 (pt_R M (pt_nt x1 + 1))))] (fw_M (wl_M M x1 n B) (pt_R M (pt_nt x1 + 1)) n B) (some (pt_i (nI (bt_F (pt_A (fw_M (wl_M M x1 n B) (pt_R M (pt_nt x1 + 1)) n B) 13 (pt_R M (pt_nt x1 + 1))) N)))) (fw_M (wl_M M x1 n B) (pt_R M (pt_nt x1 + 1)) n B) ∧ True) (by with_unfolding_all rfl) ⟨(pt_callV (i := 0) kX6_which_163 mX6_lawfulAt rfl (by decide) rfl (dX6_lawfulAt_y h1)), h2, (pt_callS kX6_which_252 mX6_kindsOf rfl (dX6_kindsOf_3 h3)), h4, (pt_callV (i := 0) kX6_which_196 mX0_codeOf rfl (by decide) rfl (dX0_codeOf_mir h5 h6)), h2, (pt_callS kX6_which_110 mX6_turnsOf rfl (dX6_turnsOf (pt_F (fw_M (wl_M M x1 n B) (pt_R M (pt_nt x1 + 1)) n B) 3 0 (pt_R M (pt_nt x1 + 1))) (fw_M (wl_M M x1 n B) (pt_R M (pt_nt x1 + 1)) n B))), (pt_callS kX6_which_256 mX0_bitsOf rfl (dX0_bitsOf_t13 h2 h7)), trivial⟩ : pt_Go YX6_which _ (50, [(0, pt_r 2 0), (1, pt_i x1), (2, pt_r 3 (pt_R M (pt_nt x1 + 1))), (3, pt_r 61 0), (4, pt_i (nI (bt_F (pt_A (fw_M (wl_M M x1 n B) (pt_R M (pt_nt x1 + 1)) n B) 13 (pt_R M (pt_nt x1 + 1))) N))), (5, pt_i 0)], [], (fw_M (wl_M M x1 n B) (pt_R M (pt_nt x1 + 1)) n B))).tr (pt_pick [3, 4, 5] (by with_unfolding_all rfl))
set_option maxRecDepth 100000 in
theorem gX6_which3_0_4 (x1 : Int32) (n : Nat) (B : Nat → Nat → Nat → Bool) (N : Nat) (M : pt_M) (h1 : lN_P M x1 n B) :
    pt_Go YX6_which (0, [(0, pt_r 2 0), (1, pt_i x1)], [], M)
      (11, [(0, pt_r 2 0), (1, pt_i x1), (2, pt_r 0 0)], [pt_i (-1)], (wl_M M x1 n B)) :=
  pt_run_ok tX6_which_ok 7 [.inr (2, some (pt_r 0 0), (wl_M M x1 n B))] (P := pt_Cal YX6_which (.invokevirtual 163) [pt_r 2 0, pt_i x1] M (some (pt_r 0 0)) (wl_M M x1 n B) ∧ True) (by with_unfolding_all rfl) ⟨(pt_callV (i := 0) kX6_which_163 mX6_lawfulAt rfl (by decide) rfl (dX6_lawfulAt_n h1)), trivial⟩
set_option maxRecDepth 100000 in
theorem gX6_which3_0_5 (x1 : Int32) (n : Nat) (B : Nat → Nat → Nat → Bool) (N : Nat) (M : pt_M) (h1 : tN_P M x1) :
    pt_Go YX6_which (0, [(0, pt_r 2 0), (1, pt_i x1)], [], M)
      (11, [(0, pt_r 2 0), (1, pt_i x1), (2, pt_r 0 0)], [pt_i (-1)], M) :=
  pt_run_ok tX6_which_ok 7 [.inr (2, some (pt_r 0 0), M)] (P := pt_Cal YX6_which (.invokevirtual 163) [pt_r 2 0, pt_i x1] M (some (pt_r 0 0)) M ∧ True) (by with_unfolding_all rfl) ⟨(pt_callV (i := 0) kX6_which_163 mX6_lawfulAt rfl (by decide) rfl (dX6_lawfulAt_0 h1)), trivial⟩
set_option maxRecDepth 100000 in
theorem gX6_which3_50_1 (l4 : Int32) (l5 : Int32) (n : Nat) (B : Nat → Nat → Nat → Bool) (N : Nat) (M : pt_M) (h1 : ¬ (nI 1) ≤ l5) (h2 : pt_in l5 1) (h3 : (pt_kk 61 (pt_nt l5)) = l4) :
    pt_Go YX6_which (50, [(3, pt_r 61 0), (4, pt_i l4), (5, pt_i l5)], [], M)
      (68, [(3, pt_r 61 0), (4, pt_i l4), (5, pt_i l5)], [pt_i l5], M) :=
  pt_run_ok tX6_which_ok 10 [.inl false, .inl false] (P := (¬ (nI 1) ≤ l5) ∧ (pt_in l5 1) ∧ ((pt_kk 61 (pt_nt l5)) = l4) ∧ True) (by with_unfolding_all rfl) ⟨h1, h2, h3, trivial⟩
set_option maxRecDepth 100000 in
theorem gX6_which3_50_2 (l4 : Int32) (l5 : Int32) (n : Nat) (B : Nat → Nat → Nat → Bool) (N : Nat) (M : pt_M) (h1 : ¬ (nI 1) ≤ l5) (h2 : pt_in l5 1) (h3 : ¬ (pt_kk 61 (pt_nt l5)) = l4) :
    pt_Go YX6_which (50, [(3, pt_r 61 0), (4, pt_i l4), (5, pt_i l5)], [], M)
      (50, [(3, pt_r 61 0), (4, pt_i l4), (5, pt_i (l5 + 1))], [], M) :=
  pt_run_ok tX6_which_ok 11 [.inl false, .inl true] (P := (¬ (nI 1) ≤ l5) ∧ (pt_in l5 1) ∧ (¬ (pt_kk 61 (pt_nt l5)) = l4) ∧ True) (by with_unfolding_all rfl) ⟨h1, h2, h3, trivial⟩
set_option maxRecDepth 100000 in
theorem gX6_which3_50_3 (l4 : Int32) (l5 : Int32) (n : Nat) (B : Nat → Nat → Nat → Bool) (N : Nat) (M : pt_M) (h1 : (nI 1) ≤ l5) :
    pt_Go YX6_which (50, [(3, pt_r 61 0), (4, pt_i l4), (5, pt_i l5)], [], M)
      (76, [(3, pt_r 61 0), (4, pt_i l4), (5, pt_i l5)], [pt_i (-1)], M) :=
  pt_run_ok tX6_which_ok 5 [.inl true] (P := ((nI 1) ≤ l5) ∧ True) (by with_unfolding_all rfl) ⟨h1, trivial⟩
theorem dX6_which3_p1 (x1 : Int32) (n : Nat) (B : Nat → Nat → Nat → Bool) (N : Nat) (M : pt_M) (h1 : lA_P M x1 n B) (h2 : (pt_R M (pt_nt x1 + 1)) < 7) (h3 : (pt_F (wl_M M x1 n B) 3 0 (pt_R M (pt_nt x1 + 1))) = 3) (h4 : (nI 1) = 0) : pt_Does yX6_which YX6_which [pt_r 2 0, pt_i x1] M (some (pt_i (-1))) (wl_M M x1 n B) :=
  rX6_which_26 (Nat.le_of_ble_eq_true rfl) rfl (gX6_which3_0_1 x1 n B N M h1 h2 h3 h4)
theorem dX6_which3_p4 (x1 : Int32) (n : Nat) (B : Nat → Nat → Nat → Bool) (N : Nat) (M : pt_M) (h1 : lN_P M x1 n B) : pt_Does yX6_which YX6_which [pt_r 2 0, pt_i x1] M (some (pt_i (-1))) (wl_M M x1 n B) :=
  rX6_which_11 (Nat.le_of_ble_eq_true rfl) rfl (gX6_which3_0_4 x1 n B N M h1)
theorem dX6_which3_p5 (x1 : Int32) (n : Nat) (B : Nat → Nat → Nat → Bool) (N : Nat) (M : pt_M) (h1 : tN_P M x1) : pt_Does yX6_which YX6_which [pt_r 2 0, pt_i x1] M (some (pt_i (-1))) M :=
  rX6_which_11 (Nat.le_of_ble_eq_true rfl) rfl (gX6_which3_0_5 x1 n B N M h1)
theorem dX6_which_3_12 {x1 : Int32} {B : Nat → Nat → Nat → Bool} {M : pt_M} (h : lA_P M x1 3 B) (hf : fr_H (wl_M M x1 3 B) (pt_R M (pt_nt x1 + 1)) 3 B) (hc : ¬ 0 < cq_F (pt_A (fw_M (wl_M M x1 3 B) (pt_R M (pt_nt x1 + 1)) 3 B) 12 (pt_R M (pt_nt x1 + 1))) (pt_A (fw_M (wl_M M x1 3 B) (pt_R M (pt_nt x1 + 1)) 3 B) 13 (pt_R M (pt_nt x1 + 1))) (rk_0 3 3)) :
    pt_Does yX6_which YX6_which [pt_r 2 0, pt_i x1] M (some (pt_i (wh_I 3 1 (bt_F (pt_A (fw_M (wl_M M x1 3 B) (pt_R M (pt_nt x1 + 1)) 3 B) 12 (pt_R M (pt_nt x1 + 1))) 1)))) (fw_M (wl_M M x1 3 B) (pt_R M (pt_nt x1 + 1)) 3 B) := by
  have hto : to_F 3 = nI 1 := by decide
  have hF : pt_F (fw_M (wl_M M x1 3 B) (pt_R M (pt_nt x1 + 1)) 3 B) 3 0 (pt_R M (pt_nt x1 + 1)) = 3 := by
    rw [(fw_ke (by decide)).1 3 0 _ (by decide)]
    exact h.2.1.2.2.1
  have g0 := gX6_which3_0_2 x1 3 B 1 M h h.2.1.1 h.2.1.2.2.1 (by decide) hf hc (by rw [hF]; exact ⟨hto, by decide⟩)
  have hX2 : (fw_M (wl_M M x1 3 B) (pt_R M (pt_nt x1 + 1)) 3 B).2.2.2.2 = M.2.2.2.2 := fw_x5 (by decide)
  generalize fw_M (wl_M M x1 3 B) (pt_R M (pt_nt x1 + 1)) 3 B = M2 at *
  generalize pt_R M (pt_nt x1 + 1) = t at *
  have hbt := bt_lt (pt_A M2 12 t) 1
  generalize bt_F (pt_A M2 12 t) 1 = c at *
  have K := pt_nest (Y := YX6_which) (σ := (0, [(0, pt_r 2 0), (1, pt_i x1)], [], M)) (τ := (76, [], [pt_i (-1)], M2)) (R := fun k => (68, [], [pt_i (nI k)], M2)) (n := 1) (i := 0)
    (S := fun k => (50, [(3, pt_r 61 0), (4, pt_i (nI c)), (5, pt_i (nI k))], [], M2)) (f := fun k => if kv_F 3 k = c then some k else none)
    (Nat.zero_le _) g0 ((gX6_which3_50_3 (nI c) (nI 1) 3 B 0 M2 (Int32.le_refl _)).tr pt_dropA) fun k _ hk => by
      have hkk : pt_kk 61 (pt_nt (nI k)) = nI (kv_F 3 k) := by rw [pt_nt_nI (by omega)]; exact kv_3 hk
      have hkl : kv_F 3 k < 2 ^ 20 := kv_lt 3 k
      by_cases c1 : kv_F 3 k = c
      · refine ⟨fun v z => ?_, fun z => by simp [c1] at z⟩
        simp only [c1, if_true, Option.some.injEq] at z
        subst z
        exact (gX6_which3_50_1 (nI c) (nI k) 3 B 0 M2 (nI_ge hk (by decide)) (pt_in_nI hk (by decide)) (by rw [hkk, c1])).tr pt_dropA
      · refine ⟨fun v z => by simp [c1] at z, fun _ => ?_⟩
        exact (gX6_which3_50_2 (nI c) (nI k) 3 B 0 M2 (nI_ge hk (by decide)) (pt_in_nI hk (by decide)) (by rw [hkk]; exact fun z => c1 ((nI_eq (by omega) (by omega)).mp z))).to (by rw [nI_1])
  unfold wh_I wh_F
  cases hf : fs_F (1 - 0) 0 (fun k => if kv_F 3 k = c then some k else none) with
  | none => exact rX6_which_76 (Nat.le_of_ble_eq_true rfl) hX2 (K.2 hf)
  | some v => exact rX6_which_68 (Nat.le_of_ble_eq_true rfl) hX2 (K.1 v hf)
theorem dX6_which_3_13 {x1 : Int32} {B : Nat → Nat → Nat → Bool} {M : pt_M} (h : lA_P M x1 3 B) (hf : fr_H (wl_M M x1 3 B) (pt_R M (pt_nt x1 + 1)) 3 B) (hc : 0 < cq_F (pt_A (fw_M (wl_M M x1 3 B) (pt_R M (pt_nt x1 + 1)) 3 B) 12 (pt_R M (pt_nt x1 + 1))) (pt_A (fw_M (wl_M M x1 3 B) (pt_R M (pt_nt x1 + 1)) 3 B) 13 (pt_R M (pt_nt x1 + 1))) (rk_0 3 3)) :
    pt_Does yX6_which YX6_which [pt_r 2 0, pt_i x1] M (some (pt_i (wh_I 3 1 (bt_F (pt_A (fw_M (wl_M M x1 3 B) (pt_R M (pt_nt x1 + 1)) 3 B) 13 (pt_R M (pt_nt x1 + 1))) 1)))) (fw_M (wl_M M x1 3 B) (pt_R M (pt_nt x1 + 1)) 3 B) := by
  have hto : to_F 3 = nI 1 := by decide
  have hF : pt_F (fw_M (wl_M M x1 3 B) (pt_R M (pt_nt x1 + 1)) 3 B) 3 0 (pt_R M (pt_nt x1 + 1)) = 3 := by
    rw [(fw_ke (by decide)).1 3 0 _ (by decide)]
    exact h.2.1.2.2.1
  have g0 := gX6_which3_0_3 x1 3 B 1 M h h.2.1.1 h.2.1.2.2.1 (by decide) hf hc (by rw [hF]; exact ⟨hto, by decide⟩)
  have hX2 : (fw_M (wl_M M x1 3 B) (pt_R M (pt_nt x1 + 1)) 3 B).2.2.2.2 = M.2.2.2.2 := fw_x5 (by decide)
  generalize fw_M (wl_M M x1 3 B) (pt_R M (pt_nt x1 + 1)) 3 B = M2 at *
  generalize pt_R M (pt_nt x1 + 1) = t at *
  have hbt := bt_lt (pt_A M2 13 t) 1
  generalize bt_F (pt_A M2 13 t) 1 = c at *
  have K := pt_nest (Y := YX6_which) (σ := (0, [(0, pt_r 2 0), (1, pt_i x1)], [], M)) (τ := (76, [], [pt_i (-1)], M2)) (R := fun k => (68, [], [pt_i (nI k)], M2)) (n := 1) (i := 0)
    (S := fun k => (50, [(3, pt_r 61 0), (4, pt_i (nI c)), (5, pt_i (nI k))], [], M2)) (f := fun k => if kv_F 3 k = c then some k else none)
    (Nat.zero_le _) g0 ((gX6_which3_50_3 (nI c) (nI 1) 3 B 0 M2 (Int32.le_refl _)).tr pt_dropA) fun k _ hk => by
      have hkk : pt_kk 61 (pt_nt (nI k)) = nI (kv_F 3 k) := by rw [pt_nt_nI (by omega)]; exact kv_3 hk
      have hkl : kv_F 3 k < 2 ^ 20 := kv_lt 3 k
      by_cases c1 : kv_F 3 k = c
      · refine ⟨fun v z => ?_, fun z => by simp [c1] at z⟩
        simp only [c1, if_true, Option.some.injEq] at z
        subst z
        exact (gX6_which3_50_1 (nI c) (nI k) 3 B 0 M2 (nI_ge hk (by decide)) (pt_in_nI hk (by decide)) (by rw [hkk, c1])).tr pt_dropA
      · refine ⟨fun v z => by simp [c1] at z, fun _ => ?_⟩
        exact (gX6_which3_50_2 (nI c) (nI k) 3 B 0 M2 (nI_ge hk (by decide)) (pt_in_nI hk (by decide)) (by rw [hkk]; exact fun z => c1 ((nI_eq (by omega) (by omega)).mp z))).to (by rw [nI_1])
  unfold wh_I wh_F
  cases hf : fs_F (1 - 0) 0 (fun k => if kv_F 3 k = c then some k else none) with
  | none => exact rX6_which_76 (Nat.le_of_ble_eq_true rfl) hX2 (K.2 hf)
  | some v => exact rX6_which_68 (Nat.le_of_ble_eq_true rfl) hX2 (K.1 v hf)
set_option maxRecDepth 100000 in
theorem gX6_which4_0_1 (x1 : Int32) (n : Nat) (B : Nat → Nat → Nat → Bool) (N : Nat) (M : pt_M) (h1 : lA_P M x1 n B) (h2 : (pt_R M (pt_nt x1 + 1)) < 7) (h3 : (pt_F (wl_M M x1 n B) 3 0 (pt_R M (pt_nt x1 + 1))) = 4) (h4 : (nI 2) = 0) :
    pt_Go YX6_which (0, [(0, pt_r 2 0), (1, pt_i x1)], [], M)
      (26, [(0, pt_r 2 0), (1, pt_i x1), (2, pt_r 3 (pt_R M (pt_nt x1 + 1))), (3, pt_r 62 0)], [pt_i (-1)], (wl_M M x1 n B)) :=
  pt_run_ok tX6_which_ok 14 [.inr (2, some (pt_r 3 (pt_R M (pt_nt x1 + 1))), (wl_M M x1 n B)), .inr (1, some (pt_r 62 0), (wl_M M x1 n B)), .inl false] (P := pt_Cal YX6_which (.invokevirtual 163) [pt_r 2 0, pt_i x1] M (some (pt_r 3 (pt_R M (pt_nt x1 + 1)))) (wl_M M x1 n B) ∧ ((pt_R M (pt_nt x1 + 1)) < 7) ∧ pt_Cal YX6_which (.invokestatic 252) [pt_i (pt_F (wl_M M x1 n B) 3 0 (pt_R M (pt_nt x1 + 1)))] (wl_M M x1 n B) (some (pt_r 62 0)) (wl_M M x1 n B) ∧ ((nI 2) = 0) ∧ True) (by with_unfolding_all rfl) ⟨(pt_callV (i := 0) kX6_which_163 mX6_lawfulAt rfl (by decide) rfl (dX6_lawfulAt_y h1)), h2, (pt_callS kX6_which_252 mX6_kindsOf rfl (dX6_kindsOf_4 h3)), h4, trivial⟩
set_option maxRecDepth 100000 in
theorem gX6_which4_0_2 (x1 : Int32) (n : Nat) (B : Nat → Nat → Nat → Bool) (N : Nat) (M : pt_M) (h1 : lA_P M x1 n B) (h2 : (pt_R M (pt_nt x1 + 1)) < 7) (h3 : (pt_F (wl_M M x1 n B) 3 0 (pt_R M (pt_nt x1 + 1))) = 4) (h4 : ¬ (nI 2) = 0) (h5 : fr_H (wl_M M x1 n B) (pt_R M (pt_nt x1 + 1)) n B) (h6 : ¬ 0 < cq_F (pt_A (fw_M (wl_M M x1 n B) (pt_R M (pt_nt x1 + 1)) n B) 12 (pt_R M (pt_nt x1 + 1))) (pt_A (fw_M (wl_M M x1 n B) (pt_R M (pt_nt x1 + 1)) n B) 13 (pt_R M (pt_nt x1 + 1))) (rk_0 n n)) (h7 : bo_P (to_F (pt_F (fw_M (wl_M M x1 n B) (pt_R M (pt_nt x1 + 1)) n B) 3 0 (pt_R M (pt_nt x1 + 1)))) N) :
    pt_Go YX6_which (0, [(0, pt_r 2 0), (1, pt_i x1)], [], M)
      (50, [(3, pt_r 62 0), (4, pt_i (nI (bt_F (pt_A (fw_M (wl_M M x1 n B) (pt_R M (pt_nt x1 + 1)) n B) 12 (pt_R M (pt_nt x1 + 1))) N))), (5, pt_i 0)], [], (fw_M (wl_M M x1 n B) (pt_R M (pt_nt x1 + 1)) n B)) :=
  (pt_run_ok tX6_which_ok 24 [.inr (2, some (pt_r 3 (pt_R M (pt_nt x1 + 1))), (wl_M M x1 n B)), .inr (1, some (pt_r 62 0), (wl_M M x1 n B)), .inl true, .inr (2, some (pt_r 12 (pt_R M (pt_nt x1 + 1))), (fw_M (wl_M M x1 n B) (pt_R M (pt_nt x1 + 1)) n B)), .inr (1, some (pt_i (to_F (pt_F (fw_M (wl_M M x1 n B) (pt_R M (pt_nt x1 + 1)) n B) 3 0 (pt_R M (pt_nt x1 + 1))))), (fw_M (wl_M M x1 n B) (pt_R M (pt_nt x1 + 1)) n B)), .inr (2, some (pt_i (nI (bt_F (pt_A (fw_M (wl_M M x1 n B) (pt_R M (pt_nt x1 + 1)) n B) 12 (pt_R M (pt_nt x1 + 1))) N))), (fw_M (wl_M M x1 n B) (pt_R M (pt_nt x1 + 1)) n B))] (P := pt_Cal YX6_which (.invokevirtual 163) [pt_r 2 0, pt_i x1] M (some (pt_r 3 (pt_R M (pt_nt x1 + 1)))) (wl_M M x1 n B) ∧ ((pt_R M (pt_nt x1 + 1)) < 7) ∧ pt_Cal YX6_which (.invokestatic 252) [pt_i (pt_F (wl_M M x1 n B) 3 0 (pt_R M (pt_nt x1 + 1)))] (wl_M M x1 n B) (some (pt_r 62 0)) (wl_M M x1 n B) ∧ (¬ (nI 2) = 0) ∧ pt_Cal YX6_which (.invokevirtual 196) [pt_r 5 0, pt_r 3 (pt_R M (pt_nt x1 + 1))] (wl_M M x1 n B) (some (pt_r 12 (pt_R M (pt_nt x1 + 1)))) (fw_M (wl_M M x1 n B) (pt_R M (pt_nt x1 + 1)) n B) ∧ ((pt_R M (pt_nt x1 + 1)) < 7) ∧ pt_Cal YX6_which (.invokestatic 110) [pt_i (pt_F (fw_M (wl_M M x1 n B) (pt_R M (pt_nt x1 + 1)) n B) 3 0 (pt_R M (pt_nt x1 + 1)))] (fw_M (wl_M M x1 n B) (pt_R M (pt_nt x1 + 1)) n B) (some (pt_i (to_F (pt_F (fw_M (wl_M M x1 n B) (pt_R M (pt_nt x1 + 1)) n B) 3 0 (pt_R M (pt_nt x1 + 1)))))) (fw_M (wl_M M x1 n B) (pt_R M (pt_nt x1 + 1)) n B) ∧ pt_Cal YX6_which (.invokestatic 256) [pt_r 12 (pt_R M (pt_nt x1 + 1)), pt_i (to_F (pt_F (fw_M (wl_M M x1 n B) (pt_R M (pt_nt x1 + 1)) n B) 3 0 (pt_R M (pt_nt x1 + 1))))] (fw_M (wl_M M x1 n B) (pt_R M (pt_nt x1 + 1)) n B) (some (pt_i (nI (bt_F (pt_A (fw_M (wl_M M x1 n B) (pt_R M (pt_nt x1 + 1)) n B) 12 (pt_R M (pt_nt x1 + 1))) N)))) (fw_M (wl_M M x1 n B) (pt_R M (pt_nt x1 + 1)) n B) ∧ True) (by with_unfolding_all rfl) ⟨(pt_callV (i := 0) kX6_which_163 mX6_lawfulAt rfl (by decide) rfl (dX6_lawfulAt_y h1)), h2, (pt_callS kX6_which_252 mX6_kindsOf rfl (dX6_kindsOf_4 h3)), h4, (pt_callV (i := 0) kX6_which_196 mX0_codeOf rfl (by decide) rfl (dX0_codeOf_own h5 h6)), h2, (pt_callS kX6_which_110 mX6_turnsOf rfl (dX6_turnsOf (pt_F (fw_M (wl_M M x1 n B) (pt_R M (pt_nt x1 + 1)) n B) 3 0 (pt_R M (pt_nt x1 + 1))) (fw_M (wl_M M x1 n B) (pt_R M (pt_nt x1 + 1)) n B))), (pt_callS kX6_which_256 mX0_bitsOf rfl (dX0_bitsOf_t12 h2 h7)), trivial⟩ : pt_Go YX6_which _ (50, [(0, pt_r 2 0), (1, pt_i x1), (2, pt_r 3 (pt_R M (pt_nt x1 + 1))), (3, pt_r 62 0), (4, pt_i (nI (bt_F (pt_A (fw_M (wl_M M x1 n B) (pt_R M (pt_nt x1 + 1)) n B) 12 (pt_R M (pt_nt x1 + 1))) N))), (5, pt_i 0)], [], (fw_M (wl_M M x1 n B) (pt_R M (pt_nt x1 + 1)) n B))).tr (pt_pick [3, 4, 5] (by with_unfolding_all rfl))
set_option maxRecDepth 100000 in
theorem gX6_which4_0_3 (x1 : Int32) (n : Nat) (B : Nat → Nat → Nat → Bool) (N : Nat) (M : pt_M) (h1 : lA_P M x1 n B) (h2 : (pt_R M (pt_nt x1 + 1)) < 7) (h3 : (pt_F (wl_M M x1 n B) 3 0 (pt_R M (pt_nt x1 + 1))) = 4) (h4 : ¬ (nI 2) = 0) (h5 : fr_H (wl_M M x1 n B) (pt_R M (pt_nt x1 + 1)) n B) (h6 : 0 < cq_F (pt_A (fw_M (wl_M M x1 n B) (pt_R M (pt_nt x1 + 1)) n B) 12 (pt_R M (pt_nt x1 + 1))) (pt_A (fw_M (wl_M M x1 n B) (pt_R M (pt_nt x1 + 1)) n B) 13 (pt_R M (pt_nt x1 + 1))) (rk_0 n n)) (h7 : bo_P (to_F (pt_F (fw_M (wl_M M x1 n B) (pt_R M (pt_nt x1 + 1)) n B) 3 0 (pt_R M (pt_nt x1 + 1)))) N) :
    pt_Go YX6_which (0, [(0, pt_r 2 0), (1, pt_i x1)], [], M)
      (50, [(3, pt_r 62 0), (4, pt_i (nI (bt_F (pt_A (fw_M (wl_M M x1 n B) (pt_R M (pt_nt x1 + 1)) n B) 13 (pt_R M (pt_nt x1 + 1))) N))), (5, pt_i 0)], [], (fw_M (wl_M M x1 n B) (pt_R M (pt_nt x1 + 1)) n B)) :=
  (pt_run_ok tX6_which_ok 24 [.inr (2, some (pt_r 3 (pt_R M (pt_nt x1 + 1))), (wl_M M x1 n B)), .inr (1, some (pt_r 62 0), (wl_M M x1 n B)), .inl true, .inr (2, some (pt_r 13 (pt_R M (pt_nt x1 + 1))), (fw_M (wl_M M x1 n B) (pt_R M (pt_nt x1 + 1)) n B)), .inr (1, some (pt_i (to_F (pt_F (fw_M (wl_M M x1 n B) (pt_R M (pt_nt x1 + 1)) n B) 3 0 (pt_R M (pt_nt x1 + 1))))), (fw_M (wl_M M x1 n B) (pt_R M (pt_nt x1 + 1)) n B)), .inr (2, some (pt_i (nI (bt_F (pt_A (fw_M (wl_M M x1 n B) (pt_R M (pt_nt x1 + 1)) n B) 13 (pt_R M (pt_nt x1 + 1))) N))), (fw_M (wl_M M x1 n B) (pt_R M (pt_nt x1 + 1)) n B))] (P := pt_Cal YX6_which (.invokevirtual 163) [pt_r 2 0, pt_i x1] M (some (pt_r 3 (pt_R M (pt_nt x1 + 1)))) (wl_M M x1 n B) ∧ ((pt_R M (pt_nt x1 + 1)) < 7) ∧ pt_Cal YX6_which (.invokestatic 252) [pt_i (pt_F (wl_M M x1 n B) 3 0 (pt_R M (pt_nt x1 + 1)))] (wl_M M x1 n B) (some (pt_r 62 0)) (wl_M M x1 n B) ∧ (¬ (nI 2) = 0) ∧ pt_Cal YX6_which (.invokevirtual 196) [pt_r 5 0, pt_r 3 (pt_R M (pt_nt x1 + 1))] (wl_M M x1 n B) (some (pt_r 13 (pt_R M (pt_nt x1 + 1)))) (fw_M (wl_M M x1 n B) (pt_R M (pt_nt x1 + 1)) n B) ∧ ((pt_R M (pt_nt x1 + 1)) < 7) ∧ pt_Cal YX6_which (.invokestatic 110) [pt_i (pt_F (fw_M (wl_M M x1 n B) (pt_R M (pt_nt x1 + 1)) n B) 3 0 (pt_R M (pt_nt x1 + 1)))] (fw_M (wl_M M x1 n B) (pt_R M (pt_nt x1 + 1)) n B) (some (pt_i (to_F (pt_F (fw_M (wl_M M x1 n B) (pt_R M (pt_nt x1 + 1)) n B) 3 0 (pt_R M (pt_nt x1 + 1)))))) (fw_M (wl_M M x1 n B) (pt_R M (pt_nt x1 + 1)) n B) ∧ pt_Cal YX6_which (.invokestatic 256) [pt_r 13 (pt_R M (pt_nt x1 + 1)), pt_i (to_F (pt_F (fw_M (wl_M M x1 n B) (pt_R M (pt_nt x1 + 1)) n B) 3 0 (pt_R M (pt_nt x1 + 1))))] (fw_M (wl_M M x1 n B) (pt_R M (pt_nt x1 + 1)) n B) (some (pt_i (nI (bt_F (pt_A (fw_M (wl_M M x1 n B) (pt_R M (pt_nt x1 + 1)) n B) 13 (pt_R M (pt_nt x1 + 1))) N)))) (fw_M (wl_M M x1 n B) (pt_R M (pt_nt x1 + 1)) n B) ∧ True) (by with_unfolding_all rfl) ⟨(pt_callV (i := 0) kX6_which_163 mX6_lawfulAt rfl (by decide) rfl (dX6_lawfulAt_y h1)), h2, (pt_callS kX6_which_252 mX6_kindsOf rfl (dX6_kindsOf_4 h3)), h4, (pt_callV (i := 0) kX6_which_196 mX0_codeOf rfl (by decide) rfl (dX0_codeOf_mir h5 h6)), h2, (pt_callS kX6_which_110 mX6_turnsOf rfl (dX6_turnsOf (pt_F (fw_M (wl_M M x1 n B) (pt_R M (pt_nt x1 + 1)) n B) 3 0 (pt_R M (pt_nt x1 + 1))) (fw_M (wl_M M x1 n B) (pt_R M (pt_nt x1 + 1)) n B))), (pt_callS kX6_which_256 mX0_bitsOf rfl (dX0_bitsOf_t13 h2 h7)), trivial⟩ : pt_Go YX6_which _ (50, [(0, pt_r 2 0), (1, pt_i x1), (2, pt_r 3 (pt_R M (pt_nt x1 + 1))), (3, pt_r 62 0), (4, pt_i (nI (bt_F (pt_A (fw_M (wl_M M x1 n B) (pt_R M (pt_nt x1 + 1)) n B) 13 (pt_R M (pt_nt x1 + 1))) N))), (5, pt_i 0)], [], (fw_M (wl_M M x1 n B) (pt_R M (pt_nt x1 + 1)) n B))).tr (pt_pick [3, 4, 5] (by with_unfolding_all rfl))
set_option maxRecDepth 100000 in
theorem gX6_which4_0_4 (x1 : Int32) (n : Nat) (B : Nat → Nat → Nat → Bool) (N : Nat) (M : pt_M) (h1 : lN_P M x1 n B) :
    pt_Go YX6_which (0, [(0, pt_r 2 0), (1, pt_i x1)], [], M)
      (11, [(0, pt_r 2 0), (1, pt_i x1), (2, pt_r 0 0)], [pt_i (-1)], (wl_M M x1 n B)) :=
  pt_run_ok tX6_which_ok 7 [.inr (2, some (pt_r 0 0), (wl_M M x1 n B))] (P := pt_Cal YX6_which (.invokevirtual 163) [pt_r 2 0, pt_i x1] M (some (pt_r 0 0)) (wl_M M x1 n B) ∧ True) (by with_unfolding_all rfl) ⟨(pt_callV (i := 0) kX6_which_163 mX6_lawfulAt rfl (by decide) rfl (dX6_lawfulAt_n h1)), trivial⟩
set_option maxRecDepth 100000 in
theorem gX6_which4_0_5 (x1 : Int32) (n : Nat) (B : Nat → Nat → Nat → Bool) (N : Nat) (M : pt_M) (h1 : tN_P M x1) :
    pt_Go YX6_which (0, [(0, pt_r 2 0), (1, pt_i x1)], [], M)
      (11, [(0, pt_r 2 0), (1, pt_i x1), (2, pt_r 0 0)], [pt_i (-1)], M) :=
  pt_run_ok tX6_which_ok 7 [.inr (2, some (pt_r 0 0), M)] (P := pt_Cal YX6_which (.invokevirtual 163) [pt_r 2 0, pt_i x1] M (some (pt_r 0 0)) M ∧ True) (by with_unfolding_all rfl) ⟨(pt_callV (i := 0) kX6_which_163 mX6_lawfulAt rfl (by decide) rfl (dX6_lawfulAt_0 h1)), trivial⟩
set_option maxRecDepth 100000 in
theorem gX6_which4_50_1 (l4 : Int32) (l5 : Int32) (n : Nat) (B : Nat → Nat → Nat → Bool) (N : Nat) (M : pt_M) (h1 : ¬ (nI 2) ≤ l5) (h2 : pt_in l5 2) (h3 : (pt_kk 62 (pt_nt l5)) = l4) :
    pt_Go YX6_which (50, [(3, pt_r 62 0), (4, pt_i l4), (5, pt_i l5)], [], M)
      (68, [(3, pt_r 62 0), (4, pt_i l4), (5, pt_i l5)], [pt_i l5], M) :=
  pt_run_ok tX6_which_ok 10 [.inl false, .inl false] (P := (¬ (nI 2) ≤ l5) ∧ (pt_in l5 2) ∧ ((pt_kk 62 (pt_nt l5)) = l4) ∧ True) (by with_unfolding_all rfl) ⟨h1, h2, h3, trivial⟩
set_option maxRecDepth 100000 in
theorem gX6_which4_50_2 (l4 : Int32) (l5 : Int32) (n : Nat) (B : Nat → Nat → Nat → Bool) (N : Nat) (M : pt_M) (h1 : ¬ (nI 2) ≤ l5) (h2 : pt_in l5 2) (h3 : ¬ (pt_kk 62 (pt_nt l5)) = l4) :
    pt_Go YX6_which (50, [(3, pt_r 62 0), (4, pt_i l4), (5, pt_i l5)], [], M)
      (50, [(3, pt_r 62 0), (4, pt_i l4), (5, pt_i (l5 + 1))], [], M) :=
  pt_run_ok tX6_which_ok 11 [.inl false, .inl true] (P := (¬ (nI 2) ≤ l5) ∧ (pt_in l5 2) ∧ (¬ (pt_kk 62 (pt_nt l5)) = l4) ∧ True) (by with_unfolding_all rfl) ⟨h1, h2, h3, trivial⟩
set_option maxRecDepth 100000 in
theorem gX6_which4_50_3 (l4 : Int32) (l5 : Int32) (n : Nat) (B : Nat → Nat → Nat → Bool) (N : Nat) (M : pt_M) (h1 : (nI 2) ≤ l5) :
    pt_Go YX6_which (50, [(3, pt_r 62 0), (4, pt_i l4), (5, pt_i l5)], [], M)
      (76, [(3, pt_r 62 0), (4, pt_i l4), (5, pt_i l5)], [pt_i (-1)], M) :=
  pt_run_ok tX6_which_ok 5 [.inl true] (P := ((nI 2) ≤ l5) ∧ True) (by with_unfolding_all rfl) ⟨h1, trivial⟩
theorem dX6_which4_p1 (x1 : Int32) (n : Nat) (B : Nat → Nat → Nat → Bool) (N : Nat) (M : pt_M) (h1 : lA_P M x1 n B) (h2 : (pt_R M (pt_nt x1 + 1)) < 7) (h3 : (pt_F (wl_M M x1 n B) 3 0 (pt_R M (pt_nt x1 + 1))) = 4) (h4 : (nI 2) = 0) : pt_Does yX6_which YX6_which [pt_r 2 0, pt_i x1] M (some (pt_i (-1))) (wl_M M x1 n B) :=
  rX6_which_26 (Nat.le_of_ble_eq_true rfl) rfl (gX6_which4_0_1 x1 n B N M h1 h2 h3 h4)
theorem dX6_which4_p4 (x1 : Int32) (n : Nat) (B : Nat → Nat → Nat → Bool) (N : Nat) (M : pt_M) (h1 : lN_P M x1 n B) : pt_Does yX6_which YX6_which [pt_r 2 0, pt_i x1] M (some (pt_i (-1))) (wl_M M x1 n B) :=
  rX6_which_11 (Nat.le_of_ble_eq_true rfl) rfl (gX6_which4_0_4 x1 n B N M h1)
theorem dX6_which4_p5 (x1 : Int32) (n : Nat) (B : Nat → Nat → Nat → Bool) (N : Nat) (M : pt_M) (h1 : tN_P M x1) : pt_Does yX6_which YX6_which [pt_r 2 0, pt_i x1] M (some (pt_i (-1))) M :=
  rX6_which_11 (Nat.le_of_ble_eq_true rfl) rfl (gX6_which4_0_5 x1 n B N M h1)
theorem dX6_which_4_12 {x1 : Int32} {B : Nat → Nat → Nat → Bool} {M : pt_M} (h : lA_P M x1 4 B) (hf : fr_H (wl_M M x1 4 B) (pt_R M (pt_nt x1 + 1)) 4 B) (hc : ¬ 0 < cq_F (pt_A (fw_M (wl_M M x1 4 B) (pt_R M (pt_nt x1 + 1)) 4 B) 12 (pt_R M (pt_nt x1 + 1))) (pt_A (fw_M (wl_M M x1 4 B) (pt_R M (pt_nt x1 + 1)) 4 B) 13 (pt_R M (pt_nt x1 + 1))) (rk_0 4 4)) :
    pt_Does yX6_which YX6_which [pt_r 2 0, pt_i x1] M (some (pt_i (wh_I 4 2 (bt_F (pt_A (fw_M (wl_M M x1 4 B) (pt_R M (pt_nt x1 + 1)) 4 B) 12 (pt_R M (pt_nt x1 + 1))) 4)))) (fw_M (wl_M M x1 4 B) (pt_R M (pt_nt x1 + 1)) 4 B) := by
  have hto : to_F 4 = nI 4 := by decide
  have hF : pt_F (fw_M (wl_M M x1 4 B) (pt_R M (pt_nt x1 + 1)) 4 B) 3 0 (pt_R M (pt_nt x1 + 1)) = 4 := by
    rw [(fw_ke (by decide)).1 3 0 _ (by decide)]
    exact h.2.1.2.2.1
  have g0 := gX6_which4_0_2 x1 4 B 4 M h h.2.1.1 h.2.1.2.2.1 (by decide) hf hc (by rw [hF]; exact ⟨hto, by decide⟩)
  have hX2 : (fw_M (wl_M M x1 4 B) (pt_R M (pt_nt x1 + 1)) 4 B).2.2.2.2 = M.2.2.2.2 := fw_x5 (by decide)
  generalize fw_M (wl_M M x1 4 B) (pt_R M (pt_nt x1 + 1)) 4 B = M2 at *
  generalize pt_R M (pt_nt x1 + 1) = t at *
  have hbt := bt_lt (pt_A M2 12 t) 4
  generalize bt_F (pt_A M2 12 t) 4 = c at *
  have K := pt_nest (Y := YX6_which) (σ := (0, [(0, pt_r 2 0), (1, pt_i x1)], [], M)) (τ := (76, [], [pt_i (-1)], M2)) (R := fun k => (68, [], [pt_i (nI k)], M2)) (n := 2) (i := 0)
    (S := fun k => (50, [(3, pt_r 62 0), (4, pt_i (nI c)), (5, pt_i (nI k))], [], M2)) (f := fun k => if kv_F 4 k = c then some k else none)
    (Nat.zero_le _) g0 ((gX6_which4_50_3 (nI c) (nI 2) 4 B 0 M2 (Int32.le_refl _)).tr pt_dropA) fun k _ hk => by
      have hkk : pt_kk 62 (pt_nt (nI k)) = nI (kv_F 4 k) := by rw [pt_nt_nI (by omega)]; exact kv_4 hk
      have hkl : kv_F 4 k < 2 ^ 20 := kv_lt 4 k
      by_cases c1 : kv_F 4 k = c
      · refine ⟨fun v z => ?_, fun z => by simp [c1] at z⟩
        simp only [c1, if_true, Option.some.injEq] at z
        subst z
        exact (gX6_which4_50_1 (nI c) (nI k) 4 B 0 M2 (nI_ge hk (by decide)) (pt_in_nI hk (by decide)) (by rw [hkk, c1])).tr pt_dropA
      · refine ⟨fun v z => by simp [c1] at z, fun _ => ?_⟩
        exact (gX6_which4_50_2 (nI c) (nI k) 4 B 0 M2 (nI_ge hk (by decide)) (pt_in_nI hk (by decide)) (by rw [hkk]; exact fun z => c1 ((nI_eq (by omega) (by omega)).mp z))).to (by rw [nI_1])
  unfold wh_I wh_F
  cases hf : fs_F (2 - 0) 0 (fun k => if kv_F 4 k = c then some k else none) with
  | none => exact rX6_which_76 (Nat.le_of_ble_eq_true rfl) hX2 (K.2 hf)
  | some v => exact rX6_which_68 (Nat.le_of_ble_eq_true rfl) hX2 (K.1 v hf)
theorem dX6_which_4_13 {x1 : Int32} {B : Nat → Nat → Nat → Bool} {M : pt_M} (h : lA_P M x1 4 B) (hf : fr_H (wl_M M x1 4 B) (pt_R M (pt_nt x1 + 1)) 4 B) (hc : 0 < cq_F (pt_A (fw_M (wl_M M x1 4 B) (pt_R M (pt_nt x1 + 1)) 4 B) 12 (pt_R M (pt_nt x1 + 1))) (pt_A (fw_M (wl_M M x1 4 B) (pt_R M (pt_nt x1 + 1)) 4 B) 13 (pt_R M (pt_nt x1 + 1))) (rk_0 4 4)) :
    pt_Does yX6_which YX6_which [pt_r 2 0, pt_i x1] M (some (pt_i (wh_I 4 2 (bt_F (pt_A (fw_M (wl_M M x1 4 B) (pt_R M (pt_nt x1 + 1)) 4 B) 13 (pt_R M (pt_nt x1 + 1))) 4)))) (fw_M (wl_M M x1 4 B) (pt_R M (pt_nt x1 + 1)) 4 B) := by
  have hto : to_F 4 = nI 4 := by decide
  have hF : pt_F (fw_M (wl_M M x1 4 B) (pt_R M (pt_nt x1 + 1)) 4 B) 3 0 (pt_R M (pt_nt x1 + 1)) = 4 := by
    rw [(fw_ke (by decide)).1 3 0 _ (by decide)]
    exact h.2.1.2.2.1
  have g0 := gX6_which4_0_3 x1 4 B 4 M h h.2.1.1 h.2.1.2.2.1 (by decide) hf hc (by rw [hF]; exact ⟨hto, by decide⟩)
  have hX2 : (fw_M (wl_M M x1 4 B) (pt_R M (pt_nt x1 + 1)) 4 B).2.2.2.2 = M.2.2.2.2 := fw_x5 (by decide)
  generalize fw_M (wl_M M x1 4 B) (pt_R M (pt_nt x1 + 1)) 4 B = M2 at *
  generalize pt_R M (pt_nt x1 + 1) = t at *
  have hbt := bt_lt (pt_A M2 13 t) 4
  generalize bt_F (pt_A M2 13 t) 4 = c at *
  have K := pt_nest (Y := YX6_which) (σ := (0, [(0, pt_r 2 0), (1, pt_i x1)], [], M)) (τ := (76, [], [pt_i (-1)], M2)) (R := fun k => (68, [], [pt_i (nI k)], M2)) (n := 2) (i := 0)
    (S := fun k => (50, [(3, pt_r 62 0), (4, pt_i (nI c)), (5, pt_i (nI k))], [], M2)) (f := fun k => if kv_F 4 k = c then some k else none)
    (Nat.zero_le _) g0 ((gX6_which4_50_3 (nI c) (nI 2) 4 B 0 M2 (Int32.le_refl _)).tr pt_dropA) fun k _ hk => by
      have hkk : pt_kk 62 (pt_nt (nI k)) = nI (kv_F 4 k) := by rw [pt_nt_nI (by omega)]; exact kv_4 hk
      have hkl : kv_F 4 k < 2 ^ 20 := kv_lt 4 k
      by_cases c1 : kv_F 4 k = c
      · refine ⟨fun v z => ?_, fun z => by simp [c1] at z⟩
        simp only [c1, if_true, Option.some.injEq] at z
        subst z
        exact (gX6_which4_50_1 (nI c) (nI k) 4 B 0 M2 (nI_ge hk (by decide)) (pt_in_nI hk (by decide)) (by rw [hkk, c1])).tr pt_dropA
      · refine ⟨fun v z => by simp [c1] at z, fun _ => ?_⟩
        exact (gX6_which4_50_2 (nI c) (nI k) 4 B 0 M2 (nI_ge hk (by decide)) (pt_in_nI hk (by decide)) (by rw [hkk]; exact fun z => c1 ((nI_eq (by omega) (by omega)).mp z))).to (by rw [nI_1])
  unfold wh_I wh_F
  cases hf : fs_F (2 - 0) 0 (fun k => if kv_F 4 k = c then some k else none) with
  | none => exact rX6_which_76 (Nat.le_of_ble_eq_true rfl) hX2 (K.2 hf)
  | some v => exact rX6_which_68 (Nat.le_of_ble_eq_true rfl) hX2 (K.1 v hf)
set_option maxRecDepth 100000 in
theorem gX6_which5_0_1 (x1 : Int32) (n : Nat) (B : Nat → Nat → Nat → Bool) (N : Nat) (M : pt_M) (h1 : lA_P M x1 n B) (h2 : (pt_R M (pt_nt x1 + 1)) < 7) (h3 : (pt_F (wl_M M x1 n B) 3 0 (pt_R M (pt_nt x1 + 1))) = 5) (h4 : (nI 3) = 0) :
    pt_Go YX6_which (0, [(0, pt_r 2 0), (1, pt_i x1)], [], M)
      (26, [(0, pt_r 2 0), (1, pt_i x1), (2, pt_r 3 (pt_R M (pt_nt x1 + 1))), (3, pt_r 63 0)], [pt_i (-1)], (wl_M M x1 n B)) :=
  pt_run_ok tX6_which_ok 14 [.inr (2, some (pt_r 3 (pt_R M (pt_nt x1 + 1))), (wl_M M x1 n B)), .inr (1, some (pt_r 63 0), (wl_M M x1 n B)), .inl false] (P := pt_Cal YX6_which (.invokevirtual 163) [pt_r 2 0, pt_i x1] M (some (pt_r 3 (pt_R M (pt_nt x1 + 1)))) (wl_M M x1 n B) ∧ ((pt_R M (pt_nt x1 + 1)) < 7) ∧ pt_Cal YX6_which (.invokestatic 252) [pt_i (pt_F (wl_M M x1 n B) 3 0 (pt_R M (pt_nt x1 + 1)))] (wl_M M x1 n B) (some (pt_r 63 0)) (wl_M M x1 n B) ∧ ((nI 3) = 0) ∧ True) (by with_unfolding_all rfl) ⟨(pt_callV (i := 0) kX6_which_163 mX6_lawfulAt rfl (by decide) rfl (dX6_lawfulAt_y h1)), h2, (pt_callS kX6_which_252 mX6_kindsOf rfl (dX6_kindsOf_5 h3)), h4, trivial⟩
set_option maxRecDepth 100000 in
theorem gX6_which5_0_2 (x1 : Int32) (n : Nat) (B : Nat → Nat → Nat → Bool) (N : Nat) (M : pt_M) (h1 : lA_P M x1 n B) (h2 : (pt_R M (pt_nt x1 + 1)) < 7) (h3 : (pt_F (wl_M M x1 n B) 3 0 (pt_R M (pt_nt x1 + 1))) = 5) (h4 : ¬ (nI 3) = 0) (h5 : fr_H (wl_M M x1 n B) (pt_R M (pt_nt x1 + 1)) n B) (h6 : ¬ 0 < cq_F (pt_A (fw_M (wl_M M x1 n B) (pt_R M (pt_nt x1 + 1)) n B) 12 (pt_R M (pt_nt x1 + 1))) (pt_A (fw_M (wl_M M x1 n B) (pt_R M (pt_nt x1 + 1)) n B) 13 (pt_R M (pt_nt x1 + 1))) (rk_0 n n)) (h7 : bo_P (to_F (pt_F (fw_M (wl_M M x1 n B) (pt_R M (pt_nt x1 + 1)) n B) 3 0 (pt_R M (pt_nt x1 + 1)))) N) :
    pt_Go YX6_which (0, [(0, pt_r 2 0), (1, pt_i x1)], [], M)
      (50, [(3, pt_r 63 0), (4, pt_i (nI (bt_F (pt_A (fw_M (wl_M M x1 n B) (pt_R M (pt_nt x1 + 1)) n B) 12 (pt_R M (pt_nt x1 + 1))) N))), (5, pt_i 0)], [], (fw_M (wl_M M x1 n B) (pt_R M (pt_nt x1 + 1)) n B)) :=
  (pt_run_ok tX6_which_ok 24 [.inr (2, some (pt_r 3 (pt_R M (pt_nt x1 + 1))), (wl_M M x1 n B)), .inr (1, some (pt_r 63 0), (wl_M M x1 n B)), .inl true, .inr (2, some (pt_r 12 (pt_R M (pt_nt x1 + 1))), (fw_M (wl_M M x1 n B) (pt_R M (pt_nt x1 + 1)) n B)), .inr (1, some (pt_i (to_F (pt_F (fw_M (wl_M M x1 n B) (pt_R M (pt_nt x1 + 1)) n B) 3 0 (pt_R M (pt_nt x1 + 1))))), (fw_M (wl_M M x1 n B) (pt_R M (pt_nt x1 + 1)) n B)), .inr (2, some (pt_i (nI (bt_F (pt_A (fw_M (wl_M M x1 n B) (pt_R M (pt_nt x1 + 1)) n B) 12 (pt_R M (pt_nt x1 + 1))) N))), (fw_M (wl_M M x1 n B) (pt_R M (pt_nt x1 + 1)) n B))] (P := pt_Cal YX6_which (.invokevirtual 163) [pt_r 2 0, pt_i x1] M (some (pt_r 3 (pt_R M (pt_nt x1 + 1)))) (wl_M M x1 n B) ∧ ((pt_R M (pt_nt x1 + 1)) < 7) ∧ pt_Cal YX6_which (.invokestatic 252) [pt_i (pt_F (wl_M M x1 n B) 3 0 (pt_R M (pt_nt x1 + 1)))] (wl_M M x1 n B) (some (pt_r 63 0)) (wl_M M x1 n B) ∧ (¬ (nI 3) = 0) ∧ pt_Cal YX6_which (.invokevirtual 196) [pt_r 5 0, pt_r 3 (pt_R M (pt_nt x1 + 1))] (wl_M M x1 n B) (some (pt_r 12 (pt_R M (pt_nt x1 + 1)))) (fw_M (wl_M M x1 n B) (pt_R M (pt_nt x1 + 1)) n B) ∧ ((pt_R M (pt_nt x1 + 1)) < 7) ∧ pt_Cal YX6_which (.invokestatic 110) [pt_i (pt_F (fw_M (wl_M M x1 n B) (pt_R M (pt_nt x1 + 1)) n B) 3 0 (pt_R M (pt_nt x1 + 1)))] (fw_M (wl_M M x1 n B) (pt_R M (pt_nt x1 + 1)) n B) (some (pt_i (to_F (pt_F (fw_M (wl_M M x1 n B) (pt_R M (pt_nt x1 + 1)) n B) 3 0 (pt_R M (pt_nt x1 + 1)))))) (fw_M (wl_M M x1 n B) (pt_R M (pt_nt x1 + 1)) n B) ∧ pt_Cal YX6_which (.invokestatic 256) [pt_r 12 (pt_R M (pt_nt x1 + 1)), pt_i (to_F (pt_F (fw_M (wl_M M x1 n B) (pt_R M (pt_nt x1 + 1)) n B) 3 0 (pt_R M (pt_nt x1 + 1))))] (fw_M (wl_M M x1 n B) (pt_R M (pt_nt x1 + 1)) n B) (some (pt_i (nI (bt_F (pt_A (fw_M (wl_M M x1 n B) (pt_R M (pt_nt x1 + 1)) n B) 12 (pt_R M (pt_nt x1 + 1))) N)))) (fw_M (wl_M M x1 n B) (pt_R M (pt_nt x1 + 1)) n B) ∧ True) (by with_unfolding_all rfl) ⟨(pt_callV (i := 0) kX6_which_163 mX6_lawfulAt rfl (by decide) rfl (dX6_lawfulAt_y h1)), h2, (pt_callS kX6_which_252 mX6_kindsOf rfl (dX6_kindsOf_5 h3)), h4, (pt_callV (i := 0) kX6_which_196 mX0_codeOf rfl (by decide) rfl (dX0_codeOf_own h5 h6)), h2, (pt_callS kX6_which_110 mX6_turnsOf rfl (dX6_turnsOf (pt_F (fw_M (wl_M M x1 n B) (pt_R M (pt_nt x1 + 1)) n B) 3 0 (pt_R M (pt_nt x1 + 1))) (fw_M (wl_M M x1 n B) (pt_R M (pt_nt x1 + 1)) n B))), (pt_callS kX6_which_256 mX0_bitsOf rfl (dX0_bitsOf_t12 h2 h7)), trivial⟩ : pt_Go YX6_which _ (50, [(0, pt_r 2 0), (1, pt_i x1), (2, pt_r 3 (pt_R M (pt_nt x1 + 1))), (3, pt_r 63 0), (4, pt_i (nI (bt_F (pt_A (fw_M (wl_M M x1 n B) (pt_R M (pt_nt x1 + 1)) n B) 12 (pt_R M (pt_nt x1 + 1))) N))), (5, pt_i 0)], [], (fw_M (wl_M M x1 n B) (pt_R M (pt_nt x1 + 1)) n B))).tr (pt_pick [3, 4, 5] (by with_unfolding_all rfl))
set_option maxRecDepth 100000 in
theorem gX6_which5_0_3 (x1 : Int32) (n : Nat) (B : Nat → Nat → Nat → Bool) (N : Nat) (M : pt_M) (h1 : lA_P M x1 n B) (h2 : (pt_R M (pt_nt x1 + 1)) < 7) (h3 : (pt_F (wl_M M x1 n B) 3 0 (pt_R M (pt_nt x1 + 1))) = 5) (h4 : ¬ (nI 3) = 0) (h5 : fr_H (wl_M M x1 n B) (pt_R M (pt_nt x1 + 1)) n B) (h6 : 0 < cq_F (pt_A (fw_M (wl_M M x1 n B) (pt_R M (pt_nt x1 + 1)) n B) 12 (pt_R M (pt_nt x1 + 1))) (pt_A (fw_M (wl_M M x1 n B) (pt_R M (pt_nt x1 + 1)) n B) 13 (pt_R M (pt_nt x1 + 1))) (rk_0 n n)) (h7 : bo_P (to_F (pt_F (fw_M (wl_M M x1 n B) (pt_R M (pt_nt x1 + 1)) n B) 3 0 (pt_R M (pt_nt x1 + 1)))) N) :
    pt_Go YX6_which (0, [(0, pt_r 2 0), (1, pt_i x1)], [], M)
      (50, [(3, pt_r 63 0), (4, pt_i (nI (bt_F (pt_A (fw_M (wl_M M x1 n B) (pt_R M (pt_nt x1 + 1)) n B) 13 (pt_R M (pt_nt x1 + 1))) N))), (5, pt_i 0)], [], (fw_M (wl_M M x1 n B) (pt_R M (pt_nt x1 + 1)) n B)) :=
  (pt_run_ok tX6_which_ok 24 [.inr (2, some (pt_r 3 (pt_R M (pt_nt x1 + 1))), (wl_M M x1 n B)), .inr (1, some (pt_r 63 0), (wl_M M x1 n B)), .inl true, .inr (2, some (pt_r 13 (pt_R M (pt_nt x1 + 1))), (fw_M (wl_M M x1 n B) (pt_R M (pt_nt x1 + 1)) n B)), .inr (1, some (pt_i (to_F (pt_F (fw_M (wl_M M x1 n B) (pt_R M (pt_nt x1 + 1)) n B) 3 0 (pt_R M (pt_nt x1 + 1))))), (fw_M (wl_M M x1 n B) (pt_R M (pt_nt x1 + 1)) n B)), .inr (2, some (pt_i (nI (bt_F (pt_A (fw_M (wl_M M x1 n B) (pt_R M (pt_nt x1 + 1)) n B) 13 (pt_R M (pt_nt x1 + 1))) N))), (fw_M (wl_M M x1 n B) (pt_R M (pt_nt x1 + 1)) n B))] (P := pt_Cal YX6_which (.invokevirtual 163) [pt_r 2 0, pt_i x1] M (some (pt_r 3 (pt_R M (pt_nt x1 + 1)))) (wl_M M x1 n B) ∧ ((pt_R M (pt_nt x1 + 1)) < 7) ∧ pt_Cal YX6_which (.invokestatic 252) [pt_i (pt_F (wl_M M x1 n B) 3 0 (pt_R M (pt_nt x1 + 1)))] (wl_M M x1 n B) (some (pt_r 63 0)) (wl_M M x1 n B) ∧ (¬ (nI 3) = 0) ∧ pt_Cal YX6_which (.invokevirtual 196) [pt_r 5 0, pt_r 3 (pt_R M (pt_nt x1 + 1))] (wl_M M x1 n B) (some (pt_r 13 (pt_R M (pt_nt x1 + 1)))) (fw_M (wl_M M x1 n B) (pt_R M (pt_nt x1 + 1)) n B) ∧ ((pt_R M (pt_nt x1 + 1)) < 7) ∧ pt_Cal YX6_which (.invokestatic 110) [pt_i (pt_F (fw_M (wl_M M x1 n B) (pt_R M (pt_nt x1 + 1)) n B) 3 0 (pt_R M (pt_nt x1 + 1)))] (fw_M (wl_M M x1 n B) (pt_R M (pt_nt x1 + 1)) n B) (some (pt_i (to_F (pt_F (fw_M (wl_M M x1 n B) (pt_R M (pt_nt x1 + 1)) n B) 3 0 (pt_R M (pt_nt x1 + 1)))))) (fw_M (wl_M M x1 n B) (pt_R M (pt_nt x1 + 1)) n B) ∧ pt_Cal YX6_which (.invokestatic 256) [pt_r 13 (pt_R M (pt_nt x1 + 1)), pt_i (to_F (pt_F (fw_M (wl_M M x1 n B) (pt_R M (pt_nt x1 + 1)) n B) 3 0 (pt_R M (pt_nt x1 + 1))))] (fw_M (wl_M M x1 n B) (pt_R M (pt_nt x1 + 1)) n B) (some (pt_i (nI (bt_F (pt_A (fw_M (wl_M M x1 n B) (pt_R M (pt_nt x1 + 1)) n B) 13 (pt_R M (pt_nt x1 + 1))) N)))) (fw_M (wl_M M x1 n B) (pt_R M (pt_nt x1 + 1)) n B) ∧ True) (by with_unfolding_all rfl) ⟨(pt_callV (i := 0) kX6_which_163 mX6_lawfulAt rfl (by decide) rfl (dX6_lawfulAt_y h1)), h2, (pt_callS kX6_which_252 mX6_kindsOf rfl (dX6_kindsOf_5 h3)), h4, (pt_callV (i := 0) kX6_which_196 mX0_codeOf rfl (by decide) rfl (dX0_codeOf_mir h5 h6)), h2, (pt_callS kX6_which_110 mX6_turnsOf rfl (dX6_turnsOf (pt_F (fw_M (wl_M M x1 n B) (pt_R M (pt_nt x1 + 1)) n B) 3 0 (pt_R M (pt_nt x1 + 1))) (fw_M (wl_M M x1 n B) (pt_R M (pt_nt x1 + 1)) n B))), (pt_callS kX6_which_256 mX0_bitsOf rfl (dX0_bitsOf_t13 h2 h7)), trivial⟩ : pt_Go YX6_which _ (50, [(0, pt_r 2 0), (1, pt_i x1), (2, pt_r 3 (pt_R M (pt_nt x1 + 1))), (3, pt_r 63 0), (4, pt_i (nI (bt_F (pt_A (fw_M (wl_M M x1 n B) (pt_R M (pt_nt x1 + 1)) n B) 13 (pt_R M (pt_nt x1 + 1))) N))), (5, pt_i 0)], [], (fw_M (wl_M M x1 n B) (pt_R M (pt_nt x1 + 1)) n B))).tr (pt_pick [3, 4, 5] (by with_unfolding_all rfl))
set_option maxRecDepth 100000 in
theorem gX6_which5_0_4 (x1 : Int32) (n : Nat) (B : Nat → Nat → Nat → Bool) (N : Nat) (M : pt_M) (h1 : lN_P M x1 n B) :
    pt_Go YX6_which (0, [(0, pt_r 2 0), (1, pt_i x1)], [], M)
      (11, [(0, pt_r 2 0), (1, pt_i x1), (2, pt_r 0 0)], [pt_i (-1)], (wl_M M x1 n B)) :=
  pt_run_ok tX6_which_ok 7 [.inr (2, some (pt_r 0 0), (wl_M M x1 n B))] (P := pt_Cal YX6_which (.invokevirtual 163) [pt_r 2 0, pt_i x1] M (some (pt_r 0 0)) (wl_M M x1 n B) ∧ True) (by with_unfolding_all rfl) ⟨(pt_callV (i := 0) kX6_which_163 mX6_lawfulAt rfl (by decide) rfl (dX6_lawfulAt_n h1)), trivial⟩
set_option maxRecDepth 100000 in
theorem gX6_which5_0_5 (x1 : Int32) (n : Nat) (B : Nat → Nat → Nat → Bool) (N : Nat) (M : pt_M) (h1 : tN_P M x1) :
    pt_Go YX6_which (0, [(0, pt_r 2 0), (1, pt_i x1)], [], M)
      (11, [(0, pt_r 2 0), (1, pt_i x1), (2, pt_r 0 0)], [pt_i (-1)], M) :=
  pt_run_ok tX6_which_ok 7 [.inr (2, some (pt_r 0 0), M)] (P := pt_Cal YX6_which (.invokevirtual 163) [pt_r 2 0, pt_i x1] M (some (pt_r 0 0)) M ∧ True) (by with_unfolding_all rfl) ⟨(pt_callV (i := 0) kX6_which_163 mX6_lawfulAt rfl (by decide) rfl (dX6_lawfulAt_0 h1)), trivial⟩
set_option maxRecDepth 100000 in
theorem gX6_which5_50_1 (l4 : Int32) (l5 : Int32) (n : Nat) (B : Nat → Nat → Nat → Bool) (N : Nat) (M : pt_M) (h1 : ¬ (nI 3) ≤ l5) (h2 : pt_in l5 3) (h3 : (pt_kk 63 (pt_nt l5)) = l4) :
    pt_Go YX6_which (50, [(3, pt_r 63 0), (4, pt_i l4), (5, pt_i l5)], [], M)
      (68, [(3, pt_r 63 0), (4, pt_i l4), (5, pt_i l5)], [pt_i l5], M) :=
  pt_run_ok tX6_which_ok 10 [.inl false, .inl false] (P := (¬ (nI 3) ≤ l5) ∧ (pt_in l5 3) ∧ ((pt_kk 63 (pt_nt l5)) = l4) ∧ True) (by with_unfolding_all rfl) ⟨h1, h2, h3, trivial⟩
set_option maxRecDepth 100000 in
theorem gX6_which5_50_2 (l4 : Int32) (l5 : Int32) (n : Nat) (B : Nat → Nat → Nat → Bool) (N : Nat) (M : pt_M) (h1 : ¬ (nI 3) ≤ l5) (h2 : pt_in l5 3) (h3 : ¬ (pt_kk 63 (pt_nt l5)) = l4) :
    pt_Go YX6_which (50, [(3, pt_r 63 0), (4, pt_i l4), (5, pt_i l5)], [], M)
      (50, [(3, pt_r 63 0), (4, pt_i l4), (5, pt_i (l5 + 1))], [], M) :=
  pt_run_ok tX6_which_ok 11 [.inl false, .inl true] (P := (¬ (nI 3) ≤ l5) ∧ (pt_in l5 3) ∧ (¬ (pt_kk 63 (pt_nt l5)) = l4) ∧ True) (by with_unfolding_all rfl) ⟨h1, h2, h3, trivial⟩
set_option maxRecDepth 100000 in
theorem gX6_which5_50_3 (l4 : Int32) (l5 : Int32) (n : Nat) (B : Nat → Nat → Nat → Bool) (N : Nat) (M : pt_M) (h1 : (nI 3) ≤ l5) :
    pt_Go YX6_which (50, [(3, pt_r 63 0), (4, pt_i l4), (5, pt_i l5)], [], M)
      (76, [(3, pt_r 63 0), (4, pt_i l4), (5, pt_i l5)], [pt_i (-1)], M) :=
  pt_run_ok tX6_which_ok 5 [.inl true] (P := ((nI 3) ≤ l5) ∧ True) (by with_unfolding_all rfl) ⟨h1, trivial⟩
theorem dX6_which5_p1 (x1 : Int32) (n : Nat) (B : Nat → Nat → Nat → Bool) (N : Nat) (M : pt_M) (h1 : lA_P M x1 n B) (h2 : (pt_R M (pt_nt x1 + 1)) < 7) (h3 : (pt_F (wl_M M x1 n B) 3 0 (pt_R M (pt_nt x1 + 1))) = 5) (h4 : (nI 3) = 0) : pt_Does yX6_which YX6_which [pt_r 2 0, pt_i x1] M (some (pt_i (-1))) (wl_M M x1 n B) :=
  rX6_which_26 (Nat.le_of_ble_eq_true rfl) rfl (gX6_which5_0_1 x1 n B N M h1 h2 h3 h4)
theorem dX6_which5_p4 (x1 : Int32) (n : Nat) (B : Nat → Nat → Nat → Bool) (N : Nat) (M : pt_M) (h1 : lN_P M x1 n B) : pt_Does yX6_which YX6_which [pt_r 2 0, pt_i x1] M (some (pt_i (-1))) (wl_M M x1 n B) :=
  rX6_which_11 (Nat.le_of_ble_eq_true rfl) rfl (gX6_which5_0_4 x1 n B N M h1)
theorem dX6_which5_p5 (x1 : Int32) (n : Nat) (B : Nat → Nat → Nat → Bool) (N : Nat) (M : pt_M) (h1 : tN_P M x1) : pt_Does yX6_which YX6_which [pt_r 2 0, pt_i x1] M (some (pt_i (-1))) M :=
  rX6_which_11 (Nat.le_of_ble_eq_true rfl) rfl (gX6_which5_0_5 x1 n B N M h1)
theorem dX6_which_5_12 {x1 : Int32} {B : Nat → Nat → Nat → Bool} {M : pt_M} (h : lA_P M x1 5 B) (hf : fr_H (wl_M M x1 5 B) (pt_R M (pt_nt x1 + 1)) 5 B) (hc : ¬ 0 < cq_F (pt_A (fw_M (wl_M M x1 5 B) (pt_R M (pt_nt x1 + 1)) 5 B) 12 (pt_R M (pt_nt x1 + 1))) (pt_A (fw_M (wl_M M x1 5 B) (pt_R M (pt_nt x1 + 1)) 5 B) 13 (pt_R M (pt_nt x1 + 1))) (rk_0 5 5)) :
    pt_Does yX6_which YX6_which [pt_r 2 0, pt_i x1] M (some (pt_i (wh_I 5 3 (bt_F (pt_A (fw_M (wl_M M x1 5 B) (pt_R M (pt_nt x1 + 1)) 5 B) 12 (pt_R M (pt_nt x1 + 1))) 10)))) (fw_M (wl_M M x1 5 B) (pt_R M (pt_nt x1 + 1)) 5 B) := by
  have hto : to_F 5 = nI 10 := by decide
  have hF : pt_F (fw_M (wl_M M x1 5 B) (pt_R M (pt_nt x1 + 1)) 5 B) 3 0 (pt_R M (pt_nt x1 + 1)) = 5 := by
    rw [(fw_ke (by decide)).1 3 0 _ (by decide)]
    exact h.2.1.2.2.1
  have g0 := gX6_which5_0_2 x1 5 B 10 M h h.2.1.1 h.2.1.2.2.1 (by decide) hf hc (by rw [hF]; exact ⟨hto, by decide⟩)
  have hX2 : (fw_M (wl_M M x1 5 B) (pt_R M (pt_nt x1 + 1)) 5 B).2.2.2.2 = M.2.2.2.2 := fw_x5 (by decide)
  generalize fw_M (wl_M M x1 5 B) (pt_R M (pt_nt x1 + 1)) 5 B = M2 at *
  generalize pt_R M (pt_nt x1 + 1) = t at *
  have hbt := bt_lt (pt_A M2 12 t) 10
  generalize bt_F (pt_A M2 12 t) 10 = c at *
  have K := pt_nest (Y := YX6_which) (σ := (0, [(0, pt_r 2 0), (1, pt_i x1)], [], M)) (τ := (76, [], [pt_i (-1)], M2)) (R := fun k => (68, [], [pt_i (nI k)], M2)) (n := 3) (i := 0)
    (S := fun k => (50, [(3, pt_r 63 0), (4, pt_i (nI c)), (5, pt_i (nI k))], [], M2)) (f := fun k => if kv_F 5 k = c then some k else none)
    (Nat.zero_le _) g0 ((gX6_which5_50_3 (nI c) (nI 3) 5 B 0 M2 (Int32.le_refl _)).tr pt_dropA) fun k _ hk => by
      have hkk : pt_kk 63 (pt_nt (nI k)) = nI (kv_F 5 k) := by rw [pt_nt_nI (by omega)]; exact kv_5 hk
      have hkl : kv_F 5 k < 2 ^ 20 := kv_lt 5 k
      by_cases c1 : kv_F 5 k = c
      · refine ⟨fun v z => ?_, fun z => by simp [c1] at z⟩
        simp only [c1, if_true, Option.some.injEq] at z
        subst z
        exact (gX6_which5_50_1 (nI c) (nI k) 5 B 0 M2 (nI_ge hk (by decide)) (pt_in_nI hk (by decide)) (by rw [hkk, c1])).tr pt_dropA
      · refine ⟨fun v z => by simp [c1] at z, fun _ => ?_⟩
        exact (gX6_which5_50_2 (nI c) (nI k) 5 B 0 M2 (nI_ge hk (by decide)) (pt_in_nI hk (by decide)) (by rw [hkk]; exact fun z => c1 ((nI_eq (by omega) (by omega)).mp z))).to (by rw [nI_1])
  unfold wh_I wh_F
  cases hf : fs_F (3 - 0) 0 (fun k => if kv_F 5 k = c then some k else none) with
  | none => exact rX6_which_76 (Nat.le_of_ble_eq_true rfl) hX2 (K.2 hf)
  | some v => exact rX6_which_68 (Nat.le_of_ble_eq_true rfl) hX2 (K.1 v hf)
theorem dX6_which_5_13 {x1 : Int32} {B : Nat → Nat → Nat → Bool} {M : pt_M} (h : lA_P M x1 5 B) (hf : fr_H (wl_M M x1 5 B) (pt_R M (pt_nt x1 + 1)) 5 B) (hc : 0 < cq_F (pt_A (fw_M (wl_M M x1 5 B) (pt_R M (pt_nt x1 + 1)) 5 B) 12 (pt_R M (pt_nt x1 + 1))) (pt_A (fw_M (wl_M M x1 5 B) (pt_R M (pt_nt x1 + 1)) 5 B) 13 (pt_R M (pt_nt x1 + 1))) (rk_0 5 5)) :
    pt_Does yX6_which YX6_which [pt_r 2 0, pt_i x1] M (some (pt_i (wh_I 5 3 (bt_F (pt_A (fw_M (wl_M M x1 5 B) (pt_R M (pt_nt x1 + 1)) 5 B) 13 (pt_R M (pt_nt x1 + 1))) 10)))) (fw_M (wl_M M x1 5 B) (pt_R M (pt_nt x1 + 1)) 5 B) := by
  have hto : to_F 5 = nI 10 := by decide
  have hF : pt_F (fw_M (wl_M M x1 5 B) (pt_R M (pt_nt x1 + 1)) 5 B) 3 0 (pt_R M (pt_nt x1 + 1)) = 5 := by
    rw [(fw_ke (by decide)).1 3 0 _ (by decide)]
    exact h.2.1.2.2.1
  have g0 := gX6_which5_0_3 x1 5 B 10 M h h.2.1.1 h.2.1.2.2.1 (by decide) hf hc (by rw [hF]; exact ⟨hto, by decide⟩)
  have hX2 : (fw_M (wl_M M x1 5 B) (pt_R M (pt_nt x1 + 1)) 5 B).2.2.2.2 = M.2.2.2.2 := fw_x5 (by decide)
  generalize fw_M (wl_M M x1 5 B) (pt_R M (pt_nt x1 + 1)) 5 B = M2 at *
  generalize pt_R M (pt_nt x1 + 1) = t at *
  have hbt := bt_lt (pt_A M2 13 t) 10
  generalize bt_F (pt_A M2 13 t) 10 = c at *
  have K := pt_nest (Y := YX6_which) (σ := (0, [(0, pt_r 2 0), (1, pt_i x1)], [], M)) (τ := (76, [], [pt_i (-1)], M2)) (R := fun k => (68, [], [pt_i (nI k)], M2)) (n := 3) (i := 0)
    (S := fun k => (50, [(3, pt_r 63 0), (4, pt_i (nI c)), (5, pt_i (nI k))], [], M2)) (f := fun k => if kv_F 5 k = c then some k else none)
    (Nat.zero_le _) g0 ((gX6_which5_50_3 (nI c) (nI 3) 5 B 0 M2 (Int32.le_refl _)).tr pt_dropA) fun k _ hk => by
      have hkk : pt_kk 63 (pt_nt (nI k)) = nI (kv_F 5 k) := by rw [pt_nt_nI (by omega)]; exact kv_5 hk
      have hkl : kv_F 5 k < 2 ^ 20 := kv_lt 5 k
      by_cases c1 : kv_F 5 k = c
      · refine ⟨fun v z => ?_, fun z => by simp [c1] at z⟩
        simp only [c1, if_true, Option.some.injEq] at z
        subst z
        exact (gX6_which5_50_1 (nI c) (nI k) 5 B 0 M2 (nI_ge hk (by decide)) (pt_in_nI hk (by decide)) (by rw [hkk, c1])).tr pt_dropA
      · refine ⟨fun v z => by simp [c1] at z, fun _ => ?_⟩
        exact (gX6_which5_50_2 (nI c) (nI k) 5 B 0 M2 (nI_ge hk (by decide)) (pt_in_nI hk (by decide)) (by rw [hkk]; exact fun z => c1 ((nI_eq (by omega) (by omega)).mp z))).to (by rw [nI_1])
  unfold wh_I wh_F
  cases hf : fs_F (3 - 0) 0 (fun k => if kv_F 5 k = c then some k else none) with
  | none => exact rX6_which_76 (Nat.le_of_ble_eq_true rfl) hX2 (K.2 hf)
  | some v => exact rX6_which_68 (Nat.le_of_ble_eq_true rfl) hX2 (K.1 v hf)
set_option maxRecDepth 100000 in
theorem gX6_which6_0_1 (x1 : Int32) (n : Nat) (B : Nat → Nat → Nat → Bool) (N : Nat) (M : pt_M) (h1 : lA_P M x1 n B) (h2 : (pt_R M (pt_nt x1 + 1)) < 7) (h3 : (pt_F (wl_M M x1 n B) 3 0 (pt_R M (pt_nt x1 + 1))) = 6) (h4 : (nI 16) = 0) :
    pt_Go YX6_which (0, [(0, pt_r 2 0), (1, pt_i x1)], [], M)
      (26, [(0, pt_r 2 0), (1, pt_i x1), (2, pt_r 3 (pt_R M (pt_nt x1 + 1))), (3, pt_r 64 0)], [pt_i (-1)], (wl_M M x1 n B)) :=
  pt_run_ok tX6_which_ok 14 [.inr (2, some (pt_r 3 (pt_R M (pt_nt x1 + 1))), (wl_M M x1 n B)), .inr (1, some (pt_r 64 0), (wl_M M x1 n B)), .inl false] (P := pt_Cal YX6_which (.invokevirtual 163) [pt_r 2 0, pt_i x1] M (some (pt_r 3 (pt_R M (pt_nt x1 + 1)))) (wl_M M x1 n B) ∧ ((pt_R M (pt_nt x1 + 1)) < 7) ∧ pt_Cal YX6_which (.invokestatic 252) [pt_i (pt_F (wl_M M x1 n B) 3 0 (pt_R M (pt_nt x1 + 1)))] (wl_M M x1 n B) (some (pt_r 64 0)) (wl_M M x1 n B) ∧ ((nI 16) = 0) ∧ True) (by with_unfolding_all rfl) ⟨(pt_callV (i := 0) kX6_which_163 mX6_lawfulAt rfl (by decide) rfl (dX6_lawfulAt_y h1)), h2, (pt_callS kX6_which_252 mX6_kindsOf rfl (dX6_kindsOf_6 h3)), h4, trivial⟩
set_option maxRecDepth 100000 in
theorem gX6_which6_0_2 (x1 : Int32) (n : Nat) (B : Nat → Nat → Nat → Bool) (N : Nat) (M : pt_M) (h1 : lA_P M x1 n B) (h2 : (pt_R M (pt_nt x1 + 1)) < 7) (h3 : (pt_F (wl_M M x1 n B) 3 0 (pt_R M (pt_nt x1 + 1))) = 6) (h4 : ¬ (nI 16) = 0) (h5 : fr_H (wl_M M x1 n B) (pt_R M (pt_nt x1 + 1)) n B) (h6 : ¬ 0 < cq_F (pt_A (fw_M (wl_M M x1 n B) (pt_R M (pt_nt x1 + 1)) n B) 12 (pt_R M (pt_nt x1 + 1))) (pt_A (fw_M (wl_M M x1 n B) (pt_R M (pt_nt x1 + 1)) n B) 13 (pt_R M (pt_nt x1 + 1))) (rk_0 n n)) (h7 : bo_P (to_F (pt_F (fw_M (wl_M M x1 n B) (pt_R M (pt_nt x1 + 1)) n B) 3 0 (pt_R M (pt_nt x1 + 1)))) N) :
    pt_Go YX6_which (0, [(0, pt_r 2 0), (1, pt_i x1)], [], M)
      (50, [(3, pt_r 64 0), (4, pt_i (nI (bt_F (pt_A (fw_M (wl_M M x1 n B) (pt_R M (pt_nt x1 + 1)) n B) 12 (pt_R M (pt_nt x1 + 1))) N))), (5, pt_i 0)], [], (fw_M (wl_M M x1 n B) (pt_R M (pt_nt x1 + 1)) n B)) :=
  (pt_run_ok tX6_which_ok 24 [.inr (2, some (pt_r 3 (pt_R M (pt_nt x1 + 1))), (wl_M M x1 n B)), .inr (1, some (pt_r 64 0), (wl_M M x1 n B)), .inl true, .inr (2, some (pt_r 12 (pt_R M (pt_nt x1 + 1))), (fw_M (wl_M M x1 n B) (pt_R M (pt_nt x1 + 1)) n B)), .inr (1, some (pt_i (to_F (pt_F (fw_M (wl_M M x1 n B) (pt_R M (pt_nt x1 + 1)) n B) 3 0 (pt_R M (pt_nt x1 + 1))))), (fw_M (wl_M M x1 n B) (pt_R M (pt_nt x1 + 1)) n B)), .inr (2, some (pt_i (nI (bt_F (pt_A (fw_M (wl_M M x1 n B) (pt_R M (pt_nt x1 + 1)) n B) 12 (pt_R M (pt_nt x1 + 1))) N))), (fw_M (wl_M M x1 n B) (pt_R M (pt_nt x1 + 1)) n B))] (P := pt_Cal YX6_which (.invokevirtual 163) [pt_r 2 0, pt_i x1] M (some (pt_r 3 (pt_R M (pt_nt x1 + 1)))) (wl_M M x1 n B) ∧ ((pt_R M (pt_nt x1 + 1)) < 7) ∧ pt_Cal YX6_which (.invokestatic 252) [pt_i (pt_F (wl_M M x1 n B) 3 0 (pt_R M (pt_nt x1 + 1)))] (wl_M M x1 n B) (some (pt_r 64 0)) (wl_M M x1 n B) ∧ (¬ (nI 16) = 0) ∧ pt_Cal YX6_which (.invokevirtual 196) [pt_r 5 0, pt_r 3 (pt_R M (pt_nt x1 + 1))] (wl_M M x1 n B) (some (pt_r 12 (pt_R M (pt_nt x1 + 1)))) (fw_M (wl_M M x1 n B) (pt_R M (pt_nt x1 + 1)) n B) ∧ ((pt_R M (pt_nt x1 + 1)) < 7) ∧ pt_Cal YX6_which (.invokestatic 110) [pt_i (pt_F (fw_M (wl_M M x1 n B) (pt_R M (pt_nt x1 + 1)) n B) 3 0 (pt_R M (pt_nt x1 + 1)))] (fw_M (wl_M M x1 n B) (pt_R M (pt_nt x1 + 1)) n B) (some (pt_i (to_F (pt_F (fw_M (wl_M M x1 n B) (pt_R M (pt_nt x1 + 1)) n B) 3 0 (pt_R M (pt_nt x1 + 1)))))) (fw_M (wl_M M x1 n B) (pt_R M (pt_nt x1 + 1)) n B) ∧ pt_Cal YX6_which (.invokestatic 256) [pt_r 12 (pt_R M (pt_nt x1 + 1)), pt_i (to_F (pt_F (fw_M (wl_M M x1 n B) (pt_R M (pt_nt x1 + 1)) n B) 3 0 (pt_R M (pt_nt x1 + 1))))] (fw_M (wl_M M x1 n B) (pt_R M (pt_nt x1 + 1)) n B) (some (pt_i (nI (bt_F (pt_A (fw_M (wl_M M x1 n B) (pt_R M (pt_nt x1 + 1)) n B) 12 (pt_R M (pt_nt x1 + 1))) N)))) (fw_M (wl_M M x1 n B) (pt_R M (pt_nt x1 + 1)) n B) ∧ True) (by with_unfolding_all rfl) ⟨(pt_callV (i := 0) kX6_which_163 mX6_lawfulAt rfl (by decide) rfl (dX6_lawfulAt_y h1)), h2, (pt_callS kX6_which_252 mX6_kindsOf rfl (dX6_kindsOf_6 h3)), h4, (pt_callV (i := 0) kX6_which_196 mX0_codeOf rfl (by decide) rfl (dX0_codeOf_own h5 h6)), h2, (pt_callS kX6_which_110 mX6_turnsOf rfl (dX6_turnsOf (pt_F (fw_M (wl_M M x1 n B) (pt_R M (pt_nt x1 + 1)) n B) 3 0 (pt_R M (pt_nt x1 + 1))) (fw_M (wl_M M x1 n B) (pt_R M (pt_nt x1 + 1)) n B))), (pt_callS kX6_which_256 mX0_bitsOf rfl (dX0_bitsOf_t12 h2 h7)), trivial⟩ : pt_Go YX6_which _ (50, [(0, pt_r 2 0), (1, pt_i x1), (2, pt_r 3 (pt_R M (pt_nt x1 + 1))), (3, pt_r 64 0), (4, pt_i (nI (bt_F (pt_A (fw_M (wl_M M x1 n B) (pt_R M (pt_nt x1 + 1)) n B) 12 (pt_R M (pt_nt x1 + 1))) N))), (5, pt_i 0)], [], (fw_M (wl_M M x1 n B) (pt_R M (pt_nt x1 + 1)) n B))).tr (pt_pick [3, 4, 5] (by with_unfolding_all rfl))
set_option maxRecDepth 100000 in
theorem gX6_which6_0_3 (x1 : Int32) (n : Nat) (B : Nat → Nat → Nat → Bool) (N : Nat) (M : pt_M) (h1 : lA_P M x1 n B) (h2 : (pt_R M (pt_nt x1 + 1)) < 7) (h3 : (pt_F (wl_M M x1 n B) 3 0 (pt_R M (pt_nt x1 + 1))) = 6) (h4 : ¬ (nI 16) = 0) (h5 : fr_H (wl_M M x1 n B) (pt_R M (pt_nt x1 + 1)) n B) (h6 : 0 < cq_F (pt_A (fw_M (wl_M M x1 n B) (pt_R M (pt_nt x1 + 1)) n B) 12 (pt_R M (pt_nt x1 + 1))) (pt_A (fw_M (wl_M M x1 n B) (pt_R M (pt_nt x1 + 1)) n B) 13 (pt_R M (pt_nt x1 + 1))) (rk_0 n n)) (h7 : bo_P (to_F (pt_F (fw_M (wl_M M x1 n B) (pt_R M (pt_nt x1 + 1)) n B) 3 0 (pt_R M (pt_nt x1 + 1)))) N) :
    pt_Go YX6_which (0, [(0, pt_r 2 0), (1, pt_i x1)], [], M)
      (50, [(3, pt_r 64 0), (4, pt_i (nI (bt_F (pt_A (fw_M (wl_M M x1 n B) (pt_R M (pt_nt x1 + 1)) n B) 13 (pt_R M (pt_nt x1 + 1))) N))), (5, pt_i 0)], [], (fw_M (wl_M M x1 n B) (pt_R M (pt_nt x1 + 1)) n B)) :=
  (pt_run_ok tX6_which_ok 24 [.inr (2, some (pt_r 3 (pt_R M (pt_nt x1 + 1))), (wl_M M x1 n B)), .inr (1, some (pt_r 64 0), (wl_M M x1 n B)), .inl true, .inr (2, some (pt_r 13 (pt_R M (pt_nt x1 + 1))), (fw_M (wl_M M x1 n B) (pt_R M (pt_nt x1 + 1)) n B)), .inr (1, some (pt_i (to_F (pt_F (fw_M (wl_M M x1 n B) (pt_R M (pt_nt x1 + 1)) n B) 3 0 (pt_R M (pt_nt x1 + 1))))), (fw_M (wl_M M x1 n B) (pt_R M (pt_nt x1 + 1)) n B)), .inr (2, some (pt_i (nI (bt_F (pt_A (fw_M (wl_M M x1 n B) (pt_R M (pt_nt x1 + 1)) n B) 13 (pt_R M (pt_nt x1 + 1))) N))), (fw_M (wl_M M x1 n B) (pt_R M (pt_nt x1 + 1)) n B))] (P := pt_Cal YX6_which (.invokevirtual 163) [pt_r 2 0, pt_i x1] M (some (pt_r 3 (pt_R M (pt_nt x1 + 1)))) (wl_M M x1 n B) ∧ ((pt_R M (pt_nt x1 + 1)) < 7) ∧ pt_Cal YX6_which (.invokestatic 252) [pt_i (pt_F (wl_M M x1 n B) 3 0 (pt_R M (pt_nt x1 + 1)))] (wl_M M x1 n B) (some (pt_r 64 0)) (wl_M M x1 n B) ∧ (¬ (nI 16) = 0) ∧ pt_Cal YX6_which (.invokevirtual 196) [pt_r 5 0, pt_r 3 (pt_R M (pt_nt x1 + 1))] (wl_M M x1 n B) (some (pt_r 13 (pt_R M (pt_nt x1 + 1)))) (fw_M (wl_M M x1 n B) (pt_R M (pt_nt x1 + 1)) n B) ∧ ((pt_R M (pt_nt x1 + 1)) < 7) ∧ pt_Cal YX6_which (.invokestatic 110) [pt_i (pt_F (fw_M (wl_M M x1 n B) (pt_R M (pt_nt x1 + 1)) n B) 3 0 (pt_R M (pt_nt x1 + 1)))] (fw_M (wl_M M x1 n B) (pt_R M (pt_nt x1 + 1)) n B) (some (pt_i (to_F (pt_F (fw_M (wl_M M x1 n B) (pt_R M (pt_nt x1 + 1)) n B) 3 0 (pt_R M (pt_nt x1 + 1)))))) (fw_M (wl_M M x1 n B) (pt_R M (pt_nt x1 + 1)) n B) ∧ pt_Cal YX6_which (.invokestatic 256) [pt_r 13 (pt_R M (pt_nt x1 + 1)), pt_i (to_F (pt_F (fw_M (wl_M M x1 n B) (pt_R M (pt_nt x1 + 1)) n B) 3 0 (pt_R M (pt_nt x1 + 1))))] (fw_M (wl_M M x1 n B) (pt_R M (pt_nt x1 + 1)) n B) (some (pt_i (nI (bt_F (pt_A (fw_M (wl_M M x1 n B) (pt_R M (pt_nt x1 + 1)) n B) 13 (pt_R M (pt_nt x1 + 1))) N)))) (fw_M (wl_M M x1 n B) (pt_R M (pt_nt x1 + 1)) n B) ∧ True) (by with_unfolding_all rfl) ⟨(pt_callV (i := 0) kX6_which_163 mX6_lawfulAt rfl (by decide) rfl (dX6_lawfulAt_y h1)), h2, (pt_callS kX6_which_252 mX6_kindsOf rfl (dX6_kindsOf_6 h3)), h4, (pt_callV (i := 0) kX6_which_196 mX0_codeOf rfl (by decide) rfl (dX0_codeOf_mir h5 h6)), h2, (pt_callS kX6_which_110 mX6_turnsOf rfl (dX6_turnsOf (pt_F (fw_M (wl_M M x1 n B) (pt_R M (pt_nt x1 + 1)) n B) 3 0 (pt_R M (pt_nt x1 + 1))) (fw_M (wl_M M x1 n B) (pt_R M (pt_nt x1 + 1)) n B))), (pt_callS kX6_which_256 mX0_bitsOf rfl (dX0_bitsOf_t13 h2 h7)), trivial⟩ : pt_Go YX6_which _ (50, [(0, pt_r 2 0), (1, pt_i x1), (2, pt_r 3 (pt_R M (pt_nt x1 + 1))), (3, pt_r 64 0), (4, pt_i (nI (bt_F (pt_A (fw_M (wl_M M x1 n B) (pt_R M (pt_nt x1 + 1)) n B) 13 (pt_R M (pt_nt x1 + 1))) N))), (5, pt_i 0)], [], (fw_M (wl_M M x1 n B) (pt_R M (pt_nt x1 + 1)) n B))).tr (pt_pick [3, 4, 5] (by with_unfolding_all rfl))
set_option maxRecDepth 100000 in
theorem gX6_which6_0_4 (x1 : Int32) (n : Nat) (B : Nat → Nat → Nat → Bool) (N : Nat) (M : pt_M) (h1 : lN_P M x1 n B) :
    pt_Go YX6_which (0, [(0, pt_r 2 0), (1, pt_i x1)], [], M)
      (11, [(0, pt_r 2 0), (1, pt_i x1), (2, pt_r 0 0)], [pt_i (-1)], (wl_M M x1 n B)) :=
  pt_run_ok tX6_which_ok 7 [.inr (2, some (pt_r 0 0), (wl_M M x1 n B))] (P := pt_Cal YX6_which (.invokevirtual 163) [pt_r 2 0, pt_i x1] M (some (pt_r 0 0)) (wl_M M x1 n B) ∧ True) (by with_unfolding_all rfl) ⟨(pt_callV (i := 0) kX6_which_163 mX6_lawfulAt rfl (by decide) rfl (dX6_lawfulAt_n h1)), trivial⟩
set_option maxRecDepth 100000 in
theorem gX6_which6_0_5 (x1 : Int32) (n : Nat) (B : Nat → Nat → Nat → Bool) (N : Nat) (M : pt_M) (h1 : tN_P M x1) :
    pt_Go YX6_which (0, [(0, pt_r 2 0), (1, pt_i x1)], [], M)
      (11, [(0, pt_r 2 0), (1, pt_i x1), (2, pt_r 0 0)], [pt_i (-1)], M) :=
  pt_run_ok tX6_which_ok 7 [.inr (2, some (pt_r 0 0), M)] (P := pt_Cal YX6_which (.invokevirtual 163) [pt_r 2 0, pt_i x1] M (some (pt_r 0 0)) M ∧ True) (by with_unfolding_all rfl) ⟨(pt_callV (i := 0) kX6_which_163 mX6_lawfulAt rfl (by decide) rfl (dX6_lawfulAt_0 h1)), trivial⟩
set_option maxRecDepth 100000 in
theorem gX6_which6_50_1 (l4 : Int32) (l5 : Int32) (n : Nat) (B : Nat → Nat → Nat → Bool) (N : Nat) (M : pt_M) (h1 : ¬ (nI 16) ≤ l5) (h2 : pt_in l5 16) (h3 : (pt_kk 64 (pt_nt l5)) = l4) :
    pt_Go YX6_which (50, [(3, pt_r 64 0), (4, pt_i l4), (5, pt_i l5)], [], M)
      (68, [(3, pt_r 64 0), (4, pt_i l4), (5, pt_i l5)], [pt_i l5], M) :=
  pt_run_ok tX6_which_ok 10 [.inl false, .inl false] (P := (¬ (nI 16) ≤ l5) ∧ (pt_in l5 16) ∧ ((pt_kk 64 (pt_nt l5)) = l4) ∧ True) (by with_unfolding_all rfl) ⟨h1, h2, h3, trivial⟩
set_option maxRecDepth 100000 in
theorem gX6_which6_50_2 (l4 : Int32) (l5 : Int32) (n : Nat) (B : Nat → Nat → Nat → Bool) (N : Nat) (M : pt_M) (h1 : ¬ (nI 16) ≤ l5) (h2 : pt_in l5 16) (h3 : ¬ (pt_kk 64 (pt_nt l5)) = l4) :
    pt_Go YX6_which (50, [(3, pt_r 64 0), (4, pt_i l4), (5, pt_i l5)], [], M)
      (50, [(3, pt_r 64 0), (4, pt_i l4), (5, pt_i (l5 + 1))], [], M) :=
  pt_run_ok tX6_which_ok 11 [.inl false, .inl true] (P := (¬ (nI 16) ≤ l5) ∧ (pt_in l5 16) ∧ (¬ (pt_kk 64 (pt_nt l5)) = l4) ∧ True) (by with_unfolding_all rfl) ⟨h1, h2, h3, trivial⟩
set_option maxRecDepth 100000 in
theorem gX6_which6_50_3 (l4 : Int32) (l5 : Int32) (n : Nat) (B : Nat → Nat → Nat → Bool) (N : Nat) (M : pt_M) (h1 : (nI 16) ≤ l5) :
    pt_Go YX6_which (50, [(3, pt_r 64 0), (4, pt_i l4), (5, pt_i l5)], [], M)
      (76, [(3, pt_r 64 0), (4, pt_i l4), (5, pt_i l5)], [pt_i (-1)], M) :=
  pt_run_ok tX6_which_ok 5 [.inl true] (P := ((nI 16) ≤ l5) ∧ True) (by with_unfolding_all rfl) ⟨h1, trivial⟩
theorem dX6_which6_p1 (x1 : Int32) (n : Nat) (B : Nat → Nat → Nat → Bool) (N : Nat) (M : pt_M) (h1 : lA_P M x1 n B) (h2 : (pt_R M (pt_nt x1 + 1)) < 7) (h3 : (pt_F (wl_M M x1 n B) 3 0 (pt_R M (pt_nt x1 + 1))) = 6) (h4 : (nI 16) = 0) : pt_Does yX6_which YX6_which [pt_r 2 0, pt_i x1] M (some (pt_i (-1))) (wl_M M x1 n B) :=
  rX6_which_26 (Nat.le_of_ble_eq_true rfl) rfl (gX6_which6_0_1 x1 n B N M h1 h2 h3 h4)
theorem dX6_which6_p4 (x1 : Int32) (n : Nat) (B : Nat → Nat → Nat → Bool) (N : Nat) (M : pt_M) (h1 : lN_P M x1 n B) : pt_Does yX6_which YX6_which [pt_r 2 0, pt_i x1] M (some (pt_i (-1))) (wl_M M x1 n B) :=
  rX6_which_11 (Nat.le_of_ble_eq_true rfl) rfl (gX6_which6_0_4 x1 n B N M h1)
theorem dX6_which6_p5 (x1 : Int32) (n : Nat) (B : Nat → Nat → Nat → Bool) (N : Nat) (M : pt_M) (h1 : tN_P M x1) : pt_Does yX6_which YX6_which [pt_r 2 0, pt_i x1] M (some (pt_i (-1))) M :=
  rX6_which_11 (Nat.le_of_ble_eq_true rfl) rfl (gX6_which6_0_5 x1 n B N M h1)
theorem dX6_which_6_12 {x1 : Int32} {B : Nat → Nat → Nat → Bool} {M : pt_M} (h : lA_P M x1 6 B) (hf : fr_H (wl_M M x1 6 B) (pt_R M (pt_nt x1 + 1)) 6 B) (hc : ¬ 0 < cq_F (pt_A (fw_M (wl_M M x1 6 B) (pt_R M (pt_nt x1 + 1)) 6 B) 12 (pt_R M (pt_nt x1 + 1))) (pt_A (fw_M (wl_M M x1 6 B) (pt_R M (pt_nt x1 + 1)) 6 B) 13 (pt_R M (pt_nt x1 + 1))) (rk_0 6 6)) :
    pt_Does yX6_which YX6_which [pt_r 2 0, pt_i x1] M (some (pt_i (wh_I 6 16 (bt_F (pt_A (fw_M (wl_M M x1 6 B) (pt_R M (pt_nt x1 + 1)) 6 B) 12 (pt_R M (pt_nt x1 + 1))) 20)))) (fw_M (wl_M M x1 6 B) (pt_R M (pt_nt x1 + 1)) 6 B) := by
  have hto : to_F 6 = nI 20 := by decide
  have hF : pt_F (fw_M (wl_M M x1 6 B) (pt_R M (pt_nt x1 + 1)) 6 B) 3 0 (pt_R M (pt_nt x1 + 1)) = 6 := by
    rw [(fw_ke (by decide)).1 3 0 _ (by decide)]
    exact h.2.1.2.2.1
  have g0 := gX6_which6_0_2 x1 6 B 20 M h h.2.1.1 h.2.1.2.2.1 (by decide) hf hc (by rw [hF]; exact ⟨hto, by decide⟩)
  have hX2 : (fw_M (wl_M M x1 6 B) (pt_R M (pt_nt x1 + 1)) 6 B).2.2.2.2 = M.2.2.2.2 := fw_x5 (by decide)
  generalize fw_M (wl_M M x1 6 B) (pt_R M (pt_nt x1 + 1)) 6 B = M2 at *
  generalize pt_R M (pt_nt x1 + 1) = t at *
  have hbt := bt_lt (pt_A M2 12 t) 20
  generalize bt_F (pt_A M2 12 t) 20 = c at *
  have K := pt_nest (Y := YX6_which) (σ := (0, [(0, pt_r 2 0), (1, pt_i x1)], [], M)) (τ := (76, [], [pt_i (-1)], M2)) (R := fun k => (68, [], [pt_i (nI k)], M2)) (n := 16) (i := 0)
    (S := fun k => (50, [(3, pt_r 64 0), (4, pt_i (nI c)), (5, pt_i (nI k))], [], M2)) (f := fun k => if kv_F 6 k = c then some k else none)
    (Nat.zero_le _) g0 ((gX6_which6_50_3 (nI c) (nI 16) 6 B 0 M2 (Int32.le_refl _)).tr pt_dropA) fun k _ hk => by
      have hkk : pt_kk 64 (pt_nt (nI k)) = nI (kv_F 6 k) := by rw [pt_nt_nI (by omega)]; exact kv_6 hk
      have hkl : kv_F 6 k < 2 ^ 20 := kv_lt 6 k
      by_cases c1 : kv_F 6 k = c
      · refine ⟨fun v z => ?_, fun z => by simp [c1] at z⟩
        simp only [c1, if_true, Option.some.injEq] at z
        subst z
        exact (gX6_which6_50_1 (nI c) (nI k) 6 B 0 M2 (nI_ge hk (by decide)) (pt_in_nI hk (by decide)) (by rw [hkk, c1])).tr pt_dropA
      · refine ⟨fun v z => by simp [c1] at z, fun _ => ?_⟩
        exact (gX6_which6_50_2 (nI c) (nI k) 6 B 0 M2 (nI_ge hk (by decide)) (pt_in_nI hk (by decide)) (by rw [hkk]; exact fun z => c1 ((nI_eq (by omega) (by omega)).mp z))).to (by rw [nI_1])
  unfold wh_I wh_F
  cases hf : fs_F (16 - 0) 0 (fun k => if kv_F 6 k = c then some k else none) with
  | none => exact rX6_which_76 (Nat.le_of_ble_eq_true rfl) hX2 (K.2 hf)
  | some v => exact rX6_which_68 (Nat.le_of_ble_eq_true rfl) hX2 (K.1 v hf)
theorem dX6_which_6_13 {x1 : Int32} {B : Nat → Nat → Nat → Bool} {M : pt_M} (h : lA_P M x1 6 B) (hf : fr_H (wl_M M x1 6 B) (pt_R M (pt_nt x1 + 1)) 6 B) (hc : 0 < cq_F (pt_A (fw_M (wl_M M x1 6 B) (pt_R M (pt_nt x1 + 1)) 6 B) 12 (pt_R M (pt_nt x1 + 1))) (pt_A (fw_M (wl_M M x1 6 B) (pt_R M (pt_nt x1 + 1)) 6 B) 13 (pt_R M (pt_nt x1 + 1))) (rk_0 6 6)) :
    pt_Does yX6_which YX6_which [pt_r 2 0, pt_i x1] M (some (pt_i (wh_I 6 16 (bt_F (pt_A (fw_M (wl_M M x1 6 B) (pt_R M (pt_nt x1 + 1)) 6 B) 13 (pt_R M (pt_nt x1 + 1))) 20)))) (fw_M (wl_M M x1 6 B) (pt_R M (pt_nt x1 + 1)) 6 B) := by
  have hto : to_F 6 = nI 20 := by decide
  have hF : pt_F (fw_M (wl_M M x1 6 B) (pt_R M (pt_nt x1 + 1)) 6 B) 3 0 (pt_R M (pt_nt x1 + 1)) = 6 := by
    rw [(fw_ke (by decide)).1 3 0 _ (by decide)]
    exact h.2.1.2.2.1
  have g0 := gX6_which6_0_3 x1 6 B 20 M h h.2.1.1 h.2.1.2.2.1 (by decide) hf hc (by rw [hF]; exact ⟨hto, by decide⟩)
  have hX2 : (fw_M (wl_M M x1 6 B) (pt_R M (pt_nt x1 + 1)) 6 B).2.2.2.2 = M.2.2.2.2 := fw_x5 (by decide)
  generalize fw_M (wl_M M x1 6 B) (pt_R M (pt_nt x1 + 1)) 6 B = M2 at *
  generalize pt_R M (pt_nt x1 + 1) = t at *
  have hbt := bt_lt (pt_A M2 13 t) 20
  generalize bt_F (pt_A M2 13 t) 20 = c at *
  have K := pt_nest (Y := YX6_which) (σ := (0, [(0, pt_r 2 0), (1, pt_i x1)], [], M)) (τ := (76, [], [pt_i (-1)], M2)) (R := fun k => (68, [], [pt_i (nI k)], M2)) (n := 16) (i := 0)
    (S := fun k => (50, [(3, pt_r 64 0), (4, pt_i (nI c)), (5, pt_i (nI k))], [], M2)) (f := fun k => if kv_F 6 k = c then some k else none)
    (Nat.zero_le _) g0 ((gX6_which6_50_3 (nI c) (nI 16) 6 B 0 M2 (Int32.le_refl _)).tr pt_dropA) fun k _ hk => by
      have hkk : pt_kk 64 (pt_nt (nI k)) = nI (kv_F 6 k) := by rw [pt_nt_nI (by omega)]; exact kv_6 hk
      have hkl : kv_F 6 k < 2 ^ 20 := kv_lt 6 k
      by_cases c1 : kv_F 6 k = c
      · refine ⟨fun v z => ?_, fun z => by simp [c1] at z⟩
        simp only [c1, if_true, Option.some.injEq] at z
        subst z
        exact (gX6_which6_50_1 (nI c) (nI k) 6 B 0 M2 (nI_ge hk (by decide)) (pt_in_nI hk (by decide)) (by rw [hkk, c1])).tr pt_dropA
      · refine ⟨fun v z => by simp [c1] at z, fun _ => ?_⟩
        exact (gX6_which6_50_2 (nI c) (nI k) 6 B 0 M2 (nI_ge hk (by decide)) (pt_in_nI hk (by decide)) (by rw [hkk]; exact fun z => c1 ((nI_eq (by omega) (by omega)).mp z))).to (by rw [nI_1])
  unfold wh_I wh_F
  cases hf : fs_F (16 - 0) 0 (fun k => if kv_F 6 k = c then some k else none) with
  | none => exact rX6_which_76 (Nat.le_of_ble_eq_true rfl) hX2 (K.2 hf)
  | some v => exact rX6_which_68 (Nat.le_of_ble_eq_true rfl) hX2 (K.1 v hf)
