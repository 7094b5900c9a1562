/-! names -/
def nm_F (n : Nat) (B : Nat → Nat → Nat → Bool) (r : Nat) (mr : Bool) (p : Nat) : Nat := if mr then pc_F (pb_s 10 fun k => B r p k) + 1 else n - 1 - pc_F (pb_s 10 fun k => B r p k)
def na_F (f : Nat → Int32) (n : Nat) (B : Nat → Nat → Nat → Bool) (r : Nat) (mr : Bool) : Nat → Nat → Int32
  | 0 => upd f 0 (nI r)
  | p + 1 => if p = r then na_F f n B r mr p else upd (na_F f n B r mr p) (nm_F n B r mr p) (nI p)
def nb_M (M : pt_M) (n : Nat) (B : Nat → Nat → Nat → Bool) (x : Int32) (mr : Bool) : pt_M := pt_wA M 15 0 (na_F (pt_A M 15 0) n B (pt_nt x) mr n)
/-- few enough to the left of a line -/
def lq_P (n : Nat) (B : Nat → Nat → Nat → Bool) : Prop := ∀ r p, r < n → p < n → p ≠ r → pc_F (pb_s 10 fun k => B r p k) + 2 ≤ n
theorem wA_2 (M : pt_M) (k i : Nat) (f : Nat → Int32) {x : Nat} (hx : x < 2 ^ 31) (v : Int32) : pt_wA (pt_wA M k i f) k i (upd (pt_A (pt_wA M k i f) k i) (pt_nt (nI x)) v) = pt_wA M k i (upd f x v) := by
  rw [pt_wA_wA, pt_A_wA, pt_nt_nI hx]
theorem rX0_nameBy_89 {vs : List pt_V} {M M' : pt_M} {L : List (Nat × pt_V)} (hvs : (vs.map pt_w).sum ≤ 7) (hX : M'.2.2.2.2 = M.2.2.2.2) (h : pt_Go YX0_nameBy (0, pt_en 0 vs, [], M) (89, L, [], M')) : pt_Does yX0_nameBy YX0_nameBy vs M none M' := pt_does_go tX0_nameBy_ok nX0_nameBy hvs hX ⟨_, by with_unfolding_all rfl, rfl, rfl⟩ h
set_option maxRecDepth 100000 in
theorem gX0_nameBy_0_1 (t : Nat) (r : Int32) (mr : Bool) (M : pt_M) :
    pt_Go YX0_nameBy (0, [(0, pt_r 5 0), (1, pt_r 3 t), (2, pt_i r), (3, pt_i (pt_b mr))], [], M)
      (10, [(0, pt_r 5 0), (1, pt_r 3 t), (2, pt_i r), (3, pt_i (pt_b mr)), (4, pt_i 0)], [], (pt_wA M 15 0 (upd (pt_A M 15 0) (pt_nt 0) r))) :=
  pt_run_ok tX0_nameBy_ok 7 [] (P := (pt_in 0 10) ∧ True) (by with_unfolding_all rfl) ⟨(by unfold pt_in; decide), trivial⟩
set_option maxRecDepth 100000 in
theorem gX0_nameBy_10_1 (t : Nat) (l2 : Int32) (l4 : Int32) (mr : Bool) (M : pt_M) (h1 : t < 7) (h2 : ¬ (pt_F M 3 0 t) ≤ l4) (h3 : ¬ l4 = l2) (h4 : pt_in l2 10) (h5 : pt_in l4 10) (h6 : ¬ (pt_b mr) = 0) (h7 : ¬ ((bc_F (lo_F M t l2 l4)) + 1) ≤ 0) (h8 : ¬ (nI 10) ≤ ((bc_F (lo_F M t l2 l4)) + 1)) (h9 : pt_in ((bc_F (lo_F M t l2 l4)) + 1) 10) :
    pt_Go YX0_nameBy (10, [(0, pt_r 5 0), (1, pt_r 3 t), (2, pt_i l2), (3, pt_i (pt_b mr)), (4, pt_i l4)], [], M)
      (10, [(0, pt_r 5 0), (1, pt_r 3 t), (2, pt_i l2), (3, pt_i (pt_b mr)), (4, pt_i (l4 + 1))], [], (pt_wA M 15 0 (upd (pt_A M 15 0) (pt_nt ((bc_F (lo_F M t l2 l4)) + 1)) l4))) :=
  (pt_run_ok tX0_nameBy_ok 34 [.inl false, .inl false, .inr (3, some (pt_i (lo_F M t l2 l4)), M), .inr (1, some (pt_i (bc_F (lo_F M t l2 l4))), M), .inl false, .inl false, .inl false] (P := (t < 7) ∧ (¬ (pt_F M 3 0 t) ≤ l4) ∧ (¬ l4 = l2) ∧ pt_Cal YX0_nameBy (.invokevirtual 74) [pt_r 3 t, pt_i l2, pt_i l4] M (some (pt_i (lo_F M t l2 l4))) M ∧ pt_Cal YX0_nameBy (.invokestatic 78) [pt_i (lo_F M t l2 l4)] M (some (pt_i (bc_F (lo_F M t l2 l4)))) M ∧ (¬ (pt_b mr) = 0) ∧ (¬ ((bc_F (lo_F M t l2 l4)) + 1) ≤ 0) ∧ (¬ (nI 10) ≤ ((bc_F (lo_F M t l2 l4)) + 1)) ∧ (pt_in ((bc_F (lo_F M t l2 l4)) + 1) 10) ∧ True) (by with_unfolding_all rfl) ⟨h1, h2, h3, (pt_callV (i := t) kX0_nameBy_74 mX4_leftOf rfl h1 rfl (dX4_leftOf_v h1 h4 h5)), (pt_callS kX0_nameBy_78 mJ6_bitCount_0f7a4 rfl (dJ6_bitCount (lo_F M t l2 l4) M)), h6, h7, h8, h9, trivial⟩ : pt_Go YX0_nameBy _ (10, [(0, pt_r 5 0), (1, pt_r 3 t), (2, pt_i l2), (3, pt_i (pt_b mr)), (4, pt_i (l4 + 1)), (5, pt_i (bc_F (lo_F M t l2 l4))), (6, pt_i ((bc_F (lo_F M t l2 l4)) + 1))], [], (pt_wA M 15 0 (upd (pt_A M 15 0) (pt_nt ((bc_F (lo_F M t l2 l4)) + 1)) l4)))).tr (pt_pick [0, 1, 2, 3, 4] (by with_unfolding_all rfl))
set_option maxRecDepth 100000 in
theorem gX0_nameBy_10_2 (t : Nat) (l2 : Int32) (l4 : Int32) (mr : Bool) (M : pt_M) (h1 : t < 7) (h2 : ¬ (pt_F M 3 0 t) ≤ l4) (h3 : ¬ l4 = l2) (h4 : pt_in l2 10) (h5 : pt_in l4 10) (h6 : ¬ (pt_b mr) = 0) (h7 : ¬ ((bc_F (lo_F M t l2 l4)) + 1) ≤ 0) (h8 : (nI 10) ≤ ((bc_F (lo_F M t l2 l4)) + 1)) :
    pt_Go YX0_nameBy (10, [(0, pt_r 5 0), (1, pt_r 3 t), (2, pt_i l2), (3, pt_i (pt_b mr)), (4, pt_i l4)], [], M)
      (10, [(0, pt_r 5 0), (1, pt_r 3 t), (2, pt_i l2), (3, pt_i (pt_b mr)), (4, pt_i (l4 + 1))], [], M) :=
  (pt_run_ok tX0_nameBy_ok 29 [.inl false, .inl false, .inr (3, some (pt_i (lo_F M t l2 l4)), M), .inr (1, some (pt_i (bc_F (lo_F M t l2 l4))), M), .inl false, .inl false, .inl true] (P := (t < 7) ∧ (¬ (pt_F M 3 0 t) ≤ l4) ∧ (¬ l4 = l2) ∧ pt_Cal YX0_nameBy (.invokevirtual 74) [pt_r 3 t, pt_i l2, pt_i l4] M (some (pt_i (lo_F M t l2 l4))) M ∧ pt_Cal YX0_nameBy (.invokestatic 78) [pt_i (lo_F M t l2 l4)] M (some (pt_i (bc_F (lo_F M t l2 l4)))) M ∧ (¬ (pt_b mr) = 0) ∧ (¬ ((bc_F (lo_F M t l2 l4)) + 1) ≤ 0) ∧ ((nI 10) ≤ ((bc_F (lo_F M t l2 l4)) + 1)) ∧ True) (by with_unfolding_all rfl) ⟨h1, h2, h3, (pt_callV (i := t) kX0_nameBy_74 mX4_leftOf rfl h1 rfl (dX4_leftOf_v h1 h4 h5)), (pt_callS kX0_nameBy_78 mJ6_bitCount_0f7a4 rfl (dJ6_bitCount (lo_F M t l2 l4) M)), h6, h7, h8, trivial⟩ : pt_Go YX0_nameBy _ (10, [(0, pt_r 5 0), (1, pt_r 3 t), (2, pt_i l2), (3, pt_i (pt_b mr)), (4, pt_i (l4 + 1)), (5, pt_i (bc_F (lo_F M t l2 l4))), (6, pt_i ((bc_F (lo_F M t l2 l4)) + 1))], [], M)).tr (pt_pick [0, 1, 2, 3, 4] (by with_unfolding_all rfl))
set_option maxRecDepth 100000 in
theorem gX0_nameBy_10_3 (t : Nat) (l2 : Int32) (l4 : Int32) (mr : Bool) (M : pt_M) (h1 : t < 7) (h2 : ¬ (pt_F M 3 0 t) ≤ l4) (h3 : ¬ l4 = l2) (h4 : pt_in l2 10) (h5 : pt_in l4 10) (h6 : ¬ (pt_b mr) = 0) (h7 : ((bc_F (lo_F M t l2 l4)) + 1) ≤ 0) :
    pt_Go YX0_nameBy (10, [(0, pt_r 5 0), (1, pt_r 3 t), (2, pt_i l2), (3, pt_i (pt_b mr)), (4, pt_i l4)], [], M)
      (10, [(0, pt_r 5 0), (1, pt_r 3 t), (2, pt_i l2), (3, pt_i (pt_b mr)), (4, pt_i (l4 + 1))], [], M) :=
  (pt_run_ok tX0_nameBy_ok 24 [.inl false, .inl false, .inr (3, some (pt_i (lo_F M t l2 l4)), M), .inr (1, some (pt_i (bc_F (lo_F M t l2 l4))), M), .inl false, .inl true] (P := (t < 7) ∧ (¬ (pt_F M 3 0 t) ≤ l4) ∧ (¬ l4 = l2) ∧ pt_Cal YX0_nameBy (.invokevirtual 74) [pt_r 3 t, pt_i l2, pt_i l4] M (some (pt_i (lo_F M t l2 l4))) M ∧ pt_Cal YX0_nameBy (.invokestatic 78) [pt_i (lo_F M t l2 l4)] M (some (pt_i (bc_F (lo_F M t l2 l4)))) M ∧ (¬ (pt_b mr) = 0) ∧ (((bc_F (lo_F M t l2 l4)) + 1) ≤ 0) ∧ True) (by with_unfolding_all rfl) ⟨h1, h2, h3, (pt_callV (i := t) kX0_nameBy_74 mX4_leftOf rfl h1 rfl (dX4_leftOf_v h1 h4 h5)), (pt_callS kX0_nameBy_78 mJ6_bitCount_0f7a4 rfl (dJ6_bitCount (lo_F M t l2 l4) M)), h6, h7, trivial⟩ : pt_Go YX0_nameBy _ (10, [(0, pt_r 5 0), (1, pt_r 3 t), (2, pt_i l2), (3, pt_i (pt_b mr)), (4, pt_i (l4 + 1)), (5, pt_i (bc_F (lo_F M t l2 l4))), (6, pt_i ((bc_F (lo_F M t l2 l4)) + 1))], [], M)).tr (pt_pick [0, 1, 2, 3, 4] (by with_unfolding_all rfl))
set_option maxRecDepth 100000 in
theorem gX0_nameBy_10_4 (t : Nat) (l2 : Int32) (l4 : Int32) (mr : Bool) (M : pt_M) (h1 : t < 7) (h2 : ¬ (pt_F M 3 0 t) ≤ l4) (h3 : ¬ l4 = l2) (h4 : pt_in l2 10) (h5 : pt_in l4 10) (h6 : (pt_b mr) = 0) (h7 : ¬ (((pt_F M 3 0 t) - 1) - (bc_F (lo_F M t l2 l4))) ≤ 0) (h8 : ¬ (nI 10) ≤ (((pt_F M 3 0 t) - 1) - (bc_F (lo_F M t l2 l4)))) (h9 : pt_in (((pt_F M 3 0 t) - 1) - (bc_F (lo_F M t l2 l4))) 10) :
    pt_Go YX0_nameBy (10, [(0, pt_r 5 0), (1, pt_r 3 t), (2, pt_i l2), (3, pt_i (pt_b mr)), (4, pt_i l4)], [], M)
      (10, [(0, pt_r 5 0), (1, pt_r 3 t), (2, pt_i l2), (3, pt_i (pt_b mr)), (4, pt_i (l4 + 1))], [], (pt_wA M 15 0 (upd (pt_A M 15 0) (pt_nt (((pt_F M 3 0 t) - 1) - (bc_F (lo_F M t l2 l4)))) l4))) :=
  (pt_run_ok tX0_nameBy_ok 36 [.inl false, .inl false, .inr (3, some (pt_i (lo_F M t l2 l4)), M), .inr (1, some (pt_i (bc_F (lo_F M t l2 l4))), M), .inl true, .inl false, .inl false] (P := (t < 7) ∧ (¬ (pt_F M 3 0 t) ≤ l4) ∧ (¬ l4 = l2) ∧ pt_Cal YX0_nameBy (.invokevirtual 74) [pt_r 3 t, pt_i l2, pt_i l4] M (some (pt_i (lo_F M t l2 l4))) M ∧ pt_Cal YX0_nameBy (.invokestatic 78) [pt_i (lo_F M t l2 l4)] M (some (pt_i (bc_F (lo_F M t l2 l4)))) M ∧ ((pt_b mr) = 0) ∧ (t < 7) ∧ (¬ (((pt_F M 3 0 t) - 1) - (bc_F (lo_F M t l2 l4))) ≤ 0) ∧ (¬ (nI 10) ≤ (((pt_F M 3 0 t) - 1) - (bc_F (lo_F M t l2 l4)))) ∧ (pt_in (((pt_F M 3 0 t) - 1) - (bc_F (lo_F M t l2 l4))) 10) ∧ True) (by with_unfolding_all rfl) ⟨h1, h2, h3, (pt_callV (i := t) kX0_nameBy_74 mX4_leftOf rfl h1 rfl (dX4_leftOf_v h1 h4 h5)), (pt_callS kX0_nameBy_78 mJ6_bitCount_0f7a4 rfl (dJ6_bitCount (lo_F M t l2 l4) M)), h6, h1, h7, h8, h9, trivial⟩ : pt_Go YX0_nameBy _ (10, [(0, pt_r 5 0), (1, pt_r 3 t), (2, pt_i l2), (3, pt_i (pt_b mr)), (4, pt_i (l4 + 1)), (5, pt_i (bc_F (lo_F M t l2 l4))), (6, pt_i (((pt_F M 3 0 t) - 1) - (bc_F (lo_F M t l2 l4))))], [], (pt_wA M 15 0 (upd (pt_A M 15 0) (pt_nt (((pt_F M 3 0 t) - 1) - (bc_F (lo_F M t l2 l4)))) l4)))).tr (pt_pick [0, 1, 2, 3, 4] (by with_unfolding_all rfl))
set_option maxRecDepth 100000 in
theorem gX0_nameBy_10_5 (t : Nat) (l2 : Int32) (l4 : Int32) (mr : Bool) (M : pt_M) (h1 : t < 7) (h2 : ¬ (pt_F M 3 0 t) ≤ l4) (h3 : ¬ l4 = l2) (h4 : pt_in l2 10) (h5 : pt_in l4 10) (h6 : (pt_b mr) = 0) (h7 : ¬ (((pt_F M 3 0 t) - 1) - (bc_F (lo_F M t l2 l4))) ≤ 0) (h8 : (nI 10) ≤ (((pt_F M 3 0 t) - 1) - (bc_F (lo_F M t l2 l4)))) :
    pt_Go YX0_nameBy (10, [(0, pt_r 5 0), (1, pt_r 3 t), (2, pt_i l2), (3, pt_i (pt_b mr)), (4, pt_i l4)], [], M)
      (10, [(0, pt_r 5 0), (1, pt_r 3 t), (2, pt_i l2), (3, pt_i (pt_b mr)), (4, pt_i (l4 + 1))], [], M) :=
  (pt_run_ok tX0_nameBy_ok 31 [.inl false, .inl false, .inr (3, some (pt_i (lo_F M t l2 l4)), M), .inr (1, some (pt_i (bc_F (lo_F M t l2 l4))), M), .inl true, .inl false, .inl true] (P := (t < 7) ∧ (¬ (pt_F M 3 0 t) ≤ l4) ∧ (¬ l4 = l2) ∧ pt_Cal YX0_nameBy (.invokevirtual 74) [pt_r 3 t, pt_i l2, pt_i l4] M (some (pt_i (lo_F M t l2 l4))) M ∧ pt_Cal YX0_nameBy (.invokestatic 78) [pt_i (lo_F M t l2 l4)] M (some (pt_i (bc_F (lo_F M t l2 l4)))) M ∧ ((pt_b mr) = 0) ∧ (t < 7) ∧ (¬ (((pt_F M 3 0 t) - 1) - (bc_F (lo_F M t l2 l4))) ≤ 0) ∧ ((nI 10) ≤ (((pt_F M 3 0 t) - 1) - (bc_F (lo_F M t l2 l4)))) ∧ True) (by with_unfolding_all rfl) ⟨h1, h2, h3, (pt_callV (i := t) kX0_nameBy_74 mX4_leftOf rfl h1 rfl (dX4_leftOf_v h1 h4 h5)), (pt_callS kX0_nameBy_78 mJ6_bitCount_0f7a4 rfl (dJ6_bitCount (lo_F M t l2 l4) M)), h6, h1, h7, h8, trivial⟩ : pt_Go YX0_nameBy _ (10, [(0, pt_r 5 0), (1, pt_r 3 t), (2, pt_i l2), (3, pt_i (pt_b mr)), (4, pt_i (l4 + 1)), (5, pt_i (bc_F (lo_F M t l2 l4))), (6, pt_i (((pt_F M 3 0 t) - 1) - (bc_F (lo_F M t l2 l4))))], [], M)).tr (pt_pick [0, 1, 2, 3, 4] (by with_unfolding_all rfl))
set_option maxRecDepth 100000 in
theorem gX0_nameBy_10_6 (t : Nat) (l2 : Int32) (l4 : Int32) (mr : Bool) (M : pt_M) (h1 : t < 7) (h2 : ¬ (pt_F M 3 0 t) ≤ l4) (h3 : ¬ l4 = l2) (h4 : pt_in l2 10) (h5 : pt_in l4 10) (h6 : (pt_b mr) = 0) (h7 : (((pt_F M 3 0 t) - 1) - (bc_F (lo_F M t l2 l4))) ≤ 0) :
    pt_Go YX0_nameBy (10, [(0, pt_r 5 0), (1, pt_r 3 t), (2, pt_i l2), (3, pt_i (pt_b mr)), (4, pt_i l4)], [], M)
      (10, [(0, pt_r 5 0), (1, pt_r 3 t), (2, pt_i l2), (3, pt_i (pt_b mr)), (4, pt_i (l4 + 1))], [], M) :=
  (pt_run_ok tX0_nameBy_ok 26 [.inl false, .inl false, .inr (3, some (pt_i (lo_F M t l2 l4)), M), .inr (1, some (pt_i (bc_F (lo_F M t l2 l4))), M), .inl true, .inl true] (P := (t < 7) ∧ (¬ (pt_F M 3 0 t) ≤ l4) ∧ (¬ l4 = l2) ∧ pt_Cal YX0_nameBy (.invokevirtual 74) [pt_r 3 t, pt_i l2, pt_i l4] M (some (pt_i (lo_F M t l2 l4))) M ∧ pt_Cal YX0_nameBy (.invokestatic 78) [pt_i (lo_F M t l2 l4)] M (some (pt_i (bc_F (lo_F M t l2 l4)))) M ∧ ((pt_b mr) = 0) ∧ (t < 7) ∧ ((((pt_F M 3 0 t) - 1) - (bc_F (lo_F M t l2 l4))) ≤ 0) ∧ True) (by with_unfolding_all rfl) ⟨h1, h2, h3, (pt_callV (i := t) kX0_nameBy_74 mX4_leftOf rfl h1 rfl (dX4_leftOf_v h1 h4 h5)), (pt_callS kX0_nameBy_78 mJ6_bitCount_0f7a4 rfl (dJ6_bitCount (lo_F M t l2 l4) M)), h6, h1, h7, trivial⟩ : pt_Go YX0_nameBy _ (10, [(0, pt_r 5 0), (1, pt_r 3 t), (2, pt_i l2), (3, pt_i (pt_b mr)), (4, pt_i (l4 + 1)), (5, pt_i (bc_F (lo_F M t l2 l4))), (6, pt_i (((pt_F M 3 0 t) - 1) - (bc_F (lo_F M t l2 l4))))], [], M)).tr (pt_pick [0, 1, 2, 3, 4] (by with_unfolding_all rfl))
set_option maxRecDepth 100000 in
theorem gX0_nameBy_10_7 (t : Nat) (l2 : Int32) (l4 : Int32) (mr : Bool) (M : pt_M) (h1 : t < 7) (h2 : ¬ (pt_F M 3 0 t) ≤ l4) (h3 : l4 = l2) :
    pt_Go YX0_nameBy (10, [(0, pt_r 5 0), (1, pt_r 3 t), (2, pt_i l2), (3, pt_i (pt_b mr)), (4, pt_i l4)], [], M)
      (10, [(0, pt_r 5 0), (1, pt_r 3 t), (2, pt_i l2), (3, pt_i (pt_b mr)), (4, pt_i (l4 + 1))], [], M) :=
  pt_run_ok tX0_nameBy_ok 9 [.inl false, .inl true] (P := (t < 7) ∧ (¬ (pt_F M 3 0 t) ≤ l4) ∧ (l4 = l2) ∧ True) (by with_unfolding_all rfl) ⟨h1, h2, h3, trivial⟩
set_option maxRecDepth 100000 in
theorem gX0_nameBy_10_8 (t : Nat) (l2 : Int32) (l4 : Int32) (mr : Bool) (M : pt_M) (h1 : t < 7) (h2 : (pt_F M 3 0 t) ≤ l4) :
    pt_Go YX0_nameBy (10, [(0, pt_r 5 0), (1, pt_r 3 t), (2, pt_i l2), (3, pt_i (pt_b mr)), (4, pt_i l4)], [], M)
      (89, [(0, pt_r 5 0), (1, pt_r 3 t), (2, pt_i l2), (3, pt_i (pt_b mr)), (4, pt_i l4)], [], M) :=
  pt_run_ok tX0_nameBy_ok 4 [.inl true] (P := (t < 7) ∧ ((pt_F M 3 0 t) ≤ l4) ∧ True) (by with_unfolding_all rfl) ⟨h1, h2, trivial⟩
theorem dX0_nameBy {t n : Nat} {x : Int32} {mr : Bool} {B : Nat → Nat → Nat → Bool} {M : pt_M} (h : tb_P M t n B) (hq : lq_P n B) (hx : pt_in x n) : pt_Does yX0_nameBy YX0_nameBy [pt_r 5 0, pt_r 3 t, pt_i x, pt_i (pt_b mr)] M none (nb_M M n B x mr) := by
  obtain ⟨ht, hn, hs, hB⟩ := h
  obtain ⟨r, hr, rfl⟩ := vp_in_of (pt_in_vp hx) (by omega)
  unfold nb_M
  rw [pt_nt_nI (by omega)]
  have hlt : ∀ i, i < n → ¬ pt_F M 3 0 t ≤ nI i := fun i hi => by rw [hs]; exact nI_ge hi (by omega)
  have hle : pt_F M 3 0 t ≤ nI n := by rw [hs]; exact Int32.le_refl _
  have hp : ∀ i, i < n → pt_in (nI i) 10 := fun i hi => pt_in_nI (by omega) (by decide)
  generalize hf : pt_A M 15 0 = f
  have K := pt_for0 (Y := YX0_nameBy) (fun p => (10, [(0, pt_r 5 0), (1, pt_r 3 t), (2, pt_i (nI r)), (3, pt_i (pt_b mr)), (4, pt_i (nI p))], [], pt_wA M 15 0 (na_F f n B r mr p))) (n := n) fun p hpn => by
    by_cases e : p = r
    · refine (gX0_nameBy_10_7 t (nI r) (nI p) mr (pt_wA M 15 0 (na_F f n B r mr p)) ht (hlt p hpn) (by rw [e])).to ?_
      show _ = (10, [(0, pt_r 5 0), (1, pt_r 3 t), (2, pt_i (nI r)), (3, pt_i (pt_b mr)), (4, pt_i (nI (p + 1)))], [], pt_wA M 15 0 (if p = r then na_F f n B r mr p else upd (na_F f n B r mr p) (nm_F n B r mr p) (nI p)))
      rw [nI_1, if_pos e]
    · have hB' : ct_B (pt_wA M 15 0 (na_F f n B r mr p)) t B := fun a c ha hc => by
        rw [pt_A_wA', if_neg (fun z => absurd z.1 (by decide))]
        exact hB a c ha hc
      have hc := hq r p hr hpn e
      have hm : pb_s 10 (fun k => B r p k) < 1024 := pb_lt _ 10
      have eb : bc_F (lo_F (pt_wA M 15 0 (na_F f n B r mr p)) t (nI r) (nI p)) = nI (pc_F (pb_s 10 fun k => B r p k)) := by
        rw [lo_B hB' (by omega) (by omega), bc_nI hm]
      have en : ¬ nI p = nI r := fun z => e ((nI_eq (by omega) (by omega)).mp z)
      have hna : na_F f n B r mr (p + 1) = upd (na_F f n B r mr p) (nm_F n B r mr p) (nI p) := if_neg e
      cases mr
      · have ex : ((pt_F (pt_wA M 15 0 (na_F f n B r false p)) 3 0 t) - 1) - (bc_F (lo_F (pt_wA M 15 0 (na_F f n B r false p)) t (nI r) (nI p))) = nI (nm_F n B r false p) := by
          rw [eb, pt_F_wA, hs, show (1 : Int32) = nI 1 from rfl, pk_sub (by omega), pk_sub (by omega)]
          rfl
        have hnm : 0 < nm_F n B r false p ∧ nm_F n B r false p < 10 := by
          show 0 < n - 1 - _ ∧ n - 1 - _ < 10
          omega
        refine (gX0_nameBy_10_4 t (nI r) (nI p) false (pt_wA M 15 0 (na_F f n B r false p)) ht (hlt p hpn) en (hp r hr) (hp p hpn) rfl (by rw [ex]; exact nI_nle hnm.1 (by omega)) (by rw [ex]; exact nI_ge hnm.2 (by decide)) (by rw [ex]; exact pt_in_nI hnm.2 (by decide))).to ?_
        rw [ex, wA_2 _ _ _ _ (by omega), nI_1, hna]
      · have ex : (bc_F (lo_F (pt_wA M 15 0 (na_F f n B r true p)) t (nI r) (nI p))) + 1 = nI (nm_F n B r true p) := by
          rw [eb, nI_1]
          rfl
        have hnm : 0 < nm_F n B r true p ∧ nm_F n B r true p < 10 := by
          show 0 < pc_F _ + 1 ∧ pc_F _ + 1 < 10
          omega
        refine (gX0_nameBy_10_1 t (nI r) (nI p) true (pt_wA M 15 0 (na_F f n B r true p)) ht (hlt p hpn) en (hp r hr) (hp p hpn) (by decide) (by rw [ex]; exact nI_nle hnm.1 (by omega)) (by rw [ex]; exact nI_ge hnm.2 (by decide)) (by rw [ex]; exact pt_in_nI hnm.2 (by decide))).to ?_
        rw [ex, wA_2 _ _ _ _ (by omega), nI_1, hna]
  refine rX0_nameBy_89 (Nat.le_of_ble_eq_true rfl) rfl (((gX0_nameBy_0_1 t (nI r) mr M).to ?_).tr (K.tr (gX0_nameBy_10_8 t (nI r) (nI n) mr (pt_wA M 15 0 (na_F f n B r mr n)) ht hle)))
  rw [← hf]
  rfl
theorem na_ok {f : Nat → Int32} {n r : Nat} {B : Nat → Nat → Nat → Bool} {mr : Bool} (hn : n ≤ 10) (hr : r < n) (hf : ∀ i, i < 10 → pt_in (f i) 10) : ∀ p, p ≤ n → ∀ i, i < 10 → pt_in (na_F f n B r mr p i) 10
  | 0, _, i, hi => by
    show pt_in (if i = 0 then nI r else f i) 10
    split
    · exact pt_in_nI (by omega) (by decide)
    · exact hf i hi
  | p + 1, h, i, hi => by
    show pt_in ((if p = r then na_F f n B r mr p else upd (na_F f n B r mr p) (nm_F n B r mr p) (nI p)) i) 10
    split
    · exact na_ok hn hr hf p (by omega) i hi
    · show pt_in (if i = _ then nI p else _) 10
      split
      · exact pt_in_nI (by omega) (by decide)
      · exact na_ok hn hr hf p (by omega) i hi
def gm_F (M : pt_M) (i : Nat) : Nat := pt_nt (pt_A M 15 0 i)
theorem gm_ok {M : pt_M} {i : Nat} (h : pt_in (pt_A M 15 0 i) 10) : pt_A M 15 0 i = nI (gm_F M i) ∧ gm_F M i < 10 := by
  obtain ⟨v, hv, e⟩ := vp_in_of (pt_in_vp h) (by decide)
  unfold gm_F
  rw [e, pt_nt_nI (by omega)]
  exact ⟨rfl, hv⟩
/-! the first rows -/
def fr_M (M : pt_M) (k t n : Nat) (B : Nat → Nat → Nat → Bool) (mr : Bool) : Nat → pt_M
  | 0 => fi_F M k t 120 3
  | r + 1 => if (ri_F n B (2 ^ n - 1)).testBit r then of_M (nb_M (fr_M M k t n B mr r) n B (nI r) mr) k t (rk_0 n n) (rw_F n B (gm_F (nb_M (fr_M M k t n B mr r) n B (nI r) mr)) mr) else fr_M M k t n B mr r
/-- what stays under the coder's work: all but its names and the rows -/
def ke_P (M M' : pt_M) : Prop := pt_F M' = pt_F M ∧ (∀ k i, k ≠ 12 → k ≠ 13 → k ≠ 15 → pt_A M' k i = pt_A M k i) ∧ ((∀ i, i < 10 → pt_in (pt_A M 15 0 i) 10) → ∀ i, i < 10 → pt_in (pt_A M' 15 0 i) 10) ∧ M'.2.2 = M.2.2
theorem ke_P.rf {M : pt_M} : ke_P M M := ⟨rfl, fun _ _ _ _ _ => rfl, fun h => h, rfl⟩
theorem ke_P.tr {M M' M'' : pt_M} (h : ke_P M M') (h' : ke_P M' M'') : ke_P M M'' := ⟨h'.1.trans h.1, fun k i a b c => (h'.2.1 k i a b c).trans (h.2.1 k i a b c), fun h0 => h'.2.2.1 (h.2.2.1 h0), h'.2.2.2.trans h.2.2.2⟩
theorem ke_P.x5 {M M' : pt_M} (h : ke_P M M') : M'.2.2.2.2 = M.2.2.2.2 := by rw [h.2.2.2]
theorem tb_P.ke {M M' : pt_M} {t n : Nat} {B : Nat → Nat → Nat → Bool} (h : tb_P M t n B) (hk : ke_P M M') : tb_P M' t n B := ⟨h.1, h.2.1, by rw [hk.1]; exact h.2.2.1, fun i j hi hj => by rw [hk.2.1 11 t (by decide) (by decide) (by decide)]; exact h.2.2.2 i j hi hj⟩
theorem ke_row {M : pt_M} {k t : Nat} {g : Nat → Int32} (h : k = 12 ∨ k = 13) : ke_P M (pt_wA M k t g) := ⟨rfl, fun k' i a b _ => if_neg (fun z => by rcases h with rfl | rfl <;> (first | exact a z.1 | exact b z.1)), fun h0 i hi => by
  rw [pt_A_wA', if_neg (fun z => by rcases h with rfl | rfl <;> exact absurd z.1 (by decide))]
  exact h0 i hi, rfl⟩
theorem nb_ke {M : pt_M} {n r : Nat} {B : Nat → Nat → Nat → Bool} {mr : Bool} (hn : n ≤ 10) (hr : r < n) : ke_P M (nb_M M n B (nI r) mr) := by
  refine ⟨rfl, fun k i _ _ c => if_neg (fun z => c z.1), fun h0 i hi => ?_, rfl⟩
  unfold nb_M
  rw [pt_A_wA, pt_nt_nI (by omega)]
  exact na_ok hn hr h0 n (Nat.le_refl n) i hi
theorem of_ke {M : pt_M} {k t N : Nat} {w : Nat → Int32} (h : k = 12 ∨ k = 13) : ke_P M (of_M M k t N w) := by
  unfold of_M
  split
  · exact ke_row h
  · exact ke_P.rf
def of_H (M : pt_M) (t n : Nat) (B : Nat → Nat → Nat → Bool) : Prop := tb_P M t n B ∧ ∀ i, i < 10 → pt_in (pt_A M 15 0 i) 10
def fr_H (M : pt_M) (t n : Nat) (B : Nat → Nat → Nat → Bool) : Prop := tb_P M t n B ∧ lq_P n B ∧ ∀ i, i < 10 → pt_in (pt_A M 15 0 i) 10
def cq_F (f w : Nat → Int32) (N : Nat) : Int32 := match fs_F (N - 0) 0 (fun p => if f p = w p then none else some p) with
  | some p => cp_F (f p) (w p)
  | none => 0
theorem rX0_compareRows_37 {vs : List pt_V} {M M' : pt_M} {x : Int32} {L : List (Nat × pt_V)} (hvs : (vs.map pt_w).sum ≤ 4) (hX : M'.2.2.2.2 = M.2.2.2.2) (h : pt_Go YX0_compareRows (0, pt_en 0 vs, [], M) (37, L, [pt_i x], M')) : pt_Does yX0_compareRows YX0_compareRows vs M (some (pt_i x)) M' := pt_does_go tX0_compareRows_ok nX0_compareRows hvs hX ⟨_, by with_unfolding_all rfl, rfl, _, rfl, rfl⟩ h
theorem rX0_compareRows_45 {vs : List pt_V} {M M' : pt_M} {x : Int32} {L : List (Nat × pt_V)} (hvs : (vs.map pt_w).sum ≤ 4) (hX : M'.2.2.2.2 = M.2.2.2.2) (h : pt_Go YX0_compareRows (0, pt_en 0 vs, [], M) (45, L, [pt_i x], M')) : pt_Does yX0_compareRows YX0_compareRows vs M (some (pt_i x)) M' := pt_does_go tX0_compareRows_ok nX0_compareRows hvs hX ⟨_, by with_unfolding_all rfl, rfl, _, rfl, rfl⟩ h
set_option maxRecDepth 100000 in
theorem gX0_compareRowsA_0_1 (t : Nat) (x : Int32)  (M : pt_M) :
    pt_Go YX0_compareRows (0, [(0, pt_r 12 t), (1, pt_r 13 t), (2, pt_i x)], [], M)
      (2, [(0, pt_r 12 t), (1, pt_r 13 t), (2, pt_i x), (3, pt_i 0)], [], M) :=
  pt_run_ok tX0_compareRows_ok 2 [] (P := True) (by with_unfolding_all rfl) trivial
set_option maxRecDepth 100000 in
theorem gX0_compareRowsA_2_1 (t : Nat) (l2 : Int32) (l3 : Int32)  (M : pt_M) (h1 : ¬ l2 ≤ l3) (h2 : t < 7) (h3 : ¬ (nI 120) ≤ l3) (h4 : pt_in l3 120) (h5 : ¬ (pt_A M 12 t (pt_nt l3)) = (pt_A M 13 t (pt_nt l3))) :
    pt_Go YX0_compareRows (2, [(0, pt_r 12 t), (1, pt_r 13 t), (2, pt_i l2), (3, pt_i l3)], [], M)
      (37, [(0, pt_r 12 t), (1, pt_r 13 t), (2, pt_i l2), (3, pt_i l3)], [pt_i (cp_F (pt_A M 12 t (pt_nt l3)) (pt_A M 13 t (pt_nt l3)))], M) :=
  pt_run_ok tX0_compareRows_ok 25 [.inl false, .inl false, .inl false, .inl false, .inr (2, some (pt_i (cp_F (pt_A M 12 t (pt_nt l3)) (pt_A M 13 t (pt_nt l3)))), M)] (P := (¬ l2 ≤ l3) ∧ (t < 7) ∧ (¬ (nI 120) ≤ l3) ∧ (t < 7) ∧ (¬ (nI 120) ≤ l3) ∧ ((pt_in l3 120) ∧ (t < 7)) ∧ ((pt_in l3 120) ∧ (t < 7)) ∧ (¬ (pt_A M 12 t (pt_nt l3)) = (pt_A M 13 t (pt_nt l3))) ∧ ((pt_in l3 120) ∧ (t < 7)) ∧ ((pt_in l3 120) ∧ (t < 7)) ∧ pt_Cal YX0_compareRows (.invokestatic 87) [pt_i (pt_A M 12 t (pt_nt l3)), pt_i (pt_A M 13 t (pt_nt l3))] M (some (pt_i (cp_F (pt_A M 12 t (pt_nt l3)) (pt_A M 13 t (pt_nt l3))))) M ∧ True) (by with_unfolding_all rfl) ⟨h1, h2, h3, h2, h3, ⟨h4, h2⟩, ⟨h4, h2⟩, h5, ⟨h4, h2⟩, ⟨h4, h2⟩, (pt_callS kX0_compareRows_87 mJ6_compare_7cf53 rfl (dJ6_compare (pt_A M 12 t (pt_nt l3)) (pt_A M 13 t (pt_nt l3)) M)), trivial⟩
set_option maxRecDepth 100000 in
theorem gX0_compareRowsA_2_2 (t : Nat) (l2 : Int32) (l3 : Int32)  (M : pt_M) (h1 : ¬ l2 ≤ l3) (h2 : t < 7) (h3 : ¬ (nI 120) ≤ l3) (h4 : pt_in l3 120) (h5 : (pt_A M 12 t (pt_nt l3)) = (pt_A M 13 t (pt_nt l3))) :
    pt_Go YX0_compareRows (2, [(0, pt_r 12 t), (1, pt_r 13 t), (2, pt_i l2), (3, pt_i l3)], [], M)
      (2, [(0, pt_r 12 t), (1, pt_r 13 t), (2, pt_i l2), (3, pt_i (l3 + 1))], [], M) :=
  pt_run_ok tX0_compareRows_ok 20 [.inl false, .inl false, .inl false, .inl true] (P := (¬ l2 ≤ l3) ∧ (t < 7) ∧ (¬ (nI 120) ≤ l3) ∧ (t < 7) ∧ (¬ (nI 120) ≤ l3) ∧ ((pt_in l3 120) ∧ (t < 7)) ∧ ((pt_in l3 120) ∧ (t < 7)) ∧ ((pt_A M 12 t (pt_nt l3)) = (pt_A M 13 t (pt_nt l3))) ∧ True) (by with_unfolding_all rfl) ⟨h1, h2, h3, h2, h3, ⟨h4, h2⟩, ⟨h4, h2⟩, h5, trivial⟩
set_option maxRecDepth 100000 in
theorem gX0_compareRowsA_2_3 (t : Nat) (l2 : Int32) (l3 : Int32)  (M : pt_M) (h1 : ¬ l2 ≤ l3) (h2 : t < 7) (h3 : (nI 120) ≤ l3) :
    pt_Go YX0_compareRows (2, [(0, pt_r 12 t), (1, pt_r 13 t), (2, pt_i l2), (3, pt_i l3)], [], M)
      (45, [(0, pt_r 12 t), (1, pt_r 13 t), (2, pt_i l2), (3, pt_i l3)], [pt_i 0], M) :=
  pt_run_ok tX0_compareRows_ok 8 [.inl false, .inl true] (P := (¬ l2 ≤ l3) ∧ (t < 7) ∧ ((nI 120) ≤ l3) ∧ True) (by with_unfolding_all rfl) ⟨h1, h2, h3, trivial⟩
set_option maxRecDepth 100000 in
theorem gX0_compareRowsA_2_4 (t : Nat) (l2 : Int32) (l3 : Int32)  (M : pt_M) (h1 : l2 ≤ l3) :
    pt_Go YX0_compareRows (2, [(0, pt_r 12 t), (1, pt_r 13 t), (2, pt_i l2), (3, pt_i l3)], [], M)
      (45, [(0, pt_r 12 t), (1, pt_r 13 t), (2, pt_i l2), (3, pt_i l3)], [pt_i 0], M) :=
  pt_run_ok tX0_compareRows_ok 4 [.inl true] (P := (l2 ≤ l3) ∧ True) (by with_unfolding_all rfl) ⟨h1, trivial⟩
theorem dX0_compareRows_A {t N : Nat} {M : pt_M} (ht : t < 7) (hN : N ≤ 120) : pt_Does yX0_compareRows YX0_compareRows [pt_r 12 t, pt_r 13 t, pt_i (nI N)] M (some (pt_i (cq_F (pt_A M 12 t) (pt_A M 13 t) N))) M := by
  have K := pt_nest (Y := YX0_compareRows) (σ := (0, [(0, pt_r 12 t), (1, pt_r 13 t), (2, pt_i (nI N))], [], M)) (τ := (45, [], [pt_i 0], M)) (R := fun p => (37, [], [pt_i (cp_F (pt_A M 12 t p) (pt_A M 13 t p))], M)) (n := N) (i := 0)
    (S := fun p => (2, [(0, pt_r 12 t), (1, pt_r 13 t), (2, pt_i (nI N)), (3, pt_i (nI p))], [], M)) (f := fun p => if pt_A M 12 t p = pt_A M 13 t p then none else some p)
    (Nat.zero_le N) (gX0_compareRowsA_0_1 t (nI N) M) ((gX0_compareRowsA_2_4 t (nI N) (nI N) M (Int32.le_refl _)).tr pt_dropA) fun p _ hp => by
      have e : pt_nt (nI p) = p := pt_nt_nI (by omega)
      by_cases hv : pt_A M 12 t p = pt_A M 13 t p
      · refine ⟨fun v z => by simp [hv] at z, fun _ => (gX0_compareRowsA_2_2 t (nI N) (nI p) M (nI_ge hp (by omega)) ht (nI_ge (by omega) (by decide)) (pt_in_nI (by omega) (by decide)) (by rw [e]; exact hv)).to (by rw [nI_1])⟩
      · refine ⟨fun v z => ?_, fun z => by simp [hv] at z⟩
        simp only [if_neg hv, Option.some.injEq] at z
        subst z
        refine ((gX0_compareRowsA_2_1 t (nI N) (nI p) M (nI_ge hp (by omega)) ht (nI_ge (by omega) (by decide)) (pt_in_nI (by omega) (by decide)) (by rw [e]; exact hv)).tr pt_dropA).to ?_
        rw [e]
  unfold cq_F
  cases hf : fs_F (N - 0) 0 (fun p => if pt_A M 12 t p = pt_A M 13 t p then none else some p) with
  | none => exact rX0_compareRows_45 (Nat.le_of_ble_eq_true rfl) rfl (K.2 hf)
  | some v => exact rX0_compareRows_37 (Nat.le_of_ble_eq_true rfl) rfl (K.1 v hf)
set_option maxRecDepth 100000 in
theorem gX0_compareRowsB_0_1 (t : Nat) (u : Nat) (x : Int32)  (M : pt_M) :
    pt_Go YX0_compareRows (0, [(0, pt_r 12 t), (1, pt_r 12 u), (2, pt_i x)], [], M)
      (2, [(0, pt_r 12 t), (1, pt_r 12 u), (2, pt_i x), (3, pt_i 0)], [], M) :=
  pt_run_ok tX0_compareRows_ok 2 [] (P := True) (by with_unfolding_all rfl) trivial
set_option maxRecDepth 100000 in
theorem gX0_compareRowsB_2_1 (t : Nat) (u : Nat) (l2 : Int32) (l3 : Int32)  (M : pt_M) (h1 : ¬ l2 ≤ l3) (h2 : t < 7) (h3 : ¬ (nI 120) ≤ l3) (h4 : u < 7) (h5 : pt_in l3 120) (h6 : ¬ (pt_A M 12 t (pt_nt l3)) = (pt_A M 12 u (pt_nt l3))) :
    pt_Go YX0_compareRows (2, [(0, pt_r 12 t), (1, pt_r 12 u), (2, pt_i l2), (3, pt_i l3)], [], M)
      (37, [(0, pt_r 12 t), (1, pt_r 12 u), (2, pt_i l2), (3, pt_i l3)], [pt_i (cp_F (pt_A M 12 t (pt_nt l3)) (pt_A M 12 u (pt_nt l3)))], M) :=
  pt_run_ok tX0_compareRows_ok 25 [.inl false, .inl false, .inl false, .inl false, .inr (2, some (pt_i (cp_F (pt_A M 12 t (pt_nt l3)) (pt_A M 12 u (pt_nt l3)))), M)] (P := (¬ l2 ≤ l3) ∧ (t < 7) ∧ (¬ (nI 120) ≤ l3) ∧ (u < 7) ∧ (¬ (nI 120) ≤ l3) ∧ ((pt_in l3 120) ∧ (t < 7)) ∧ ((pt_in l3 120) ∧ (u < 7)) ∧ (¬ (pt_A M 12 t (pt_nt l3)) = (pt_A M 12 u (pt_nt l3))) ∧ ((pt_in l3 120) ∧ (t < 7)) ∧ ((pt_in l3 120) ∧ (u < 7)) ∧ pt_Cal YX0_compareRows (.invokestatic 87) [pt_i (pt_A M 12 t (pt_nt l3)), pt_i (pt_A M 12 u (pt_nt l3))] M (some (pt_i (cp_F (pt_A M 12 t (pt_nt l3)) (pt_A M 12 u (pt_nt l3))))) M ∧ True) (by with_unfolding_all rfl) ⟨h1, h2, h3, h4, h3, ⟨h5, h2⟩, ⟨h5, h4⟩, h6, ⟨h5, h2⟩, ⟨h5, h4⟩, (pt_callS kX0_compareRows_87 mJ6_compare_7cf53 rfl (dJ6_compare (pt_A M 12 t (pt_nt l3)) (pt_A M 12 u (pt_nt l3)) M)), trivial⟩
set_option maxRecDepth 100000 in
theorem gX0_compareRowsB_2_2 (t : Nat) (u : Nat) (l2 : Int32) (l3 : Int32)  (M : pt_M) (h1 : ¬ l2 ≤ l3) (h2 : t < 7) (h3 : ¬ (nI 120) ≤ l3) (h4 : u < 7) (h5 : pt_in l3 120) (h6 : (pt_A M 12 t (pt_nt l3)) = (pt_A M 12 u (pt_nt l3))) :
    pt_Go YX0_compareRows (2, [(0, pt_r 12 t), (1, pt_r 12 u), (2, pt_i l2), (3, pt_i l3)], [], M)
      (2, [(0, pt_r 12 t), (1, pt_r 12 u), (2, pt_i l2), (3, pt_i (l3 + 1))], [], M) :=
  pt_run_ok tX0_compareRows_ok 20 [.inl false, .inl false, .inl false, .inl true] (P := (¬ l2 ≤ l3) ∧ (t < 7) ∧ (¬ (nI 120) ≤ l3) ∧ (u < 7) ∧ (¬ (nI 120) ≤ l3) ∧ ((pt_in l3 120) ∧ (t < 7)) ∧ ((pt_in l3 120) ∧ (u < 7)) ∧ ((pt_A M 12 t (pt_nt l3)) = (pt_A M 12 u (pt_nt l3))) ∧ True) (by with_unfolding_all rfl) ⟨h1, h2, h3, h4, h3, ⟨h5, h2⟩, ⟨h5, h4⟩, h6, trivial⟩
set_option maxRecDepth 100000 in
theorem gX0_compareRowsB_2_3 (t : Nat) (u : Nat) (l2 : Int32) (l3 : Int32)  (M : pt_M) (h1 : ¬ l2 ≤ l3) (h2 : t < 7) (h3 : (nI 120) ≤ l3) :
    pt_Go YX0_compareRows (2, [(0, pt_r 12 t), (1, pt_r 12 u), (2, pt_i l2), (3, pt_i l3)], [], M)
      (45, [(0, pt_r 12 t), (1, pt_r 12 u), (2, pt_i l2), (3, pt_i l3)], [pt_i 0], M) :=
  pt_run_ok tX0_compareRows_ok 8 [.inl false, .inl true] (P := (¬ l2 ≤ l3) ∧ (t < 7) ∧ ((nI 120) ≤ l3) ∧ True) (by with_unfolding_all rfl) ⟨h1, h2, h3, trivial⟩
set_option maxRecDepth 100000 in
theorem gX0_compareRowsB_2_4 (t : Nat) (u : Nat) (l2 : Int32) (l3 : Int32)  (M : pt_M) (h1 : l2 ≤ l3) :
    pt_Go YX0_compareRows (2, [(0, pt_r 12 t), (1, pt_r 12 u), (2, pt_i l2), (3, pt_i l3)], [], M)
      (45, [(0, pt_r 12 t), (1, pt_r 12 u), (2, pt_i l2), (3, pt_i l3)], [pt_i 0], M) :=
  pt_run_ok tX0_compareRows_ok 4 [.inl true] (P := (l2 ≤ l3) ∧ True) (by with_unfolding_all rfl) ⟨h1, trivial⟩
theorem dX0_compareRows_B {t u N : Nat} {M : pt_M} (ht : t < 7) (hu : u < 7) (hN : N ≤ 120) : pt_Does yX0_compareRows YX0_compareRows [pt_r 12 t, pt_r 12 u, pt_i (nI N)] M (some (pt_i (cq_F (pt_A M 12 t) (pt_A M 12 u) N))) M := by
  have K := pt_nest (Y := YX0_compareRows) (σ := (0, [(0, pt_r 12 t), (1, pt_r 12 u), (2, pt_i (nI N))], [], M)) (τ := (45, [], [pt_i 0], M)) (R := fun p => (37, [], [pt_i (cp_F (pt_A M 12 t p) (pt_A M 12 u p))], M)) (n := N) (i := 0)
    (S := fun p => (2, [(0, pt_r 12 t), (1, pt_r 12 u), (2, pt_i (nI N)), (3, pt_i (nI p))], [], M)) (f := fun p => if pt_A M 12 t p = pt_A M 12 u p then none else some p)
    (Nat.zero_le N) (gX0_compareRowsB_0_1 t u (nI N) M) ((gX0_compareRowsB_2_4 t u (nI N) (nI N) M (Int32.le_refl _)).tr pt_dropA) fun p _ hp => by
      have e : pt_nt (nI p) = p := pt_nt_nI (by omega)
      by_cases hv : pt_A M 12 t p = pt_A M 12 u p
      · refine ⟨fun v z => by simp [hv] at z, fun _ => (gX0_compareRowsB_2_2 t u (nI N) (nI p) M (nI_ge hp (by omega)) ht (nI_ge (by omega) (by decide)) hu (pt_in_nI (by omega) (by decide)) (by rw [e]; exact hv)).to (by rw [nI_1])⟩
      · refine ⟨fun v z => ?_, fun z => by simp [hv] at z⟩
        simp only [if_neg hv, Option.some.injEq] at z
        subst z
        refine ((gX0_compareRowsB_2_1 t u (nI N) (nI p) M (nI_ge hp (by omega)) ht (nI_ge (by omega) (by decide)) hu (pt_in_nI (by omega) (by decide)) (by rw [e]; exact hv)).tr pt_dropA).to ?_
        rw [e]
  unfold cq_F
  cases hf : fs_F (N - 0) 0 (fun p => if pt_A M 12 t p = pt_A M 12 u p then none else some p) with
  | none => exact rX0_compareRows_45 (Nat.le_of_ble_eq_true rfl) rfl (K.2 hf)
  | some v => exact rX0_compareRows_37 (Nat.le_of_ble_eq_true rfl) rfl (K.1 v hf)
set_option maxRecDepth 100000 in
theorem gX0_compareRowsC_0_1 (t : Nat) (u : Nat) (x : Int32)  (M : pt_M) :
    pt_Go YX0_compareRows (0, [(0, pt_r 13 t), (1, pt_r 12 u), (2, pt_i x)], [], M)
      (2, [(0, pt_r 13 t), (1, pt_r 12 u), (2, pt_i x), (3, pt_i 0)], [], M) :=
  pt_run_ok tX0_compareRows_ok 2 [] (P := True) (by with_unfolding_all rfl) trivial
set_option maxRecDepth 100000 in
theorem gX0_compareRowsC_2_1 (t : Nat) (u : Nat) (l2 : Int32) (l3 : Int32)  (M : pt_M) (h1 : ¬ l2 ≤ l3) (h2 : t < 7) (h3 : ¬ (nI 120) ≤ l3) (h4 : u < 7) (h5 : pt_in l3 120) (h6 : ¬ (pt_A M 13 t (pt_nt l3)) = (pt_A M 12 u (pt_nt l3))) :
    pt_Go YX0_compareRows (2, [(0, pt_r 13 t), (1, pt_r 12 u), (2, pt_i l2), (3, pt_i l3)], [], M)
      (37, [(0, pt_r 13 t), (1, pt_r 12 u), (2, pt_i l2), (3, pt_i l3)], [pt_i (cp_F (pt_A M 13 t (pt_nt l3)) (pt_A M 12 u (pt_nt l3)))], M) :=
  pt_run_ok tX0_compareRows_ok 25 [.inl false, .inl false, .inl false, .inl false, .inr (2, some (pt_i (cp_F (pt_A M 13 t (pt_nt l3)) (pt_A M 12 u (pt_nt l3)))), M)] (P := (¬ l2 ≤ l3) ∧ (t < 7) ∧ (¬ (nI 120) ≤ l3) ∧ (u < 7) ∧ (¬ (nI 120) ≤ l3) ∧ ((pt_in l3 120) ∧ (t < 7)) ∧ ((pt_in l3 120) ∧ (u < 7)) ∧ (¬ (pt_A M 13 t (pt_nt l3)) = (pt_A M 12 u (pt_nt l3))) ∧ ((pt_in l3 120) ∧ (t < 7)) ∧ ((pt_in l3 120) ∧ (u < 7)) ∧ pt_Cal YX0_compareRows (.invokestatic 87) [pt_i (pt_A M 13 t (pt_nt l3)), pt_i (pt_A M 12 u (pt_nt l3))] M (some (pt_i (cp_F (pt_A M 13 t (pt_nt l3)) (pt_A M 12 u (pt_nt l3))))) M ∧ True) (by with_unfolding_all rfl) ⟨h1, h2, h3, h4, h3, ⟨h5, h2⟩, ⟨h5, h4⟩, h6, ⟨h5, h2⟩, ⟨h5, h4⟩, (pt_callS kX0_compareRows_87 mJ6_compare_7cf53 rfl (dJ6_compare (pt_A M 13 t (pt_nt l3)) (pt_A M 12 u (pt_nt l3)) M)), trivial⟩
set_option maxRecDepth 100000 in
theorem gX0_compareRowsC_2_2 (t : Nat) (u : Nat) (l2 : Int32) (l3 : Int32)  (M : pt_M) (h1 : ¬ l2 ≤ l3) (h2 : t < 7) (h3 : ¬ (nI 120) ≤ l3) (h4 : u < 7) (h5 : pt_in l3 120) (h6 : (pt_A M 13 t (pt_nt l3)) = (pt_A M 12 u (pt_nt l3))) :
    pt_Go YX0_compareRows (2, [(0, pt_r 13 t), (1, pt_r 12 u), (2, pt_i l2), (3, pt_i l3)], [], M)
      (2, [(0, pt_r 13 t), (1, pt_r 12 u), (2, pt_i l2), (3, pt_i (l3 + 1))], [], M) :=
  pt_run_ok tX0_compareRows_ok 20 [.inl false, .inl false, .inl false, .inl true] (P := (¬ l2 ≤ l3) ∧ (t < 7) ∧ (¬ (nI 120) ≤ l3) ∧ (u < 7) ∧ (¬ (nI 120) ≤ l3) ∧ ((pt_in l3 120) ∧ (t < 7)) ∧ ((pt_in l3 120) ∧ (u < 7)) ∧ ((pt_A M 13 t (pt_nt l3)) = (pt_A M 12 u (pt_nt l3))) ∧ True) (by with_unfolding_all rfl) ⟨h1, h2, h3, h4, h3, ⟨h5, h2⟩, ⟨h5, h4⟩, h6, trivial⟩
set_option maxRecDepth 100000 in
theorem gX0_compareRowsC_2_3 (t : Nat) (u : Nat) (l2 : Int32) (l3 : Int32)  (M : pt_M) (h1 : ¬ l2 ≤ l3) (h2 : t < 7) (h3 : (nI 120) ≤ l3) :
    pt_Go YX0_compareRows (2, [(0, pt_r 13 t), (1, pt_r 12 u), (2, pt_i l2), (3, pt_i l3)], [], M)
      (45, [(0, pt_r 13 t), (1, pt_r 12 u), (2, pt_i l2), (3, pt_i l3)], [pt_i 0], M) :=
  pt_run_ok tX0_compareRows_ok 8 [.inl false, .inl true] (P := (¬ l2 ≤ l3) ∧ (t < 7) ∧ ((nI 120) ≤ l3) ∧ True) (by with_unfolding_all rfl) ⟨h1, h2, h3, trivial⟩
set_option maxRecDepth 100000 in
theorem gX0_compareRowsC_2_4 (t : Nat) (u : Nat) (l2 : Int32) (l3 : Int32)  (M : pt_M) (h1 : l2 ≤ l3) :
    pt_Go YX0_compareRows (2, [(0, pt_r 13 t), (1, pt_r 12 u), (2, pt_i l2), (3, pt_i l3)], [], M)
      (45, [(0, pt_r 13 t), (1, pt_r 12 u), (2, pt_i l2), (3, pt_i l3)], [pt_i 0], M) :=
  pt_run_ok tX0_compareRows_ok 4 [.inl true] (P := (l2 ≤ l3) ∧ True) (by with_unfolding_all rfl) ⟨h1, trivial⟩
theorem dX0_compareRows_C {t u N : Nat} {M : pt_M} (ht : t < 7) (hu : u < 7) (hN : N ≤ 120) : pt_Does yX0_compareRows YX0_compareRows [pt_r 13 t, pt_r 12 u, pt_i (nI N)] M (some (pt_i (cq_F (pt_A M 13 t) (pt_A M 12 u) N))) M := by
  have K := pt_nest (Y := YX0_compareRows) (σ := (0, [(0, pt_r 13 t), (1, pt_r 12 u), (2, pt_i (nI N))], [], M)) (τ := (45, [], [pt_i 0], M)) (R := fun p => (37, [], [pt_i (cp_F (pt_A M 13 t p) (pt_A M 12 u p))], M)) (n := N) (i := 0)
    (S := fun p => (2, [(0, pt_r 13 t), (1, pt_r 12 u), (2, pt_i (nI N)), (3, pt_i (nI p))], [], M)) (f := fun p => if pt_A M 13 t p = pt_A M 12 u p then none else some p)
    (Nat.zero_le N) (gX0_compareRowsC_0_1 t u (nI N) M) ((gX0_compareRowsC_2_4 t u (nI N) (nI N) M (Int32.le_refl _)).tr pt_dropA) fun p _ hp => by
      have e : pt_nt (nI p) = p := pt_nt_nI (by omega)
      by_cases hv : pt_A M 13 t p = pt_A M 12 u p
      · refine ⟨fun v z => by simp [hv] at z, fun _ => (gX0_compareRowsC_2_2 t u (nI N) (nI p) M (nI_ge hp (by omega)) ht (nI_ge (by omega) (by decide)) hu (pt_in_nI (by omega) (by decide)) (by rw [e]; exact hv)).to (by rw [nI_1])⟩
      · refine ⟨fun v z => ?_, fun z => by simp [hv] at z⟩
        simp only [if_neg hv, Option.some.injEq] at z
        subst z
        refine ((gX0_compareRowsC_2_1 t u (nI N) (nI p) M (nI_ge hp (by omega)) ht (nI_ge (by omega) (by decide)) hu (pt_in_nI (by omega) (by decide)) (by rw [e]; exact hv)).tr pt_dropA).to ?_
        rw [e]
  unfold cq_F
  cases hf : fs_F (N - 0) 0 (fun p => if pt_A M 13 t p = pt_A M 12 u p then none else some p) with
  | none => exact rX0_compareRows_45 (Nat.le_of_ble_eq_true rfl) rfl (K.2 hf)
  | some v => exact rX0_compareRows_37 (Nat.le_of_ble_eq_true rfl) rfl (K.1 v hf)
theorem fr_ke {M : pt_M} {k t n : Nat} {B : Nat → Nat → Nat → Bool} {mr : Bool} (h : k = 12 ∨ k = 13) (hn : n ≤ 10) : ∀ r, r ≤ n → ke_P M (fr_M M k t n B mr r)
  | 0, _ => ke_row h
  | r + 1, hr => by
    have ih := fr_ke (M := M) (t := t) (B := B) (mr := mr) h hn r (by omega)
    show ke_P M (if _ then _ else _)
    split
    · exact ih.tr ((nb_ke hn (by omega)).tr (of_ke h))
    · exact ih
theorem dX0_offer_12 {t n : Nat} {mr : Bool} {B : Nat → Nat → Nat → Bool} {M : pt_M} (h : of_H M t n B) : pt_Does yX0_offerRow YX0_offerRow [pt_r 5 0, pt_r 3 t, pt_i (pt_b mr), pt_r 12 t] M none (of_M M 12 t (rk_0 n n) (rw_F n B (gm_F M) mr)) := dX0_offerRow_12 h.1 (fun i hi => gm_ok (h.2 i (Nat.lt_of_lt_of_le hi h.1.2.1)))
theorem rX0_findFirstRow_58 {vs : List pt_V} {M M' : pt_M} {L : List (Nat × pt_V)} (hvs : (vs.map pt_w).sum ≤ 6) (hX : M'.2.2.2.2 = M.2.2.2.2) (h : pt_Go YX0_findFirstRow (0, pt_en 0 vs, [], M) (58, L, [], M')) : pt_Does yX0_findFirstRow YX0_findFirstRow vs M none M' := pt_does_go tX0_findFirstRow_ok nX0_findFirstRow hvs hX ⟨_, by with_unfolding_all rfl, rfl, rfl⟩ h
set_option maxRecDepth 100000 in
theorem gX0_findFirstRow12_0_1 (t : Nat) (n : Nat) (B : Nat → Nat → Nat → Bool) (mr : Bool) (M : pt_M) (h1 : t < 7) (h2 : tb_P (fi_F M 12 t 120 3) t n B) (h3 : st_P (ep_F (fi_F M 12 t 120 3) t) n) :
    pt_Go YX0_findFirstRow (0, [(0, pt_r 5 0), (1, pt_r 3 t), (2, pt_i (pt_b mr)), (3, pt_r 12 t)], [], M)
      (18, [(0, pt_r 5 0), (1, pt_r 3 t), (2, pt_i (pt_b mr)), (3, pt_r 12 t), (4, pt_i (ri_I n B (ep_F (fi_F M 12 t 120 3) t))), (5, pt_i 0)], [], (fi_F M 12 t 120 3)) :=
  pt_run_ok tX0_findFirstRow_ok 10 [.inr (2, none, (fi_F M 12 t 120 3)), .inr (1, some (pt_i (ep_F (fi_F M 12 t 120 3) t)), (fi_F M 12 t 120 3)), .inr (2, some (pt_i (ri_I n B (ep_F (fi_F M 12 t 120 3) t))), (fi_F M 12 t 120 3))] (P := pt_Cal YX0_findFirstRow (.invokestatic 47) [pt_r 12 t, pt_i 3] M none (fi_F M 12 t 120 3) ∧ pt_Cal YX0_findFirstRow (.invokevirtual 53) [pt_r 3 t] (fi_F M 12 t 120 3) (some (pt_i (ep_F (fi_F M 12 t 120 3) t))) (fi_F M 12 t 120 3) ∧ pt_Cal YX0_findFirstRow (.invokestatic 57) [pt_r 3 t, pt_i (ep_F (fi_F M 12 t 120 3) t)] (fi_F M 12 t 120 3) (some (pt_i (ri_I n B (ep_F (fi_F M 12 t 120 3) t)))) (fi_F M 12 t 120 3) ∧ True) (by with_unfolding_all rfl) ⟨(pt_callS kX0_findFirstRow_47 mJ7_fill_53178 rfl (dJ7_fill_12 h1)), (pt_callV (i := t) kX0_findFirstRow_53 mX4_everyPoint rfl h1 rfl (dX4_everyPoint h1)), (pt_callS kX0_findFirstRow_57 mX2_rimOf rfl (dX2_rimOf h2 h3)), trivial⟩
set_option maxRecDepth 100000 in
theorem gX0_findFirstRow12_18_1 (t : Nat) (l4 : Int32) (l5 : Int32) (n : Nat) (B : Nat → Nat → Nat → Bool) (mr : Bool) (M : pt_M) (h1 : t < 7) (h2 : ¬ (pt_F M 3 0 t) ≤ l5) (h3 : in_P l4 l5) (h4 : tb_P M t n B) (h5 : lq_P n B) (h6 : pt_in l5 n) (h7 : of_H (nb_M M n B l5 mr) t n B) :
    pt_Go YX0_findFirstRow (18, [(0, pt_r 5 0), (1, pt_r 3 t), (2, pt_i (pt_b mr)), (3, pt_r 12 t), (4, pt_i l4), (5, pt_i l5)], [], M)
      (18, [(0, pt_r 5 0), (1, pt_r 3 t), (2, pt_i (pt_b mr)), (3, pt_r 12 t), (4, pt_i l4), (5, pt_i (l5 + 1))], [], (of_M (nb_M M n B l5 mr) 12 t (rk_0 n n) (rw_F n B (gm_F (nb_M M n B l5 mr)) mr))) :=
  pt_run_ok tX0_findFirstRow_ok 20 [.inl false, .inr (2, some (pt_i 1), M), .inl false, .inr (4, none, (nb_M M n B l5 mr)), .inr (4, none, (of_M (nb_M M n B l5 mr) 12 t (rk_0 n n) (rw_F n B (gm_F (nb_M M n B l5 mr)) mr)))] (P := (t < 7) ∧ (¬ (pt_F M 3 0 t) ≤ l5) ∧ pt_Cal YX0_findFirstRow (.invokestatic 63) [pt_i l4, pt_i l5] M (some (pt_i 1)) M ∧ (¬ (1 : Int32) = (0 : Int32)) ∧ pt_Cal YX0_findFirstRow (.invokevirtual 67) [pt_r 5 0, pt_r 3 t, pt_i l5, pt_i (pt_b mr)] M none (nb_M M n B l5 mr) ∧ pt_Cal YX0_findFirstRow (.invokevirtual 71) [pt_r 5 0, pt_r 3 t, pt_i (pt_b mr), pt_r 12 t] (nb_M M n B l5 mr) none (of_M (nb_M M n B l5 mr) 12 t (rk_0 n n) (rw_F n B (gm_F (nb_M M n B l5 mr)) mr)) ∧ True) (by with_unfolding_all rfl) ⟨h1, h2, (pt_callS kX0_findFirstRow_63 mX2_isIn rfl (dX2_isIn_1 h3)), (by decide), (pt_callV (i := 0) kX0_findFirstRow_67 mX0_nameBy rfl (by decide) rfl (dX0_nameBy h4 h5 h6)), (pt_callV (i := 0) kX0_findFirstRow_71 mX0_offerRow rfl (by decide) rfl (dX0_offer_12 h7)), trivial⟩
set_option maxRecDepth 100000 in
theorem gX0_findFirstRow12_18_2 (t : Nat) (l4 : Int32) (l5 : Int32) (n : Nat) (B : Nat → Nat → Nat → Bool) (mr : Bool) (M : pt_M) (h1 : t < 7) (h2 : ¬ (pt_F M 3 0 t) ≤ l5) (h3 : ¬ in_P l4 l5) :
    pt_Go YX0_findFirstRow (18, [(0, pt_r 5 0), (1, pt_r 3 t), (2, pt_i (pt_b mr)), (3, pt_r 12 t), (4, pt_i l4), (5, pt_i l5)], [], M)
      (18, [(0, pt_r 5 0), (1, pt_r 3 t), (2, pt_i (pt_b mr)), (3, pt_r 12 t), (4, pt_i l4), (5, pt_i (l5 + 1))], [], M) :=
  pt_run_ok tX0_findFirstRow_ok 10 [.inl false, .inr (2, some (pt_i 0), M), .inl true] (P := (t < 7) ∧ (¬ (pt_F M 3 0 t) ≤ l5) ∧ pt_Cal YX0_findFirstRow (.invokestatic 63) [pt_i l4, pt_i l5] M (some (pt_i 0)) M ∧ ((0 : Int32) = (0 : Int32)) ∧ True) (by with_unfolding_all rfl) ⟨h1, h2, (pt_callS kX0_findFirstRow_63 mX2_isIn rfl (dX2_isIn_0 h3)), (by decide), trivial⟩
set_option maxRecDepth 100000 in
theorem gX0_findFirstRow12_18_3 (t : Nat) (l4 : Int32) (l5 : Int32) (n : Nat) (B : Nat → Nat → Nat → Bool) (mr : Bool) (M : pt_M) (h1 : t < 7) (h2 : (pt_F M 3 0 t) ≤ l5) :
    pt_Go YX0_findFirstRow (18, [(0, pt_r 5 0), (1, pt_r 3 t), (2, pt_i (pt_b mr)), (3, pt_r 12 t), (4, pt_i l4), (5, pt_i l5)], [], M)
      (58, [(0, pt_r 5 0), (1, pt_r 3 t), (2, pt_i (pt_b mr)), (3, pt_r 12 t), (4, pt_i l4), (5, pt_i l5)], [], M) :=
  pt_run_ok tX0_findFirstRow_ok 4 [.inl true] (P := (t < 7) ∧ ((pt_F M 3 0 t) ≤ l5) ∧ True) (by with_unfolding_all rfl) ⟨h1, h2, trivial⟩
theorem dX0_findFirstRow_12 {t n : Nat} {mr : Bool} {B : Nat → Nat → Nat → Bool} {M : pt_M} (h : fr_H M t n B) : pt_Does yX0_findFirstRow YX0_findFirstRow [pt_r 5 0, pt_r 3 t, pt_i (pt_b mr), pt_r 12 t] M none (fr_M M 12 t n B mr n) := by
  obtain ⟨htb, hq, hna⟩ := h
  have ht := htb.1
  have hn := htb.2.1
  have hs := htb.2.2.1
  have hm : 2 ^ n - 1 < 1024 := by have := pb_p2 hn; omega
  have hke : ∀ r, r ≤ n → ke_P M (fr_M M 12 t n B mr r) := fun r hr => fr_ke (by decide) hn r hr
  have hrl := ri_lt (B := B) hn hm
  have K := pt_for0 (Y := YX0_findFirstRow) (fun r => (18, [(0, pt_r 5 0), (1, pt_r 3 t), (2, pt_i (pt_b mr)), (3, pt_r 12 t), (4, pt_i (nI (ri_F n B (2 ^ n - 1)))), (5, pt_i (nI r))], [], fr_M M 12 t n B mr r)) (n := n) fun r hr => by
    have hk := hke r (by omega)
    have hin := in_nI (i := r) hrl (by omega)
    have hlt : ¬ pt_F (fr_M M 12 t n B mr r) 3 0 t ≤ nI r := by rw [hk.1, hs]; exact nI_ge hr (by omega)
    cases hv : (ri_F n B (2 ^ n - 1)).testBit r
    · refine (gX0_findFirstRow12_18_2 t (nI (ri_F n B (2 ^ n - 1))) (nI r) n B mr (fr_M M 12 t n B mr r) ht hlt (fun z => by rw [hin, hv] at z; cases z)).to ?_
      have : fr_M M 12 t n B mr (r + 1) = fr_M M 12 t n B mr r := if_neg (by rw [hv]; decide)
      rw [nI_1, this]
    · have htb' := htb.ke hk
      have hk2 := nb_ke (M := fr_M M 12 t n B mr r) (B := B) (mr := mr) hn hr
      have hk3 := hk.tr hk2
      refine (gX0_findFirstRow12_18_1 t (nI (ri_F n B (2 ^ n - 1))) (nI r) n B mr (fr_M M 12 t n B mr r) ht hlt (hin.mpr hv) htb' hq (pt_in_nI hr (by omega)) ⟨htb.ke hk3, hk3.2.2.1 hna⟩).to ?_
      have : fr_M M 12 t n B mr (r + 1) = of_M (nb_M (fr_M M 12 t n B mr r) n B (nI r) mr) 12 t (rk_0 n n) (rw_F n B (gm_F (nb_M (fr_M M 12 t n B mr r) n B (nI r) mr)) mr) := if_pos hv
      rw [nI_1, this]
  have hk0 := hke 0 (by omega)
  have e0 : ep_F (fi_F M 12 t 120 3) t = nI (2 ^ n - 1) := ep_nI hn hs
  refine rX0_findFirstRow_58 (Nat.le_of_ble_eq_true rfl) (hke n (Nat.le_refl n)).x5 (((gX0_findFirstRow12_0_1 t n B mr M ht (htb.ke hk0) ⟨_, e0, hm⟩).to ?_).tr (K.tr (gX0_findFirstRow12_18_3 t (nI (ri_F n B (2 ^ n - 1))) (nI n) n B mr (fr_M M 12 t n B mr n) ht (by rw [(hke n (Nat.le_refl n)).1, hs]; exact Int32.le_refl _))))
  rw [e0, ri_nI hm]
  rfl
theorem dX0_offer_13 {t n : Nat} {mr : Bool} {B : Nat → Nat → Nat → Bool} {M : pt_M} (h : of_H M t n B) : pt_Does yX0_offerRow YX0_offerRow [pt_r 5 0, pt_r 3 t, pt_i (pt_b mr), pt_r 13 t] M none (of_M M 13 t (rk_0 n n) (rw_F n B (gm_F M) mr)) := dX0_offerRow_13 h.1 (fun i hi => gm_ok (h.2 i (Nat.lt_of_lt_of_le hi h.1.2.1)))
set_option maxRecDepth 100000 in
theorem gX0_findFirstRow13_0_1 (t : Nat) (n : Nat) (B : Nat → Nat → Nat → Bool) (mr : Bool) (M : pt_M) (h1 : t < 7) (h2 : tb_P (fi_F M 13 t 120 3) t n B) (h3 : st_P (ep_F (fi_F M 13 t 120 3) t) n) :
    pt_Go YX0_findFirstRow (0, [(0, pt_r 5 0), (1, pt_r 3 t), (2, pt_i (pt_b mr)), (3, pt_r 13 t)], [], M)
      (18, [(0, pt_r 5 0), (1, pt_r 3 t), (2, pt_i (pt_b mr)), (3, pt_r 13 t), (4, pt_i (ri_I n B (ep_F (fi_F M 13 t 120 3) t))), (5, pt_i 0)], [], (fi_F M 13 t 120 3)) :=
  pt_run_ok tX0_findFirstRow_ok 10 [.inr (2, none, (fi_F M 13 t 120 3)), .inr (1, some (pt_i (ep_F (fi_F M 13 t 120 3) t)), (fi_F M 13 t 120 3)), .inr (2, some (pt_i (ri_I n B (ep_F (fi_F M 13 t 120 3) t))), (fi_F M 13 t 120 3))] (P := pt_Cal YX0_findFirstRow (.invokestatic 47) [pt_r 13 t, pt_i 3] M none (fi_F M 13 t 120 3) ∧ pt_Cal YX0_findFirstRow (.invokevirtual 53) [pt_r 3 t] (fi_F M 13 t 120 3) (some (pt_i (ep_F (fi_F M 13 t 120 3) t))) (fi_F M 13 t 120 3) ∧ pt_Cal YX0_findFirstRow (.invokestatic 57) [pt_r 3 t, pt_i (ep_F (fi_F M 13 t 120 3) t)] (fi_F M 13 t 120 3) (some (pt_i (ri_I n B (ep_F (fi_F M 13 t 120 3) t)))) (fi_F M 13 t 120 3) ∧ True) (by with_unfolding_all rfl) ⟨(pt_callS kX0_findFirstRow_47 mJ7_fill_53178 rfl (dJ7_fill_13 h1)), (pt_callV (i := t) kX0_findFirstRow_53 mX4_everyPoint rfl h1 rfl (dX4_everyPoint h1)), (pt_callS kX0_findFirstRow_57 mX2_rimOf rfl (dX2_rimOf h2 h3)), trivial⟩
set_option maxRecDepth 100000 in
theorem gX0_findFirstRow13_18_1 (t : Nat) (l4 : Int32) (l5 : Int32) (n : Nat) (B : Nat → Nat → Nat → Bool) (mr : Bool) (M : pt_M) (h1 : t < 7) (h2 : ¬ (pt_F M 3 0 t) ≤ l5) (h3 : in_P l4 l5) (h4 : tb_P M t n B) (h5 : lq_P n B) (h6 : pt_in l5 n) (h7 : of_H (nb_M M n B l5 mr) t n B) :
    pt_Go YX0_findFirstRow (18, [(0, pt_r 5 0), (1, pt_r 3 t), (2, pt_i (pt_b mr)), (3, pt_r 13 t), (4, pt_i l4), (5, pt_i l5)], [], M)
      (18, [(0, pt_r 5 0), (1, pt_r 3 t), (2, pt_i (pt_b mr)), (3, pt_r 13 t), (4, pt_i l4), (5, pt_i (l5 + 1))], [], (of_M (nb_M M n B l5 mr) 13 t (rk_0 n n) (rw_F n B (gm_F (nb_M M n B l5 mr)) mr))) :=
  pt_run_ok tX0_findFirstRow_ok 20 [.inl false, .inr (2, some (pt_i 1), M), .inl false, .inr (4, none, (nb_M M n B l5 mr)), .inr (4, none, (of_M (nb_M M n B l5 mr) 13 t (rk_0 n n) (rw_F n B (gm_F (nb_M M n B l5 mr)) mr)))] (P := (t < 7) ∧ (¬ (pt_F M 3 0 t) ≤ l5) ∧ pt_Cal YX0_findFirstRow (.invokestatic 63) [pt_i l4, pt_i l5] M (some (pt_i 1)) M ∧ (¬ (1 : Int32) = (0 : Int32)) ∧ pt_Cal YX0_findFirstRow (.invokevirtual 67) [pt_r 5 0, pt_r 3 t, pt_i l5, pt_i (pt_b mr)] M none (nb_M M n B l5 mr) ∧ pt_Cal YX0_findFirstRow (.invokevirtual 71) [pt_r 5 0, pt_r 3 t, pt_i (pt_b mr), pt_r 13 t] (nb_M M n B l5 mr) none (of_M (nb_M M n B l5 mr) 13 t (rk_0 n n) (rw_F n B (gm_F (nb_M M n B l5 mr)) mr)) ∧ True) (by with_unfolding_all rfl) ⟨h1, h2, (pt_callS kX0_findFirstRow_63 mX2_isIn rfl (dX2_isIn_1 h3)), (by decide), (pt_callV (i := 0) kX0_findFirstRow_67 mX0_nameBy rfl (by decide) rfl (dX0_nameBy h4 h5 h6)), (pt_callV (i := 0) kX0_findFirstRow_71 mX0_offerRow rfl (by decide) rfl (dX0_offer_13 h7)), trivial⟩
set_option maxRecDepth 100000 in
theorem gX0_findFirstRow13_18_2 (t : Nat) (l4 : Int32) (l5 : Int32) (n : Nat) (B : Nat → Nat → Nat → Bool) (mr : Bool) (M : pt_M) (h1 : t < 7) (h2 : ¬ (pt_F M 3 0 t) ≤ l5) (h3 : ¬ in_P l4 l5) :
    pt_Go YX0_findFirstRow (18, [(0, pt_r 5 0), (1, pt_r 3 t), (2, pt_i (pt_b mr)), (3, pt_r 13 t), (4, pt_i l4), (5, pt_i l5)], [], M)
      (18, [(0, pt_r 5 0), (1, pt_r 3 t), (2, pt_i (pt_b mr)), (3, pt_r 13 t), (4, pt_i l4), (5, pt_i (l5 + 1))], [], M) :=
  pt_run_ok tX0_findFirstRow_ok 10 [.inl false, .inr (2, some (pt_i 0), M), .inl true] (P := (t < 7) ∧ (¬ (pt_F M 3 0 t) ≤ l5) ∧ pt_Cal YX0_findFirstRow (.invokestatic 63) [pt_i l4, pt_i l5] M (some (pt_i 0)) M ∧ ((0 : Int32) = (0 : Int32)) ∧ True) (by with_unfolding_all rfl) ⟨h1, h2, (pt_callS kX0_findFirstRow_63 mX2_isIn rfl (dX2_isIn_0 h3)), (by decide), trivial⟩
set_option maxRecDepth 100000 in
theorem gX0_findFirstRow13_18_3 (t : Nat) (l4 : Int32) (l5 : Int32) (n : Nat) (B : Nat → Nat → Nat → Bool) (mr : Bool) (M : pt_M) (h1 : t < 7) (h2 : (pt_F M 3 0 t) ≤ l5) :
    pt_Go YX0_findFirstRow (18, [(0, pt_r 5 0), (1, pt_r 3 t), (2, pt_i (pt_b mr)), (3, pt_r 13 t), (4, pt_i l4), (5, pt_i l5)], [], M)
      (58, [(0, pt_r 5 0), (1, pt_r 3 t), (2, pt_i (pt_b mr)), (3, pt_r 13 t), (4, pt_i l4), (5, pt_i l5)], [], M) :=
  pt_run_ok tX0_findFirstRow_ok 4 [.inl true] (P := (t < 7) ∧ ((pt_F M 3 0 t) ≤ l5) ∧ True) (by with_unfolding_all rfl) ⟨h1, h2, trivial⟩
theorem dX0_findFirstRow_13 {t n : Nat} {mr : Bool} {B : Nat → Nat → Nat → Bool} {M : pt_M} (h : fr_H M t n B) : pt_Does yX0_findFirstRow YX0_findFirstRow [pt_r 5 0, pt_r 3 t, pt_i (pt_b mr), pt_r 13 t] M none (fr_M M 13 t n B mr n) := by
  obtain ⟨htb, hq, hna⟩ := h
  have ht := htb.1
  have hn := htb.2.1
  have hs := htb.2.2.1
  have hm : 2 ^ n - 1 < 1024 := by have := pb_p2 hn; omega
  have hke : ∀ r, r ≤ n → ke_P M (fr_M M 13 t n B mr r) := fun r hr => fr_ke (by decide) hn r hr
  have hrl := ri_lt (B := B) hn hm
  have K := pt_for0 (Y := YX0_findFirstRow) (fun r => (18, [(0, pt_r 5 0), (1, pt_r 3 t), (2, pt_i (pt_b mr)), (3, pt_r 13 t), (4, pt_i (nI (ri_F n B (2 ^ n - 1)))), (5, pt_i (nI r))], [], fr_M M 13 t n B mr r)) (n := n) fun r hr => by
    have hk := hke r (by omega)
    have hin := in_nI (i := r) hrl (by omega)
    have hlt : ¬ pt_F (fr_M M 13 t n B mr r) 3 0 t ≤ nI r := by rw [hk.1, hs]; exact nI_ge hr (by omega)
    cases hv : (ri_F n B (2 ^ n - 1)).testBit r
    · refine (gX0_findFirstRow13_18_2 t (nI (ri_F n B (2 ^ n - 1))) (nI r) n B mr (fr_M M 13 t n B mr r) ht hlt (fun z => by rw [hin, hv] at z; cases z)).to ?_
      have : fr_M M 13 t n B mr (r + 1) = fr_M M 13 t n B mr r := if_neg (by rw [hv]; decide)
      rw [nI_1, this]
    · have htb' := htb.ke hk
      have hk2 := nb_ke (M := fr_M M 13 t n B mr r) (B := B) (mr := mr) hn hr
      have hk3 := hk.tr hk2
      refine (gX0_findFirstRow13_18_1 t (nI (ri_F n B (2 ^ n - 1))) (nI r) n B mr (fr_M M 13 t n B mr r) ht hlt (hin.mpr hv) htb' hq (pt_in_nI hr (by omega)) ⟨htb.ke hk3, hk3.2.2.1 hna⟩).to ?_
      have : fr_M M 13 t n B mr (r + 1) = of_M (nb_M (fr_M M 13 t n B mr r) n B (nI r) mr) 13 t (rk_0 n n) (rw_F n B (gm_F (nb_M (fr_M M 13 t n B mr r) n B (nI r) mr)) mr) := if_pos hv
      rw [nI_1, this]
  have hk0 := hke 0 (by omega)
  have e0 : ep_F (fi_F M 13 t 120 3) t = nI (2 ^ n - 1) := ep_nI hn hs
  refine rX0_findFirstRow_58 (Nat.le_of_ble_eq_true rfl) (hke n (Nat.le_refl n)).x5 (((gX0_findFirstRow13_0_1 t n B mr M ht (htb.ke hk0) ⟨_, e0, hm⟩).to ?_).tr (K.tr (gX0_findFirstRow13_18_3 t (nI (ri_F n B (2 ^ n - 1))) (nI n) n B mr (fr_M M 13 t n B mr n) ht (by rw [(hke n (Nat.le_refl n)).1, hs]; exact Int32.le_refl _))))
  rw [e0, ri_nI hm]
  rfl
def fw_M (M : pt_M) (t n : Nat) (B : Nat → Nat → Nat → Bool) : pt_M := if pt_F M 3 3 t = 0 then pt_wF (fr_M (fr_M M 12 t n B false n) 13 t n B true n) 3 3 t 1 else M
theorem rX0_findFirstRows_32 {vs : List pt_V} {M M' : pt_M} {L : List (Nat × pt_V)} (hvs : (vs.map pt_w).sum ≤ 2) (hX : M'.2.2.2.2 = M.2.2.2.2) (h : pt_Go YX0_findFirstRows (0, pt_en 0 vs, [], M) (32, L, [], M')) : pt_Does yX0_findFirstRows YX0_findFirstRows vs M none M' := pt_does_go tX0_findFirstRows_ok nX0_findFirstRows hvs hX ⟨_, by with_unfolding_all rfl, rfl, rfl⟩ h
set_option maxRecDepth 100000 in
theorem gX0_findFirstRows_0_1 (t : Nat) (n : Nat) (B : Nat → Nat → Nat → Bool) (M : pt_M) (h1 : t < 7) (h2 : (pt_F M 3 3 t) = 0) (h3 : fr_H M t n B) (h4 : fr_H (fr_M M 12 t n B false n) t n B) :
    pt_Go YX0_findFirstRows (0, [(0, pt_r 5 0), (1, pt_r 3 t)], [], M)
      (32, [(0, pt_r 5 0), (1, pt_r 3 t)], [], (pt_wF (fr_M (fr_M M 12 t n B false n) 13 t n B true n) 3 3 t 1)) :=
  pt_run_ok tX0_findFirstRows_ok 18 [.inl false, .inr (4, none, (fr_M M 12 t n B false n)), .inr (4, none, (fr_M (fr_M M 12 t n B false n) 13 t n B true n))] (P := (t < 7) ∧ ((pt_F M 3 3 t) = 0) ∧ (t < 7) ∧ pt_Cal YX0_findFirstRows (.invokevirtual 43) [pt_r 5 0, pt_r 3 t, pt_i 0, pt_r 12 t] M none (fr_M M 12 t n B false n) ∧ (t < 7) ∧ pt_Cal YX0_findFirstRows (.invokevirtual 43) [pt_r 5 0, pt_r 3 t, pt_i 1, pt_r 13 t] (fr_M M 12 t n B false n) none (fr_M (fr_M M 12 t n B false n) 13 t n B true n) ∧ (((1 : Int32) = 0 ∨ (1 : Int32) = 1) ∧ (t < 7)) ∧ True) (by with_unfolding_all rfl) ⟨h1, h2, h1, (pt_callV (i := 0) kX0_findFirstRows_43 mX0_findFirstRow rfl (by decide) rfl (dX0_findFirstRow_12 (mr := false) h3)), h1, (pt_callV (i := 0) kX0_findFirstRows_43 mX0_findFirstRow rfl (by decide) rfl (dX0_findFirstRow_13 (mr := true) h4)), ⟨(by decide), h1⟩, trivial⟩
set_option maxRecDepth 100000 in
theorem gX0_findFirstRows_0_2 (t : Nat) (n : Nat) (B : Nat → Nat → Nat → Bool) (M : pt_M) (h1 : t < 7) (h2 : ¬ (pt_F M 3 3 t) = 0) :
    pt_Go YX0_findFirstRows (0, [(0, pt_r 5 0), (1, pt_r 3 t)], [], M)
      (32, [(0, pt_r 5 0), (1, pt_r 3 t)], [], M) :=
  pt_run_ok tX0_findFirstRows_ok 3 [.inl true] (P := (t < 7) ∧ (¬ (pt_F M 3 3 t) = 0) ∧ True) (by with_unfolding_all rfl) ⟨h1, h2, trivial⟩
theorem dX0_findFirstRows {t n : Nat} {B : Nat → Nat → Nat → Bool} {M : pt_M} (h : fr_H M t n B) : pt_Does yX0_findFirstRows YX0_findFirstRows [pt_r 5 0, pt_r 3 t] M none (fw_M M t n B) := by
  have hk1 : ke_P M (fr_M M 12 t n B false n) := fr_ke (by decide) h.1.2.1 n (Nat.le_refl n)
  have hk2 : ke_P M (fr_M (fr_M M 12 t n B false n) 13 t n B true n) := hk1.tr (fr_ke (by decide) h.1.2.1 n (Nat.le_refl n))
  unfold fw_M
  by_cases h0 : pt_F M 3 3 t = 0
  · rw [if_pos h0]
    exact rX0_findFirstRows_32 (Nat.le_of_ble_eq_true rfl) hk2.x5 (gX0_findFirstRows_0_1 t n B M h.1.1 h0 h ⟨h.1.ke hk1, h.2.1, hk1.2.2.1 h.2.2⟩)
  · rw [if_neg h0]
    exact rX0_findFirstRows_32 (Nat.le_of_ble_eq_true rfl) rfl (gX0_findFirstRows_0_2 t n B M h.1.1 h0)
def cn_P (x : Int32) (N : Nat) : Prop := x = nI N ∧ N ≤ 120
theorem dX0_cmp_A {t N : Nat} {x : Int32} {M : pt_M} (ht : t < 7) (h : cn_P x N) : pt_Does yX0_compareRows YX0_compareRows [pt_r 12 t, pt_r 13 t, pt_i x] M (some (pt_i (cq_F (pt_A M 12 t) (pt_A M 13 t) N))) M := by
  obtain ⟨rfl, hN⟩ := h
  exact dX0_compareRows_A ht hN
theorem dX0_cmp_B {t u N : Nat} {x : Int32} {M : pt_M} (ht : t < 7) (hu : u < 7) (h : cn_P x N) : pt_Does yX0_compareRows YX0_compareRows [pt_r 12 t, pt_r 12 u, pt_i x] M (some (pt_i (cq_F (pt_A M 12 t) (pt_A M 12 u) N))) M := by
  obtain ⟨rfl, hN⟩ := h
  exact dX0_compareRows_B ht hu hN
theorem dX0_cmp_C {t u N : Nat} {x : Int32} {M : pt_M} (ht : t < 7) (hu : u < 7) (h : cn_P x N) : pt_Does yX0_compareRows YX0_compareRows [pt_r 13 t, pt_r 12 u, pt_i x] M (some (pt_i (cq_F (pt_A M 13 t) (pt_A M 12 u) N))) M := by
  obtain ⟨rfl, hN⟩ := h
  exact dX0_compareRows_C ht hu hN
theorem to_tab : ((List.range 11).all fun n => decide (to_F (nI n) = nI (rk_0 n n)) && decide (rk_0 n n ≤ 120)) = true := by decide +kernel
theorem to_nI {n : Nat} (hn : n ≤ 10) : cn_P (to_F (nI n)) (rk_0 n n) := by
  have h := pt_all to_tab (i := n) (by omega)
  simp only [Bool.and_eq_true, decide_eq_true_eq] at h
  exact h
theorem rX0_codeOf_47 {vs : List pt_V} {M M' : pt_M} {k i : Nat} {L : List (Nat × pt_V)} (hvs : (vs.map pt_w).sum ≤ 3) (hX : M'.2.2.2.2 = M.2.2.2.2) (h : pt_Go YX0_codeOf (0, pt_en 0 vs, [], M) (47, L, [pt_r k i], M')) : pt_Does yX0_codeOf YX0_codeOf vs M (some (pt_r k i)) M' := pt_does_go tX0_codeOf_ok nX0_codeOf hvs hX ⟨_, by with_unfolding_all rfl, rfl, _, rfl, Or.inr ⟨_, rfl⟩⟩ h
set_option maxRecDepth 100000 in
theorem gX0_codeOf_0_1 (t : Nat) (n N : Nat) (B : Nat → Nat → Nat → Bool) (M : pt_M) (h1 : fr_H M t n B) (h2 : t < 7) (h3 : cn_P (to_F (pt_F (fw_M M t n B) 3 0 t)) N) (h4 : ¬ 0 < (cq_F (pt_A (fw_M M t n B) 12 t) (pt_A (fw_M M t n B) 13 t) N)) :
    pt_Go YX0_codeOf (0, [(0, pt_r 5 0), (1, pt_r 3 t)], [], M)
      (47, [(0, pt_r 5 0), (1, pt_r 3 t), (2, pt_i 1)], [pt_r 12 t], (fw_M M t n B)) :=
  pt_run_ok tX0_codeOf_ok 20 [.inr (2, none, (fw_M M t n B)), .inr (1, some (pt_i (to_F (pt_F (fw_M M t n B) 3 0 t))), (fw_M M t n B)), .inr (3, some (pt_i (cq_F (pt_A (fw_M M t n B) 12 t) (pt_A (fw_M M t n B) 13 t) N)), (fw_M M t n B)), .inl false, .inl false] (P := pt_Cal YX0_codeOf (.invokevirtual 15) [pt_r 5 0, pt_r 3 t] M none (fw_M M t n B) ∧ (t < 7) ∧ (t < 7) ∧ (t < 7) ∧ pt_Cal YX0_codeOf (.invokestatic 31) [pt_i (pt_F (fw_M M t n B) 3 0 t)] (fw_M M t n B) (some (pt_i (to_F (pt_F (fw_M M t n B) 3 0 t)))) (fw_M M t n B) ∧ pt_Cal YX0_codeOf (.invokestatic 35) [pt_r 12 t, pt_r 13 t, pt_i (to_F (pt_F (fw_M M t n B) 3 0 t))] (fw_M M t n B) (some (pt_i (cq_F (pt_A (fw_M M t n B) 12 t) (pt_A (fw_M M t n B) 13 t) N))) (fw_M M t n B) ∧ (¬ 0 < (cq_F (pt_A (fw_M M t n B) 12 t) (pt_A (fw_M M t n B) 13 t) N)) ∧ (¬ (1 : Int32) = (0 : Int32)) ∧ (t < 7) ∧ True) (by with_unfolding_all rfl) ⟨(pt_callV (i := 0) kX0_codeOf_15 mX0_findFirstRows rfl (by decide) rfl (dX0_findFirstRows h1)), h2, h2, h2, (pt_callN (h := "PointTables") (idx := 31) (fun _ z => z.1) kX0_codeOf_31 mX6_turnsOf rfl (dX6_turnsOf (pt_F (fw_M M t n B) 3 0 t) (fw_M M t n B))), (pt_callS kX0_codeOf_35 mX0_compareRows rfl (dX0_cmp_A h2 h3)), h4, (by decide), h2, trivial⟩
set_option maxRecDepth 100000 in
theorem gX0_codeOf_0_2 (t : Nat) (n N : Nat) (B : Nat → Nat → Nat → Bool) (M : pt_M) (h1 : fr_H M t n B) (h2 : t < 7) (h3 : cn_P (to_F (pt_F (fw_M M t n B) 3 0 t)) N) (h4 : 0 < (cq_F (pt_A (fw_M M t n B) 12 t) (pt_A (fw_M M t n B) 13 t) N)) :
    pt_Go YX0_codeOf (0, [(0, pt_r 5 0), (1, pt_r 3 t)], [], M)
      (47, [(0, pt_r 5 0), (1, pt_r 3 t), (2, pt_i 0)], [pt_r 13 t], (fw_M M t n B)) :=
  pt_run_ok tX0_codeOf_ok 18 [.inr (2, none, (fw_M M t n B)), .inr (1, some (pt_i (to_F (pt_F (fw_M M t n B) 3 0 t))), (fw_M M t n B)), .inr (3, some (pt_i (cq_F (pt_A (fw_M M t n B) 12 t) (pt_A (fw_M M t n B) 13 t) N)), (fw_M M t n B)), .inl true, .inl true] (P := pt_Cal YX0_codeOf (.invokevirtual 15) [pt_r 5 0, pt_r 3 t] M none (fw_M M t n B) ∧ (t < 7) ∧ (t < 7) ∧ (t < 7) ∧ pt_Cal YX0_codeOf (.invokestatic 31) [pt_i (pt_F (fw_M M t n B) 3 0 t)] (fw_M M t n B) (some (pt_i (to_F (pt_F (fw_M M t n B) 3 0 t)))) (fw_M M t n B) ∧ pt_Cal YX0_codeOf (.invokestatic 35) [pt_r 12 t, pt_r 13 t, pt_i (to_F (pt_F (fw_M M t n B) 3 0 t))] (fw_M M t n B) (some (pt_i (cq_F (pt_A (fw_M M t n B) 12 t) (pt_A (fw_M M t n B) 13 t) N))) (fw_M M t n B) ∧ (0 < (cq_F (pt_A (fw_M M t n B) 12 t) (pt_A (fw_M M t n B) 13 t) N)) ∧ ((0 : Int32) = (0 : Int32)) ∧ (t < 7) ∧ True) (by with_unfolding_all rfl) ⟨(pt_callV (i := 0) kX0_codeOf_15 mX0_findFirstRows rfl (by decide) rfl (dX0_findFirstRows h1)), h2, h2, h2, (pt_callN (h := "PointTables") (idx := 31) (fun _ z => z.1) kX0_codeOf_31 mX6_turnsOf rfl (dX6_turnsOf (pt_F (fw_M M t n B) 3 0 t) (fw_M M t n B))), (pt_callS kX0_codeOf_35 mX0_compareRows rfl (dX0_cmp_A h2 h3)), h4, (by decide), h2, trivial⟩
theorem fw_ke {M : pt_M} {t n : Nat} {B : Nat → Nat → Nat → Bool} (hn : n ≤ 10) : (∀ k f i, ¬ (k = 3 ∧ f = 3) → pt_F (fw_M M t n B) k f i = pt_F M k f i) ∧ (∀ k i, k ≠ 12 → k ≠ 13 → k ≠ 15 → pt_A (fw_M M t n B) k i = pt_A M k i) ∧ ((∀ i, i < 10 → pt_in (pt_A M 15 0 i) 10) → ∀ i, i < 10 → pt_in (pt_A (fw_M M t n B) 15 0 i) 10) ∧ (fw_M M t n B).2.2 = M.2.2 := by
  have hk1 : ke_P M (fr_M M 12 t n B false n) := fr_ke (by decide) hn n (Nat.le_refl n)
  have hk2 : ke_P M (fr_M (fr_M M 12 t n B false n) 13 t n B true n) := hk1.tr (fr_ke (by decide) hn n (Nat.le_refl n))
  unfold fw_M
  split
  · refine ⟨fun k f i h => ?_, hk2.2.1, hk2.2.2.1, hk2.2.2.2⟩
    rw [pt_F_wF, if_neg (fun z => h ⟨z.1, z.2.1⟩), hk2.1]
  · exact ⟨fun _ _ _ _ => rfl, fun _ _ _ _ _ => rfl, fun h => h, rfl⟩
theorem dX0_codeOf_own {t n : Nat} {B : Nat → Nat → Nat → Bool} {M : pt_M} (h : fr_H M t n B) (hc : ¬ 0 < cq_F (pt_A (fw_M M t n B) 12 t) (pt_A (fw_M M t n B) 13 t) (rk_0 n n)) : pt_Does yX0_codeOf YX0_codeOf [pt_r 5 0, pt_r 3 t] M (some (pt_r 12 t)) (fw_M M t n B) := by
  have hk := fw_ke (M := M) (t := t) (B := B) h.1.2.1
  have hs : pt_F (fw_M M t n B) 3 0 t = nI n := by rw [hk.1 3 0 t (by decide)]; exact h.1.2.2.1
  exact rX0_codeOf_47 (Nat.le_of_ble_eq_true rfl) (by rw [hk.2.2.2]) (gX0_codeOf_0_1 t n (rk_0 n n) B M h h.1.1 (by rw [hs]; exact to_nI h.1.2.1) hc)
theorem dX0_codeOf_mir {t n : Nat} {B : Nat → Nat → Nat → Bool} {M : pt_M} (h : fr_H M t n B) (hc : 0 < cq_F (pt_A (fw_M M t n B) 12 t) (pt_A (fw_M M t n B) 13 t) (rk_0 n n)) : pt_Does yX0_codeOf YX0_codeOf [pt_r 5 0, pt_r 3 t] M (some (pt_r 13 t)) (fw_M M t n B) := by
  have hk := fw_ke (M := M) (t := t) (B := B) h.1.2.1
  have hs : pt_F (fw_M M t n B) 3 0 t = nI n := by rw [hk.1 3 0 t (by decide)]; exact h.1.2.2.1
  exact rX0_codeOf_47 (Nat.le_of_ble_eq_true rfl) (by rw [hk.2.2.2]) (gX0_codeOf_0_2 t n (rk_0 n n) B M h h.1.1 (by rw [hs]; exact to_nI h.1.2.1) hc)
/-! a row as a number -/
def bt_F (f : Nat → Int32) : Nat → Nat
  | 0 => 0
  | p + 1 => if f p = 2 then bt_F f p * 2 ^ 1 ||| 1 else bt_F f p * 2 ^ 1
theorem bt_lt (f : Nat → Int32) : ∀ p, bt_F f p < 2 ^ p
  | 0 => Nat.one_pos
  | p + 1 => by
    have ih := bt_lt f p
    have h1 : bt_F f p * 2 ^ 1 < 2 ^ (p + 1) := by rw [Nat.pow_succ]; omega
    show (if f p = 2 then bt_F f p * 2 ^ 1 ||| 1 else bt_F f p * 2 ^ 1) < _
    split
    · exact Nat.or_lt_two_pow h1 (Nat.one_lt_two_pow (by omega))
    · exact h1
theorem rX0_bitsOf_39 {vs : List pt_V} {M M' : pt_M} {x : Int32} {L : List (Nat × pt_V)} (hvs : (vs.map pt_w).sum ≤ 4) (hX : M'.2.2.2.2 = M.2.2.2.2) (h : pt_Go YX0_bitsOf (0, pt_en 0 vs, [], M) (39, L, [pt_i x], M')) : pt_Does yX0_bitsOf YX0_bitsOf vs M (some (pt_i x)) M' := pt_does_go tX0_bitsOf_ok nX0_bitsOf hvs hX ⟨_, by with_unfolding_all rfl, rfl, _, rfl, rfl⟩ h
set_option maxRecDepth 100000 in
theorem gX0_bitsOf12_0_1 (t : Nat) (x : Int32)  (M : pt_M) :
    pt_Go YX0_bitsOf (0, [(0, pt_r 12 t), (1, pt_i x)], [], M)
      (4, [(0, pt_r 12 t), (1, pt_i x), (2, pt_i 0), (3, pt_i 0)], [], M) :=
  pt_run_ok tX0_bitsOf_ok 4 [] (P := True) (by with_unfolding_all rfl) trivial
set_option maxRecDepth 100000 in
theorem gX0_bitsOf12_4_1 (t : Nat) (l1 : Int32) (l2 : Int32) (l3 : Int32)  (M : pt_M) (h1 : ¬ l1 ≤ l3) (h2 : t < 7) (h3 : ¬ (nI 120) ≤ l3) (h4 : pt_in l3 120) (h5 : (pt_A M 12 t (pt_nt l3)) = 2) :
    pt_Go YX0_bitsOf (4, [(0, pt_r 12 t), (1, pt_i l1), (2, pt_i l2), (3, pt_i l3)], [], M)
      (4, [(0, pt_r 12 t), (1, pt_i l1), (2, pt_i ((l2 <<< ((1 : Int32) &&& 31)) ||| 1)), (3, pt_i (l3 + 1))], [], M) :=
  pt_run_ok tX0_bitsOf_ok 21 [.inl false, .inl false, .inl false] (P := (¬ l1 ≤ l3) ∧ (t < 7) ∧ (¬ (nI 120) ≤ l3) ∧ ((pt_in l3 120) ∧ (t < 7)) ∧ ((pt_A M 12 t (pt_nt l3)) = 2) ∧ True) (by with_unfolding_all rfl) ⟨h1, h2, h3, ⟨h4, h2⟩, h5, trivial⟩
set_option maxRecDepth 100000 in
theorem gX0_bitsOf12_4_2 (t : Nat) (l1 : Int32) (l2 : Int32) (l3 : Int32)  (M : pt_M) (h1 : ¬ l1 ≤ l3) (h2 : t < 7) (h3 : ¬ (nI 120) ≤ l3) (h4 : pt_in l3 120) (h5 : ¬ (pt_A M 12 t (pt_nt l3)) = 2) :
    pt_Go YX0_bitsOf (4, [(0, pt_r 12 t), (1, pt_i l1), (2, pt_i l2), (3, pt_i l3)], [], M)
      (4, [(0, pt_r 12 t), (1, pt_i l1), (2, pt_i ((l2 <<< ((1 : Int32) &&& 31)) ||| 0)), (3, pt_i (l3 + 1))], [], M) :=
  pt_run_ok tX0_bitsOf_ok 20 [.inl false, .inl false, .inl true] (P := (¬ l1 ≤ l3) ∧ (t < 7) ∧ (¬ (nI 120) ≤ l3) ∧ ((pt_in l3 120) ∧ (t < 7)) ∧ (¬ (pt_A M 12 t (pt_nt l3)) = 2) ∧ True) (by with_unfolding_all rfl) ⟨h1, h2, h3, ⟨h4, h2⟩, h5, trivial⟩
set_option maxRecDepth 100000 in
theorem gX0_bitsOf12_4_3 (t : Nat) (l1 : Int32) (l2 : Int32) (l3 : Int32)  (M : pt_M) (h1 : ¬ l1 ≤ l3) (h2 : t < 7) (h3 : (nI 120) ≤ l3) :
    pt_Go YX0_bitsOf (4, [(0, pt_r 12 t), (1, pt_i l1), (2, pt_i l2), (3, pt_i l3)], [], M)
      (39, [(0, pt_r 12 t), (1, pt_i l1), (2, pt_i l2), (3, pt_i l3)], [pt_i l2], M) :=
  pt_run_ok tX0_bitsOf_ok 8 [.inl false, .inl true] (P := (¬ l1 ≤ l3) ∧ (t < 7) ∧ ((nI 120) ≤ l3) ∧ True) (by with_unfolding_all rfl) ⟨h1, h2, h3, trivial⟩
set_option maxRecDepth 100000 in
theorem gX0_bitsOf12_4_4 (t : Nat) (l1 : Int32) (l2 : Int32) (l3 : Int32)  (M : pt_M) (h1 : l1 ≤ l3) :
    pt_Go YX0_bitsOf (4, [(0, pt_r 12 t), (1, pt_i l1), (2, pt_i l2), (3, pt_i l3)], [], M)
      (39, [(0, pt_r 12 t), (1, pt_i l1), (2, pt_i l2), (3, pt_i l3)], [pt_i l2], M) :=
  pt_run_ok tX0_bitsOf_ok 4 [.inl true] (P := (l1 ≤ l3) ∧ True) (by with_unfolding_all rfl) ⟨h1, trivial⟩
theorem dX0_bitsOf_12 {t N : Nat} {M : pt_M} (ht : t < 7) (hN : N ≤ 20) : pt_Does yX0_bitsOf YX0_bitsOf [pt_r 12 t, pt_i (nI N)] M (some (pt_i (nI (bt_F (pt_A M 12 t) N)))) M := by
  have K := pt_for0 (Y := YX0_bitsOf) (fun p => (4, [(0, pt_r 12 t), (1, pt_i (nI N)), (2, pt_i (nI (bt_F (pt_A M 12 t) p))), (3, pt_i (nI p))], [], M)) (n := N) fun p hp => by
    have e : pt_nt (nI p) = p := pt_nt_nI (by omega)
    have hb := bt_lt (pt_A M 12 t) p
    have h2 : 2 ^ p ≤ 2 ^ 20 := Nat.pow_le_pow_right (by decide) (by omega)
    have h3 : nI (bt_F (pt_A M 12 t) p) <<< ((1 : Int32) &&& 31) = nI (bt_F (pt_A M 12 t) p * 2 ^ 1) := pt_shl _ 1 (by decide) (by omega)
    by_cases hv : pt_A M 12 t p = 2
    · refine (gX0_bitsOf12_4_1 t (nI N) (nI (bt_F (pt_A M 12 t) p)) (nI p) M (nI_ge hp (by omega)) ht (nI_ge (by omega) (by decide)) (pt_in_nI (by omega) (by decide)) (by rw [e]; exact hv)).to ?_
      have h4 : bt_F (pt_A M 12 t) (p + 1) = bt_F (pt_A M 12 t) p * 2 ^ 1 ||| 1 := by
        show (if _ then _ else _) = _
        rw [if_pos hv]
      rw [h3, show (1 : Int32) = nI 1 from rfl, pt_or, nI_add, h4]
    · refine (gX0_bitsOf12_4_2 t (nI N) (nI (bt_F (pt_A M 12 t) p)) (nI p) M (nI_ge hp (by omega)) ht (nI_ge (by omega) (by decide)) (pt_in_nI (by omega) (by decide)) (by rw [e]; exact hv)).to ?_
      have h4 : bt_F (pt_A M 12 t) (p + 1) = bt_F (pt_A M 12 t) p * 2 ^ 1 := by
        show (if _ then _ else _) = _
        rw [if_neg hv]
      rw [h3, show (0 : Int32) = nI 0 from rfl, pt_or, Nat.or_zero, nI_1, h4]
  exact rX0_bitsOf_39 (Nat.le_of_ble_eq_true rfl) rfl ((gX0_bitsOf12_0_1 t (nI N) M).tr (K.tr (gX0_bitsOf12_4_4 t (nI N) _ (nI N) M (Int32.le_refl _))))
set_option maxRecDepth 100000 in
theorem gX0_bitsOf13_0_1 (t : Nat) (x : Int32)  (M : pt_M) :
    pt_Go YX0_bitsOf (0, [(0, pt_r 13 t), (1, pt_i x)], [], M)
      (4, [(0, pt_r 13 t), (1, pt_i x), (2, pt_i 0), (3, pt_i 0)], [], M) :=
  pt_run_ok tX0_bitsOf_ok 4 [] (P := True) (by with_unfolding_all rfl) trivial
set_option maxRecDepth 100000 in
theorem gX0_bitsOf13_4_1 (t : Nat) (l1 : Int32) (l2 : Int32) (l3 : Int32)  (M : pt_M) (h1 : ¬ l1 ≤ l3) (h2 : t < 7) (h3 : ¬ (nI 120) ≤ l3) (h4 : pt_in l3 120) (h5 : (pt_A M 13 t (pt_nt l3)) = 2) :
    pt_Go YX0_bitsOf (4, [(0, pt_r 13 t), (1, pt_i l1), (2, pt_i l2), (3, pt_i l3)], [], M)
      (4, [(0, pt_r 13 t), (1, pt_i l1), (2, pt_i ((l2 <<< ((1 : Int32) &&& 31)) ||| 1)), (3, pt_i (l3 + 1))], [], M) :=
  pt_run_ok tX0_bitsOf_ok 21 [.inl false, .inl false, .inl false] (P := (¬ l1 ≤ l3) ∧ (t < 7) ∧ (¬ (nI 120) ≤ l3) ∧ ((pt_in l3 120) ∧ (t < 7)) ∧ ((pt_A M 13 t (pt_nt l3)) = 2) ∧ True) (by with_unfolding_all rfl) ⟨h1, h2, h3, ⟨h4, h2⟩, h5, trivial⟩
set_option maxRecDepth 100000 in
theorem gX0_bitsOf13_4_2 (t : Nat) (l1 : Int32) (l2 : Int32) (l3 : Int32)  (M : pt_M) (h1 : ¬ l1 ≤ l3) (h2 : t < 7) (h3 : ¬ (nI 120) ≤ l3) (h4 : pt_in l3 120) (h5 : ¬ (pt_A M 13 t (pt_nt l3)) = 2) :
    pt_Go YX0_bitsOf (4, [(0, pt_r 13 t), (1, pt_i l1), (2, pt_i l2), (3, pt_i l3)], [], M)
      (4, [(0, pt_r 13 t), (1, pt_i l1), (2, pt_i ((l2 <<< ((1 : Int32) &&& 31)) ||| 0)), (3, pt_i (l3 + 1))], [], M) :=
  pt_run_ok tX0_bitsOf_ok 20 [.inl false, .inl false, .inl true] (P := (¬ l1 ≤ l3) ∧ (t < 7) ∧ (¬ (nI 120) ≤ l3) ∧ ((pt_in l3 120) ∧ (t < 7)) ∧ (¬ (pt_A M 13 t (pt_nt l3)) = 2) ∧ True) (by with_unfolding_all rfl) ⟨h1, h2, h3, ⟨h4, h2⟩, h5, trivial⟩
set_option maxRecDepth 100000 in
theorem gX0_bitsOf13_4_3 (t : Nat) (l1 : Int32) (l2 : Int32) (l3 : Int32)  (M : pt_M) (h1 : ¬ l1 ≤ l3) (h2 : t < 7) (h3 : (nI 120) ≤ l3) :
    pt_Go YX0_bitsOf (4, [(0, pt_r 13 t), (1, pt_i l1), (2, pt_i l2), (3, pt_i l3)], [], M)
      (39, [(0, pt_r 13 t), (1, pt_i l1), (2, pt_i l2), (3, pt_i l3)], [pt_i l2], M) :=
  pt_run_ok tX0_bitsOf_ok 8 [.inl false, .inl true] (P := (¬ l1 ≤ l3) ∧ (t < 7) ∧ ((nI 120) ≤ l3) ∧ True) (by with_unfolding_all rfl) ⟨h1, h2, h3, trivial⟩
set_option maxRecDepth 100000 in
theorem gX0_bitsOf13_4_4 (t : Nat) (l1 : Int32) (l2 : Int32) (l3 : Int32)  (M : pt_M) (h1 : l1 ≤ l3) :
    pt_Go YX0_bitsOf (4, [(0, pt_r 13 t), (1, pt_i l1), (2, pt_i l2), (3, pt_i l3)], [], M)
      (39, [(0, pt_r 13 t), (1, pt_i l1), (2, pt_i l2), (3, pt_i l3)], [pt_i l2], M) :=
  pt_run_ok tX0_bitsOf_ok 4 [.inl true] (P := (l1 ≤ l3) ∧ True) (by with_unfolding_all rfl) ⟨h1, trivial⟩
theorem dX0_bitsOf_13 {t N : Nat} {M : pt_M} (ht : t < 7) (hN : N ≤ 20) : pt_Does yX0_bitsOf YX0_bitsOf [pt_r 13 t, pt_i (nI N)] M (some (pt_i (nI (bt_F (pt_A M 13 t) N)))) M := by
  have K := pt_for0 (Y := YX0_bitsOf) (fun p => (4, [(0, pt_r 13 t), (1, pt_i (nI N)), (2, pt_i (nI (bt_F (pt_A M 13 t) p))), (3, pt_i (nI p))], [], M)) (n := N) fun p hp => by
    have e : pt_nt (nI p) = p := pt_nt_nI (by omega)
    have hb := bt_lt (pt_A M 13 t) p
    have h2 : 2 ^ p ≤ 2 ^ 20 := Nat.pow_le_pow_right (by decide) (by omega)
    have h3 : nI (bt_F (pt_A M 13 t) p) <<< ((1 : Int32) &&& 31) = nI (bt_F (pt_A M 13 t) p * 2 ^ 1) := pt_shl _ 1 (by decide) (by omega)
    by_cases hv : pt_A M 13 t p = 2
    · refine (gX0_bitsOf13_4_1 t (nI N) (nI (bt_F (pt_A M 13 t) p)) (nI p) M (nI_ge hp (by omega)) ht (nI_ge (by omega) (by decide)) (pt_in_nI (by omega) (by decide)) (by rw [e]; exact hv)).to ?_
      have h4 : bt_F (pt_A M 13 t) (p + 1) = bt_F (pt_A M 13 t) p * 2 ^ 1 ||| 1 := by
        show (if _ then _ else _) = _
        rw [if_pos hv]
      rw [h3, show (1 : Int32) = nI 1 from rfl, pt_or, nI_add, h4]
    · refine (gX0_bitsOf13_4_2 t (nI N) (nI (bt_F (pt_A M 13 t) p)) (nI p) M (nI_ge hp (by omega)) ht (nI_ge (by omega) (by decide)) (pt_in_nI (by omega) (by decide)) (by rw [e]; exact hv)).to ?_
      have h4 : bt_F (pt_A M 13 t) (p + 1) = bt_F (pt_A M 13 t) p * 2 ^ 1 := by
        show (if _ then _ else _) = _
        rw [if_neg hv]
      rw [h3, show (0 : Int32) = nI 0 from rfl, pt_or, Nat.or_zero, nI_1, h4]
  exact rX0_bitsOf_39 (Nat.le_of_ble_eq_true rfl) rfl ((gX0_bitsOf13_0_1 t (nI N) M).tr (K.tr (gX0_bitsOf13_4_4 t (nI N) _ (nI N) M (Int32.le_refl _))))
