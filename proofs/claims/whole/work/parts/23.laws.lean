/-! Laws: FOUR and FIVE -/
def lb_F (M : pt_M) (t : Nat) (i j k : Int32) : Int32 := if (((pt_A M 11 t (pt_nt ((i * 10) + j))) >>> (k &&& 31)) &&& 1) = 1 then 1 else 0
theorem p10_ix {x y : Int32} (hx : pt_in x 10) (hy : pt_in y 10) : pt_in (ix_F x y) 100 := by
  obtain ⟨i, hi, rfl⟩ := vp_in_of (pt_in_vp hx) (by decide)
  obtain ⟨j, hj, rfl⟩ := vp_in_of (pt_in_vp hy) (by decide)
  exact ix_in hi hj
theorem dX4_isLeft_v {t : Nat} {i j k : Int32} {M : pt_M} (ht : t < 7) (hi : pt_in i 10) (hj : pt_in j 10) : pt_Does yX4_isLeft YX4_isLeft [pt_r 3 t, pt_i i, pt_i j, pt_i k] M (some (pt_i (lb_F M t i j k))) M := by
  unfold lb_F
  by_cases h : (((pt_A M 11 t (pt_nt ((i * 10) + j))) >>> (k &&& 31)) &&& 1) = 1
  · rw [if_pos h]
    exact dX4_isLeft_1 ht (p10_ix hi hj) h
  · rw [if_neg h]
    exact dX4_isLeft_0 ht (p10_ix hi hj) h
theorem dX4_leftOf_v {t : Nat} {i j : Int32} {M : pt_M} (ht : t < 7) (hi : pt_in i 10) (hj : pt_in j 10) : pt_Does yX4_leftOf YX4_leftOf [pt_r 3 t, pt_i i, pt_i j] M (some (pt_i (lo_F M t i j))) M := dX4_leftOf ht (p10_ix hi hj)
theorem lb_B {M : pt_M} {u a c d : Nat} {B : Nat → Nat → Nat → Bool} (hB : ct_B M u B) (ha : a < 10) (hc : c < 10) (hd : d < 10) : lb_F M u (nI a) (nI c) (nI d) = pt_b (B a c d) := by
  have h := lf_B hB ha hc hd
  unfold lf_P at h
  unfold lb_F
  cases hb : B a c d
  · rw [if_neg (fun z => by rw [hb] at h; cases h.mp z)]
    rfl
  · rw [if_pos (h.mpr hb)]
    rfl
theorem pt_b_eq (a b : Bool) : pt_b a = pt_b b ↔ a = b := by cases a <;> cases b <;> decide
def bf_P (M : pt_M) (t : Nat) (a b c d : Int32) : Prop := ¬ (lb_F M t a b d) = (lb_F M t a b c) ∧ (lb_F M t a c d) = (lb_F M t a b c) ∧ ¬ (lb_F M t b c d) = (lb_F M t a b c)
def os_P (M : pt_M) (t : Nat) (a b c d e : Int32) : Prop := ((lb_F M t a b c) = (lb_F M t a d e) ↔ ¬ (lb_F M t a b d) = (lb_F M t a c e)) ∧ ((lb_F M t a b c) = (lb_F M t a d e) ↔ (lb_F M t a b e) = (lb_F M t a c d))
def bv_P (M : pt_M) (t : Nat) (a b c d e : Int32) : Prop := os_P M t a b c d e ∨ os_P M t b a c d e ∨ os_P M t c a b d e ∨ os_P M t d a b c e ∨ os_P M t e a b c d
theorem rX1_breaksFour_53 {vs : List pt_V} {M M' : pt_M} {x : Int32} {L : List (Nat × pt_V)} (hn : narrow .boolean (.int x) = .int x) (hvs : (vs.map pt_w).sum ≤ 6) (hX : M'.2.2.2.2 = M.2.2.2.2) (h : pt_Go YX1_breaksFour (0, pt_en 0 vs, [], M) (53, L, [pt_i x], M')) : pt_Does yX1_breaksFour YX1_breaksFour vs M (some (pt_i x)) M' := pt_does_go tX1_breaksFour_ok nX1_breaksFour hvs hX ⟨_, by with_unfolding_all rfl, rfl, _, rfl, hn⟩ h
set_option maxRecDepth 100000 in
theorem gX1_breaksFour_0_1 (t : Nat) (x2 : Int32) (x3 : Int32) (x4 : Int32) (x5 : Int32)  (M : pt_M) (h1 : t < 7) (h2 : pt_in x2 10) (h3 : pt_in x3 10) (h4 : ¬ (lb_F M t x2 x3 x5) = (lb_F M t x2 x3 x4)) (h5 : pt_in x4 10) (h6 : (lb_F M t x2 x4 x5) = (lb_F M t x2 x3 x4)) (h7 : ¬ (lb_F M t x3 x4 x5) = (lb_F M t x2 x3 x4)) :
    pt_Go YX1_breaksFour (0, [(0, pt_r 3 t), (1, pt_i x2), (2, pt_i x3), (3, pt_i x4), (4, pt_i x5)], [], M)
      (53, [(0, pt_r 3 t), (1, pt_i x2), (2, pt_i x3), (3, pt_i x4), (4, pt_i x5), (5, pt_i (lb_F M t x2 x3 x4))], [pt_i 1], M) :=
  pt_run_ok tX1_breaksFour_ok 29 [.inr (4, some (pt_i (lb_F M t x2 x3 x4)), M), .inr (4, some (pt_i (lb_F M t x2 x3 x5)), M), .inl false, .inr (4, some (pt_i (lb_F M t x2 x4 x5)), M), .inl false, .inr (4, some (pt_i (lb_F M t x3 x4 x5)), M), .inl false] (P := pt_Cal YX1_breaksFour (.invokevirtual 29) [pt_r 3 t, pt_i x2, pt_i x3, pt_i x4] M (some (pt_i (lb_F M t x2 x3 x4))) M ∧ pt_Cal YX1_breaksFour (.invokevirtual 29) [pt_r 3 t, pt_i x2, pt_i x3, pt_i x5] M (some (pt_i (lb_F M t x2 x3 x5))) M ∧ (¬ (lb_F M t x2 x3 x5) = (lb_F M t x2 x3 x4)) ∧ pt_Cal YX1_breaksFour (.invokevirtual 29) [pt_r 3 t, pt_i x2, pt_i x4, pt_i x5] M (some (pt_i (lb_F M t x2 x4 x5))) M ∧ ((lb_F M t x2 x4 x5) = (lb_F M t x2 x3 x4)) ∧ pt_Cal YX1_breaksFour (.invokevirtual 29) [pt_r 3 t, pt_i x3, pt_i x4, pt_i x5] M (some (pt_i (lb_F M t x3 x4 x5))) M ∧ (¬ (lb_F M t x3 x4 x5) = (lb_F M t x2 x3 x4)) ∧ True) (by with_unfolding_all rfl) ⟨(pt_callV (i := t) kX1_breaksFour_29 mX4_isLeft rfl h1 rfl (dX4_isLeft_v h1 h2 h3)), (pt_callV (i := t) kX1_breaksFour_29 mX4_isLeft rfl h1 rfl (dX4_isLeft_v h1 h2 h3)), h4, (pt_callV (i := t) kX1_breaksFour_29 mX4_isLeft rfl h1 rfl (dX4_isLeft_v h1 h2 h5)), h6, (pt_callV (i := t) kX1_breaksFour_29 mX4_isLeft rfl h1 rfl (dX4_isLeft_v h1 h3 h5)), h7, trivial⟩
set_option maxRecDepth 100000 in
theorem gX1_breaksFour_0_2 (t : Nat) (x2 : Int32) (x3 : Int32) (x4 : Int32) (x5 : Int32)  (M : pt_M) (h1 : t < 7) (h2 : pt_in x2 10) (h3 : pt_in x3 10) (h4 : ¬ (lb_F M t x2 x3 x5) = (lb_F M t x2 x3 x4)) (h5 : pt_in x4 10) (h6 : (lb_F M t x2 x4 x5) = (lb_F M t x2 x3 x4)) (h7 : (lb_F M t x3 x4 x5) = (lb_F M t x2 x3 x4)) :
    pt_Go YX1_breaksFour (0, [(0, pt_r 3 t), (1, pt_i x2), (2, pt_i x3), (3, pt_i x4), (4, pt_i x5)], [], M)
      (53, [(0, pt_r 3 t), (1, pt_i x2), (2, pt_i x3), (3, pt_i x4), (4, pt_i x5), (5, pt_i (lb_F M t x2 x3 x4))], [pt_i 0], M) :=
  pt_run_ok tX1_breaksFour_ok 28 [.inr (4, some (pt_i (lb_F M t x2 x3 x4)), M), .inr (4, some (pt_i (lb_F M t x2 x3 x5)), M), .inl false, .inr (4, some (pt_i (lb_F M t x2 x4 x5)), M), .inl false, .inr (4, some (pt_i (lb_F M t x3 x4 x5)), M), .inl true] (P := pt_Cal YX1_breaksFour (.invokevirtual 29) [pt_r 3 t, pt_i x2, pt_i x3, pt_i x4] M (some (pt_i (lb_F M t x2 x3 x4))) M ∧ pt_Cal YX1_breaksFour (.invokevirtual 29) [pt_r 3 t, pt_i x2, pt_i x3, pt_i x5] M (some (pt_i (lb_F M t x2 x3 x5))) M ∧ (¬ (lb_F M t x2 x3 x5) = (lb_F M t x2 x3 x4)) ∧ pt_Cal YX1_breaksFour (.invokevirtual 29) [pt_r 3 t, pt_i x2, pt_i x4, pt_i x5] M (some (pt_i (lb_F M t x2 x4 x5))) M ∧ ((lb_F M t x2 x4 x5) = (lb_F M t x2 x3 x4)) ∧ pt_Cal YX1_breaksFour (.invokevirtual 29) [pt_r 3 t, pt_i x3, pt_i x4, pt_i x5] M (some (pt_i (lb_F M t x3 x4 x5))) M ∧ ((lb_F M t x3 x4 x5) = (lb_F M t x2 x3 x4)) ∧ True) (by with_unfolding_all rfl) ⟨(pt_callV (i := t) kX1_breaksFour_29 mX4_isLeft rfl h1 rfl (dX4_isLeft_v h1 h2 h3)), (pt_callV (i := t) kX1_breaksFour_29 mX4_isLeft rfl h1 rfl (dX4_isLeft_v h1 h2 h3)), h4, (pt_callV (i := t) kX1_breaksFour_29 mX4_isLeft rfl h1 rfl (dX4_isLeft_v h1 h2 h5)), h6, (pt_callV (i := t) kX1_breaksFour_29 mX4_isLeft rfl h1 rfl (dX4_isLeft_v h1 h3 h5)), h7, trivial⟩
set_option maxRecDepth 100000 in
theorem gX1_breaksFour_0_3 (t : Nat) (x2 : Int32) (x3 : Int32) (x4 : Int32) (x5 : Int32)  (M : pt_M) (h1 : t < 7) (h2 : pt_in x2 10) (h3 : pt_in x3 10) (h4 : ¬ (lb_F M t x2 x3 x5) = (lb_F M t x2 x3 x4)) (h5 : pt_in x4 10) (h6 : ¬ (lb_F M t x2 x4 x5) = (lb_F M t x2 x3 x4)) :
    pt_Go YX1_breaksFour (0, [(0, pt_r 3 t), (1, pt_i x2), (2, pt_i x3), (3, pt_i x4), (4, pt_i x5)], [], M)
      (53, [(0, pt_r 3 t), (1, pt_i x2), (2, pt_i x3), (3, pt_i x4), (4, pt_i x5), (5, pt_i (lb_F M t x2 x3 x4))], [pt_i 0], M) :=
  pt_run_ok tX1_breaksFour_ok 21 [.inr (4, some (pt_i (lb_F M t x2 x3 x4)), M), .inr (4, some (pt_i (lb_F M t x2 x3 x5)), M), .inl false, .inr (4, some (pt_i (lb_F M t x2 x4 x5)), M), .inl true] (P := pt_Cal YX1_breaksFour (.invokevirtual 29) [pt_r 3 t, pt_i x2, pt_i x3, pt_i x4] M (some (pt_i (lb_F M t x2 x3 x4))) M ∧ pt_Cal YX1_breaksFour (.invokevirtual 29) [pt_r 3 t, pt_i x2, pt_i x3, pt_i x5] M (some (pt_i (lb_F M t x2 x3 x5))) M ∧ (¬ (lb_F M t x2 x3 x5) = (lb_F M t x2 x3 x4)) ∧ pt_Cal YX1_breaksFour (.invokevirtual 29) [pt_r 3 t, pt_i x2, pt_i x4, pt_i x5] M (some (pt_i (lb_F M t x2 x4 x5))) M ∧ (¬ (lb_F M t x2 x4 x5) = (lb_F M t x2 x3 x4)) ∧ True) (by with_unfolding_all rfl) ⟨(pt_callV (i := t) kX1_breaksFour_29 mX4_isLeft rfl h1 rfl (dX4_isLeft_v h1 h2 h3)), (pt_callV (i := t) kX1_breaksFour_29 mX4_isLeft rfl h1 rfl (dX4_isLeft_v h1 h2 h3)), h4, (pt_callV (i := t) kX1_breaksFour_29 mX4_isLeft rfl h1 rfl (dX4_isLeft_v h1 h2 h5)), h6, trivial⟩
set_option maxRecDepth 100000 in
theorem gX1_breaksFour_0_4 (t : Nat) (x2 : Int32) (x3 : Int32) (x4 : Int32) (x5 : Int32)  (M : pt_M) (h1 : t < 7) (h2 : pt_in x2 10) (h3 : pt_in x3 10) (h4 : (lb_F M t x2 x3 x5) = (lb_F M t x2 x3 x4)) :
    pt_Go YX1_breaksFour (0, [(0, pt_r 3 t), (1, pt_i x2), (2, pt_i x3), (3, pt_i x4), (4, pt_i x5)], [], M)
      (53, [(0, pt_r 3 t), (1, pt_i x2), (2, pt_i x3), (3, pt_i x4), (4, pt_i x5), (5, pt_i (lb_F M t x2 x3 x4))], [pt_i 0], M) :=
  pt_run_ok tX1_breaksFour_ok 14 [.inr (4, some (pt_i (lb_F M t x2 x3 x4)), M), .inr (4, some (pt_i (lb_F M t x2 x3 x5)), M), .inl true] (P := pt_Cal YX1_breaksFour (.invokevirtual 29) [pt_r 3 t, pt_i x2, pt_i x3, pt_i x4] M (some (pt_i (lb_F M t x2 x3 x4))) M ∧ pt_Cal YX1_breaksFour (.invokevirtual 29) [pt_r 3 t, pt_i x2, pt_i x3, pt_i x5] M (some (pt_i (lb_F M t x2 x3 x5))) M ∧ ((lb_F M t x2 x3 x5) = (lb_F M t x2 x3 x4)) ∧ True) (by with_unfolding_all rfl) ⟨(pt_callV (i := t) kX1_breaksFour_29 mX4_isLeft rfl h1 rfl (dX4_isLeft_v h1 h2 h3)), (pt_callV (i := t) kX1_breaksFour_29 mX4_isLeft rfl h1 rfl (dX4_isLeft_v h1 h2 h3)), h4, trivial⟩
theorem dX1_breaksFour_1 {t : Nat} {a b c d : Int32} {M : pt_M} (ht : t < 7) (h1 : pt_in a 10) (h2 : pt_in b 10) (h3 : pt_in c 10) (h : bf_P M t a b c d) : pt_Does yX1_breaksFour YX1_breaksFour [pt_r 3 t, pt_i a, pt_i b, pt_i c, pt_i d] M (some (pt_i 1)) M :=
  rX1_breaksFour_53 rfl (Nat.le_of_ble_eq_true rfl) rfl (gX1_breaksFour_0_1 t a b c d M ht h1 h2 h.1 h3 h.2.1 h.2.2)
theorem dX1_breaksFour_0 {t : Nat} {a b c d : Int32} {M : pt_M} (ht : t < 7) (h1 : pt_in a 10) (h2 : pt_in b 10) (h3 : pt_in c 10) (h : ¬ bf_P M t a b c d) : pt_Does yX1_breaksFour YX1_breaksFour [pt_r 3 t, pt_i a, pt_i b, pt_i c, pt_i d] M (some (pt_i 0)) M := by
  by_cases k1 : (lb_F M t a b d) = (lb_F M t a b c)
  · exact rX1_breaksFour_53 rfl (Nat.le_of_ble_eq_true rfl) rfl (gX1_breaksFour_0_4 t a b c d M ht h1 h2 k1)
  · by_cases k2 : (lb_F M t a c d) = (lb_F M t a b c)
    · by_cases k3 : (lb_F M t b c d) = (lb_F M t a b c)
      · exact rX1_breaksFour_53 rfl (Nat.le_of_ble_eq_true rfl) rfl (gX1_breaksFour_0_2 t a b c d M ht h1 h2 k1 h3 k2 k3)
      · exact absurd ⟨k1, k2, k3⟩ h
    · exact rX1_breaksFour_53 rfl (Nat.le_of_ble_eq_true rfl) rfl (gX1_breaksFour_0_3 t a b c d M ht h1 h2 k1 h3 k2)
theorem rX1_isOneSided_93 {vs : List pt_V} {M M' : pt_M} {x : Int32} {L : List (Nat × pt_V)} (hn : narrow .boolean (.int x) = .int x) (hvs : (vs.map pt_w).sum ≤ 8) (hX : M'.2.2.2.2 = M.2.2.2.2) (h : pt_Go YX1_isOneSided (0, pt_en 0 vs, [], M) (93, L, [pt_i x], M')) : pt_Does yX1_isOneSided YX1_isOneSided vs M (some (pt_i x)) M' := pt_does_go tX1_isOneSided_ok nX1_isOneSided hvs hX ⟨_, by with_unfolding_all rfl, rfl, _, rfl, hn⟩ h
set_option maxRecDepth 100000 in
theorem gX1_isOneSided_0_1 (t : Nat) (x2 : Int32) (x3 : Int32) (x4 : Int32) (x5 : Int32) (x6 : Int32)  (M : pt_M) (h1 : t < 7) (h2 : pt_in x2 10) (h3 : pt_in x3 10) (h4 : pt_in x5 10) (h5 : (lb_F M t x2 x3 x4) = (lb_F M t x2 x5 x6)) (h6 : pt_in x4 10) (h7 : ¬ (lb_F M t x2 x3 x5) = (lb_F M t x2 x4 x6)) (h8 : (lb_F M t x2 x3 x6) = (lb_F M t x2 x4 x5)) :
    pt_Go YX1_isOneSided (0, [(0, pt_r 3 t), (1, pt_i x2), (2, pt_i x3), (3, pt_i x4), (4, pt_i x5), (5, pt_i x6)], [], M)
      (93, [(0, pt_r 3 t), (1, pt_i x2), (2, pt_i x3), (3, pt_i x4), (4, pt_i x5), (5, pt_i x6), (6, pt_i 1), (7, pt_i 1)], [pt_i 1], M) :=
  pt_run_ok tX1_isOneSided_ok 48 [.inr (4, some (pt_i (lb_F M t x2 x3 x4)), M), .inr (4, some (pt_i (lb_F M t x2 x5 x6)), M), .inl false, .inr (4, some (pt_i (lb_F M t x2 x3 x5)), M), .inr (4, some (pt_i (lb_F M t x2 x4 x6)), M), .inl false, .inl false, .inr (4, some (pt_i (lb_F M t x2 x3 x6)), M), .inr (4, some (pt_i (lb_F M t x2 x4 x5)), M), .inl false, .inl false] (P := pt_Cal YX1_isOneSided (.invokevirtual 29) [pt_r 3 t, pt_i x2, pt_i x3, pt_i x4] M (some (pt_i (lb_F M t x2 x3 x4))) M ∧ pt_Cal YX1_isOneSided (.invokevirtual 29) [pt_r 3 t, pt_i x2, pt_i x5, pt_i x6] M (some (pt_i (lb_F M t x2 x5 x6))) M ∧ ((lb_F M t x2 x3 x4) = (lb_F M t x2 x5 x6)) ∧ pt_Cal YX1_isOneSided (.invokevirtual 29) [pt_r 3 t, pt_i x2, pt_i x3, pt_i x5] M (some (pt_i (lb_F M t x2 x3 x5))) M ∧ pt_Cal YX1_isOneSided (.invokevirtual 29) [pt_r 3 t, pt_i x2, pt_i x4, pt_i x6] M (some (pt_i (lb_F M t x2 x4 x6))) M ∧ (¬ (lb_F M t x2 x3 x5) = (lb_F M t x2 x4 x6)) ∧ ((1 : Int32) = (1 : Int32)) ∧ pt_Cal YX1_isOneSided (.invokevirtual 29) [pt_r 3 t, pt_i x2, pt_i x3, pt_i x6] M (some (pt_i (lb_F M t x2 x3 x6))) M ∧ pt_Cal YX1_isOneSided (.invokevirtual 29) [pt_r 3 t, pt_i x2, pt_i x4, pt_i x5] M (some (pt_i (lb_F M t x2 x4 x5))) M ∧ ((lb_F M t x2 x3 x6) = (lb_F M t x2 x4 x5)) ∧ ((1 : Int32) = (1 : Int32)) ∧ True) (by with_unfolding_all rfl) ⟨(pt_callV (i := t) kX1_isOneSided_29 mX4_isLeft rfl h1 rfl (dX4_isLeft_v h1 h2 h3)), (pt_callV (i := t) kX1_isOneSided_29 mX4_isLeft rfl h1 rfl (dX4_isLeft_v h1 h2 h4)), h5, (pt_callV (i := t) kX1_isOneSided_29 mX4_isLeft rfl h1 rfl (dX4_isLeft_v h1 h2 h3)), (pt_callV (i := t) kX1_isOneSided_29 mX4_isLeft rfl h1 rfl (dX4_isLeft_v h1 h2 h6)), h7, (by decide), (pt_callV (i := t) kX1_isOneSided_29 mX4_isLeft rfl h1 rfl (dX4_isLeft_v h1 h2 h3)), (pt_callV (i := t) kX1_isOneSided_29 mX4_isLeft rfl h1 rfl (dX4_isLeft_v h1 h2 h6)), h8, (by decide), trivial⟩
set_option maxRecDepth 100000 in
theorem gX1_isOneSided_0_2 (t : Nat) (x2 : Int32) (x3 : Int32) (x4 : Int32) (x5 : Int32) (x6 : Int32)  (M : pt_M) (h1 : t < 7) (h2 : pt_in x2 10) (h3 : pt_in x3 10) (h4 : pt_in x5 10) (h5 : (lb_F M t x2 x3 x4) = (lb_F M t x2 x5 x6)) (h6 : pt_in x4 10) (h7 : ¬ (lb_F M t x2 x3 x5) = (lb_F M t x2 x4 x6)) (h8 : ¬ (lb_F M t x2 x3 x6) = (lb_F M t x2 x4 x5)) :
    pt_Go YX1_isOneSided (0, [(0, pt_r 3 t), (1, pt_i x2), (2, pt_i x3), (3, pt_i x4), (4, pt_i x5), (5, pt_i x6)], [], M)
      (93, [(0, pt_r 3 t), (1, pt_i x2), (2, pt_i x3), (3, pt_i x4), (4, pt_i x5), (5, pt_i x6), (6, pt_i 1), (7, pt_i 1)], [pt_i 0], M) :=
  pt_run_ok tX1_isOneSided_ok 46 [.inr (4, some (pt_i (lb_F M t x2 x3 x4)), M), .inr (4, some (pt_i (lb_F M t x2 x5 x6)), M), .inl false, .inr (4, some (pt_i (lb_F M t x2 x3 x5)), M), .inr (4, some (pt_i (lb_F M t x2 x4 x6)), M), .inl false, .inl false, .inr (4, some (pt_i (lb_F M t x2 x3 x6)), M), .inr (4, some (pt_i (lb_F M t x2 x4 x5)), M), .inl true, .inl true] (P := pt_Cal YX1_isOneSided (.invokevirtual 29) [pt_r 3 t, pt_i x2, pt_i x3, pt_i x4] M (some (pt_i (lb_F M t x2 x3 x4))) M ∧ pt_Cal YX1_isOneSided (.invokevirtual 29) [pt_r 3 t, pt_i x2, pt_i x5, pt_i x6] M (some (pt_i (lb_F M t x2 x5 x6))) M ∧ ((lb_F M t x2 x3 x4) = (lb_F M t x2 x5 x6)) ∧ pt_Cal YX1_isOneSided (.invokevirtual 29) [pt_r 3 t, pt_i x2, pt_i x3, pt_i x5] M (some (pt_i (lb_F M t x2 x3 x5))) M ∧ pt_Cal YX1_isOneSided (.invokevirtual 29) [pt_r 3 t, pt_i x2, pt_i x4, pt_i x6] M (some (pt_i (lb_F M t x2 x4 x6))) M ∧ (¬ (lb_F M t x2 x3 x5) = (lb_F M t x2 x4 x6)) ∧ ((1 : Int32) = (1 : Int32)) ∧ pt_Cal YX1_isOneSided (.invokevirtual 29) [pt_r 3 t, pt_i x2, pt_i x3, pt_i x6] M (some (pt_i (lb_F M t x2 x3 x6))) M ∧ pt_Cal YX1_isOneSided (.invokevirtual 29) [pt_r 3 t, pt_i x2, pt_i x4, pt_i x5] M (some (pt_i (lb_F M t x2 x4 x5))) M ∧ (¬ (lb_F M t x2 x3 x6) = (lb_F M t x2 x4 x5)) ∧ (¬ (1 : Int32) = (0 : Int32)) ∧ True) (by with_unfolding_all rfl) ⟨(pt_callV (i := t) kX1_isOneSided_29 mX4_isLeft rfl h1 rfl (dX4_isLeft_v h1 h2 h3)), (pt_callV (i := t) kX1_isOneSided_29 mX4_isLeft rfl h1 rfl (dX4_isLeft_v h1 h2 h4)), h5, (pt_callV (i := t) kX1_isOneSided_29 mX4_isLeft rfl h1 rfl (dX4_isLeft_v h1 h2 h3)), (pt_callV (i := t) kX1_isOneSided_29 mX4_isLeft rfl h1 rfl (dX4_isLeft_v h1 h2 h6)), h7, (by decide), (pt_callV (i := t) kX1_isOneSided_29 mX4_isLeft rfl h1 rfl (dX4_isLeft_v h1 h2 h3)), (pt_callV (i := t) kX1_isOneSided_29 mX4_isLeft rfl h1 rfl (dX4_isLeft_v h1 h2 h6)), h8, (by decide), trivial⟩
set_option maxRecDepth 100000 in
theorem gX1_isOneSided_0_3 (t : Nat) (x2 : Int32) (x3 : Int32) (x4 : Int32) (x5 : Int32) (x6 : Int32)  (M : pt_M) (h1 : t < 7) (h2 : pt_in x2 10) (h3 : pt_in x3 10) (h4 : pt_in x5 10) (h5 : (lb_F M t x2 x3 x4) = (lb_F M t x2 x5 x6)) (h6 : pt_in x4 10) (h7 : (lb_F M t x2 x3 x5) = (lb_F M t x2 x4 x6)) :
    pt_Go YX1_isOneSided (0, [(0, pt_r 3 t), (1, pt_i x2), (2, pt_i x3), (3, pt_i x4), (4, pt_i x5), (5, pt_i x6)], [], M)
      (93, [(0, pt_r 3 t), (1, pt_i x2), (2, pt_i x3), (3, pt_i x4), (4, pt_i x5), (5, pt_i x6), (6, pt_i 1), (7, pt_i 0)], [pt_i 0], M) :=
  pt_run_ok tX1_isOneSided_ok 31 [.inr (4, some (pt_i (lb_F M t x2 x3 x4)), M), .inr (4, some (pt_i (lb_F M t x2 x5 x6)), M), .inl false, .inr (4, some (pt_i (lb_F M t x2 x3 x5)), M), .inr (4, some (pt_i (lb_F M t x2 x4 x6)), M), .inl true, .inl true] (P := pt_Cal YX1_isOneSided (.invokevirtual 29) [pt_r 3 t, pt_i x2, pt_i x3, pt_i x4] M (some (pt_i (lb_F M t x2 x3 x4))) M ∧ pt_Cal YX1_isOneSided (.invokevirtual 29) [pt_r 3 t, pt_i x2, pt_i x5, pt_i x6] M (some (pt_i (lb_F M t x2 x5 x6))) M ∧ ((lb_F M t x2 x3 x4) = (lb_F M t x2 x5 x6)) ∧ pt_Cal YX1_isOneSided (.invokevirtual 29) [pt_r 3 t, pt_i x2, pt_i x3, pt_i x5] M (some (pt_i (lb_F M t x2 x3 x5))) M ∧ pt_Cal YX1_isOneSided (.invokevirtual 29) [pt_r 3 t, pt_i x2, pt_i x4, pt_i x6] M (some (pt_i (lb_F M t x2 x4 x6))) M ∧ ((lb_F M t x2 x3 x5) = (lb_F M t x2 x4 x6)) ∧ (¬ (1 : Int32) = (0 : Int32)) ∧ True) (by with_unfolding_all rfl) ⟨(pt_callV (i := t) kX1_isOneSided_29 mX4_isLeft rfl h1 rfl (dX4_isLeft_v h1 h2 h3)), (pt_callV (i := t) kX1_isOneSided_29 mX4_isLeft rfl h1 rfl (dX4_isLeft_v h1 h2 h4)), h5, (pt_callV (i := t) kX1_isOneSided_29 mX4_isLeft rfl h1 rfl (dX4_isLeft_v h1 h2 h3)), (pt_callV (i := t) kX1_isOneSided_29 mX4_isLeft rfl h1 rfl (dX4_isLeft_v h1 h2 h6)), h7, (by decide), trivial⟩
set_option maxRecDepth 100000 in
theorem gX1_isOneSided_0_4 (t : Nat) (x2 : Int32) (x3 : Int32) (x4 : Int32) (x5 : Int32) (x6 : Int32)  (M : pt_M) (h1 : t < 7) (h2 : pt_in x2 10) (h3 : pt_in x3 10) (h4 : pt_in x5 10) (h5 : ¬ (lb_F M t x2 x3 x4) = (lb_F M t x2 x5 x6)) (h6 : pt_in x4 10) (h7 : ¬ (lb_F M t x2 x3 x5) = (lb_F M t x2 x4 x6)) :
    pt_Go YX1_isOneSided (0, [(0, pt_r 3 t), (1, pt_i x2), (2, pt_i x3), (3, pt_i x4), (4, pt_i x5), (5, pt_i x6)], [], M)
      (93, [(0, pt_r 3 t), (1, pt_i x2), (2, pt_i x3), (3, pt_i x4), (4, pt_i x5), (5, pt_i x6), (6, pt_i 0), (7, pt_i 1)], [pt_i 0], M) :=
  pt_run_ok tX1_isOneSided_ok 31 [.inr (4, some (pt_i (lb_F M t x2 x3 x4)), M), .inr (4, some (pt_i (lb_F M t x2 x5 x6)), M), .inl true, .inr (4, some (pt_i (lb_F M t x2 x3 x5)), M), .inr (4, some (pt_i (lb_F M t x2 x4 x6)), M), .inl false, .inl true] (P := pt_Cal YX1_isOneSided (.invokevirtual 29) [pt_r 3 t, pt_i x2, pt_i x3, pt_i x4] M (some (pt_i (lb_F M t x2 x3 x4))) M ∧ pt_Cal YX1_isOneSided (.invokevirtual 29) [pt_r 3 t, pt_i x2, pt_i x5, pt_i x6] M (some (pt_i (lb_F M t x2 x5 x6))) M ∧ (¬ (lb_F M t x2 x3 x4) = (lb_F M t x2 x5 x6)) ∧ pt_Cal YX1_isOneSided (.invokevirtual 29) [pt_r 3 t, pt_i x2, pt_i x3, pt_i x5] M (some (pt_i (lb_F M t x2 x3 x5))) M ∧ pt_Cal YX1_isOneSided (.invokevirtual 29) [pt_r 3 t, pt_i x2, pt_i x4, pt_i x6] M (some (pt_i (lb_F M t x2 x4 x6))) M ∧ (¬ (lb_F M t x2 x3 x5) = (lb_F M t x2 x4 x6)) ∧ (¬ (0 : Int32) = (1 : Int32)) ∧ True) (by with_unfolding_all rfl) ⟨(pt_callV (i := t) kX1_isOneSided_29 mX4_isLeft rfl h1 rfl (dX4_isLeft_v h1 h2 h3)), (pt_callV (i := t) kX1_isOneSided_29 mX4_isLeft rfl h1 rfl (dX4_isLeft_v h1 h2 h4)), h5, (pt_callV (i := t) kX1_isOneSided_29 mX4_isLeft rfl h1 rfl (dX4_isLeft_v h1 h2 h3)), (pt_callV (i := t) kX1_isOneSided_29 mX4_isLeft rfl h1 rfl (dX4_isLeft_v h1 h2 h6)), h7, (by decide), trivial⟩
set_option maxRecDepth 100000 in
theorem gX1_isOneSided_0_5 (t : Nat) (x2 : Int32) (x3 : Int32) (x4 : Int32) (x5 : Int32) (x6 : Int32)  (M : pt_M) (h1 : t < 7) (h2 : pt_in x2 10) (h3 : pt_in x3 10) (h4 : pt_in x5 10) (h5 : ¬ (lb_F M t x2 x3 x4) = (lb_F M t x2 x5 x6)) (h6 : pt_in x4 10) (h7 : (lb_F M t x2 x3 x5) = (lb_F M t x2 x4 x6)) (h8 : (lb_F M t x2 x3 x6) = (lb_F M t x2 x4 x5)) :
    pt_Go YX1_isOneSided (0, [(0, pt_r 3 t), (1, pt_i x2), (2, pt_i x3), (3, pt_i x4), (4, pt_i x5), (5, pt_i x6)], [], M)
      (93, [(0, pt_r 3 t), (1, pt_i x2), (2, pt_i x3), (3, pt_i x4), (4, pt_i x5), (5, pt_i x6), (6, pt_i 0), (7, pt_i 0)], [pt_i 0], M) :=
  pt_run_ok tX1_isOneSided_ok 45 [.inr (4, some (pt_i (lb_F M t x2 x3 x4)), M), .inr (4, some (pt_i (lb_F M t x2 x5 x6)), M), .inl true, .inr (4, some (pt_i (lb_F M t x2 x3 x5)), M), .inr (4, some (pt_i (lb_F M t x2 x4 x6)), M), .inl true, .inl false, .inr (4, some (pt_i (lb_F M t x2 x3 x6)), M), .inr (4, some (pt_i (lb_F M t x2 x4 x5)), M), .inl false, .inl true] (P := pt_Cal YX1_isOneSided (.invokevirtual 29) [pt_r 3 t, pt_i x2, pt_i x3, pt_i x4] M (some (pt_i (lb_F M t x2 x3 x4))) M ∧ pt_Cal YX1_isOneSided (.invokevirtual 29) [pt_r 3 t, pt_i x2, pt_i x5, pt_i x6] M (some (pt_i (lb_F M t x2 x5 x6))) M ∧ (¬ (lb_F M t x2 x3 x4) = (lb_F M t x2 x5 x6)) ∧ pt_Cal YX1_isOneSided (.invokevirtual 29) [pt_r 3 t, pt_i x2, pt_i x3, pt_i x5] M (some (pt_i (lb_F M t x2 x3 x5))) M ∧ pt_Cal YX1_isOneSided (.invokevirtual 29) [pt_r 3 t, pt_i x2, pt_i x4, pt_i x6] M (some (pt_i (lb_F M t x2 x4 x6))) M ∧ ((lb_F M t x2 x3 x5) = (lb_F M t x2 x4 x6)) ∧ ((0 : Int32) = (0 : Int32)) ∧ pt_Cal YX1_isOneSided (.invokevirtual 29) [pt_r 3 t, pt_i x2, pt_i x3, pt_i x6] M (some (pt_i (lb_F M t x2 x3 x6))) M ∧ pt_Cal YX1_isOneSided (.invokevirtual 29) [pt_r 3 t, pt_i x2, pt_i x4, pt_i x5] M (some (pt_i (lb_F M t x2 x4 x5))) M ∧ ((lb_F M t x2 x3 x6) = (lb_F M t x2 x4 x5)) ∧ (¬ (0 : Int32) = (1 : Int32)) ∧ True) (by with_unfolding_all rfl) ⟨(pt_callV (i := t) kX1_isOneSided_29 mX4_isLeft rfl h1 rfl (dX4_isLeft_v h1 h2 h3)), (pt_callV (i := t) kX1_isOneSided_29 mX4_isLeft rfl h1 rfl (dX4_isLeft_v h1 h2 h4)), h5, (pt_callV (i := t) kX1_isOneSided_29 mX4_isLeft rfl h1 rfl (dX4_isLeft_v h1 h2 h3)), (pt_callV (i := t) kX1_isOneSided_29 mX4_isLeft rfl h1 rfl (dX4_isLeft_v h1 h2 h6)), h7, (by decide), (pt_callV (i := t) kX1_isOneSided_29 mX4_isLeft rfl h1 rfl (dX4_isLeft_v h1 h2 h3)), (pt_callV (i := t) kX1_isOneSided_29 mX4_isLeft rfl h1 rfl (dX4_isLeft_v h1 h2 h6)), h8, (by decide), trivial⟩
set_option maxRecDepth 100000 in
theorem gX1_isOneSided_0_6 (t : Nat) (x2 : Int32) (x3 : Int32) (x4 : Int32) (x5 : Int32) (x6 : Int32)  (M : pt_M) (h1 : t < 7) (h2 : pt_in x2 10) (h3 : pt_in x3 10) (h4 : pt_in x5 10) (h5 : ¬ (lb_F M t x2 x3 x4) = (lb_F M t x2 x5 x6)) (h6 : pt_in x4 10) (h7 : (lb_F M t x2 x3 x5) = (lb_F M t x2 x4 x6)) (h8 : ¬ (lb_F M t x2 x3 x6) = (lb_F M t x2 x4 x5)) :
    pt_Go YX1_isOneSided (0, [(0, pt_r 3 t), (1, pt_i x2), (2, pt_i x3), (3, pt_i x4), (4, pt_i x5), (5, pt_i x6)], [], M)
      (93, [(0, pt_r 3 t), (1, pt_i x2), (2, pt_i x3), (3, pt_i x4), (4, pt_i x5), (5, pt_i x6), (6, pt_i 0), (7, pt_i 0)], [pt_i 1], M) :=
  pt_run_ok tX1_isOneSided_ok 45 [.inr (4, some (pt_i (lb_F M t x2 x3 x4)), M), .inr (4, some (pt_i (lb_F M t x2 x5 x6)), M), .inl true, .inr (4, some (pt_i (lb_F M t x2 x3 x5)), M), .inr (4, some (pt_i (lb_F M t x2 x4 x6)), M), .inl true, .inl false, .inr (4, some (pt_i (lb_F M t x2 x3 x6)), M), .inr (4, some (pt_i (lb_F M t x2 x4 x5)), M), .inl true, .inl false] (P := pt_Cal YX1_isOneSided (.invokevirtual 29) [pt_r 3 t, pt_i x2, pt_i x3, pt_i x4] M (some (pt_i (lb_F M t x2 x3 x4))) M ∧ pt_Cal YX1_isOneSided (.invokevirtual 29) [pt_r 3 t, pt_i x2, pt_i x5, pt_i x6] M (some (pt_i (lb_F M t x2 x5 x6))) M ∧ (¬ (lb_F M t x2 x3 x4) = (lb_F M t x2 x5 x6)) ∧ pt_Cal YX1_isOneSided (.invokevirtual 29) [pt_r 3 t, pt_i x2, pt_i x3, pt_i x5] M (some (pt_i (lb_F M t x2 x3 x5))) M ∧ pt_Cal YX1_isOneSided (.invokevirtual 29) [pt_r 3 t, pt_i x2, pt_i x4, pt_i x6] M (some (pt_i (lb_F M t x2 x4 x6))) M ∧ ((lb_F M t x2 x3 x5) = (lb_F M t x2 x4 x6)) ∧ ((0 : Int32) = (0 : Int32)) ∧ pt_Cal YX1_isOneSided (.invokevirtual 29) [pt_r 3 t, pt_i x2, pt_i x3, pt_i x6] M (some (pt_i (lb_F M t x2 x3 x6))) M ∧ pt_Cal YX1_isOneSided (.invokevirtual 29) [pt_r 3 t, pt_i x2, pt_i x4, pt_i x5] M (some (pt_i (lb_F M t x2 x4 x5))) M ∧ (¬ (lb_F M t x2 x3 x6) = (lb_F M t x2 x4 x5)) ∧ ((0 : Int32) = (0 : Int32)) ∧ True) (by with_unfolding_all rfl) ⟨(pt_callV (i := t) kX1_isOneSided_29 mX4_isLeft rfl h1 rfl (dX4_isLeft_v h1 h2 h3)), (pt_callV (i := t) kX1_isOneSided_29 mX4_isLeft rfl h1 rfl (dX4_isLeft_v h1 h2 h4)), h5, (pt_callV (i := t) kX1_isOneSided_29 mX4_isLeft rfl h1 rfl (dX4_isLeft_v h1 h2 h3)), (pt_callV (i := t) kX1_isOneSided_29 mX4_isLeft rfl h1 rfl (dX4_isLeft_v h1 h2 h6)), h7, (by decide), (pt_callV (i := t) kX1_isOneSided_29 mX4_isLeft rfl h1 rfl (dX4_isLeft_v h1 h2 h3)), (pt_callV (i := t) kX1_isOneSided_29 mX4_isLeft rfl h1 rfl (dX4_isLeft_v h1 h2 h6)), h8, (by decide), trivial⟩
theorem dX1_isOneSided_1 {t : Nat} {a b c d e : Int32} {M : pt_M} (ht : t < 7) (h1 : pt_in a 10) (h2 : pt_in b 10) (h3 : pt_in c 10) (h4 : pt_in d 10) (h : os_P M t a b c d e) : pt_Does yX1_isOneSided YX1_isOneSided [pt_r 3 t, pt_i a, pt_i b, pt_i c, pt_i d, pt_i e] M (some (pt_i 1)) M := by
  obtain ⟨k1, k2⟩ := h
  by_cases hu : (lb_F M t a b c) = (lb_F M t a d e)
  · exact rX1_isOneSided_93 rfl (Nat.le_of_ble_eq_true rfl) rfl (gX1_isOneSided_0_1 t a b c d e M ht h1 h2 h4 hu h3 (k1.mp hu) (k2.mp hu))
  · exact rX1_isOneSided_93 rfl (Nat.le_of_ble_eq_true rfl) rfl (gX1_isOneSided_0_6 t a b c d e M ht h1 h2 h4 hu h3 (Decidable.byContradiction fun z => hu (k1.mpr z)) (fun z => hu (k2.mpr z)))
theorem dX1_isOneSided_0 {t : Nat} {a b c d e : Int32} {M : pt_M} (ht : t < 7) (h1 : pt_in a 10) (h2 : pt_in b 10) (h3 : pt_in c 10) (h4 : pt_in d 10) (h : ¬ os_P M t a b c d e) : pt_Does yX1_isOneSided YX1_isOneSided [pt_r 3 t, pt_i a, pt_i b, pt_i c, pt_i d, pt_i e] M (some (pt_i 0)) M := by
  by_cases hu : (lb_F M t a b c) = (lb_F M t a d e) <;> by_cases hv : (lb_F M t a b d) = (lb_F M t a c e) <;> by_cases hw : (lb_F M t a b e) = (lb_F M t a c d)
  · exact rX1_isOneSided_93 rfl (Nat.le_of_ble_eq_true rfl) rfl (gX1_isOneSided_0_3 t a b c d e M ht h1 h2 h4 hu h3 hv)
  · exact rX1_isOneSided_93 rfl (Nat.le_of_ble_eq_true rfl) rfl (gX1_isOneSided_0_3 t a b c d e M ht h1 h2 h4 hu h3 hv)
  · exact absurd ⟨⟨fun _ => hv, fun _ => hu⟩, ⟨fun _ => hw, fun _ => hu⟩⟩ h
  · exact rX1_isOneSided_93 rfl (Nat.le_of_ble_eq_true rfl) rfl (gX1_isOneSided_0_2 t a b c d e M ht h1 h2 h4 hu h3 hv hw)
  · exact rX1_isOneSided_93 rfl (Nat.le_of_ble_eq_true rfl) rfl (gX1_isOneSided_0_5 t a b c d e M ht h1 h2 h4 hu h3 hv hw)
  · exact absurd ⟨⟨fun z => absurd z hu, fun z => absurd hv z⟩, ⟨fun z => absurd z hu, fun z => absurd z hw⟩⟩ h
  · exact rX1_isOneSided_93 rfl (Nat.le_of_ble_eq_true rfl) rfl (gX1_isOneSided_0_4 t a b c d e M ht h1 h2 h4 hu h3 hv)
  · exact rX1_isOneSided_93 rfl (Nat.le_of_ble_eq_true rfl) rfl (gX1_isOneSided_0_4 t a b c d e M ht h1 h2 h4 hu h3 hv)
theorem rX1_breaksFive_75 {vs : List pt_V} {M M' : pt_M} {x : Int32} {L : List (Nat × pt_V)} (hn : narrow .boolean (.int x) = .int x) (hvs : (vs.map pt_w).sum ≤ 6) (hX : M'.2.2.2.2 = M.2.2.2.2) (h : pt_Go YX1_breaksFive (0, pt_en 0 vs, [], M) (75, L, [pt_i x], M')) : pt_Does yX1_breaksFive YX1_breaksFive vs M (some (pt_i x)) M' := pt_does_go tX1_breaksFive_ok nX1_breaksFive hvs hX ⟨_, by with_unfolding_all rfl, rfl, _, rfl, hn⟩ h
set_option maxRecDepth 100000 in
theorem gX1_breaksFive_0_1 (t : Nat) (x2 : Int32) (x3 : Int32) (x4 : Int32) (x5 : Int32) (x6 : Int32)  (M : pt_M) (h1 : t < 7) (h2 : pt_in x2 10) (h3 : pt_in x3 10) (h4 : pt_in x4 10) (h5 : pt_in x5 10) (h6 : os_P M t x2 x3 x4 x5 x6) :
    pt_Go YX1_breaksFive (0, [(0, pt_r 3 t), (1, pt_i x2), (2, pt_i x3), (3, pt_i x4), (4, pt_i x5), (5, pt_i x6)], [], M)
      (75, [(0, pt_r 3 t), (1, pt_i x2), (2, pt_i x3), (3, pt_i x4), (4, pt_i x5), (5, pt_i x6)], [pt_i 1], M) :=
  pt_run_ok tX1_breaksFive_ok 10 [.inr (6, some (pt_i 1), M), .inl true] (P := pt_Cal YX1_breaksFive (.invokestatic 37) [pt_r 3 t, pt_i x2, pt_i x3, pt_i x4, pt_i x5, pt_i x6] M (some (pt_i 1)) M ∧ (¬ (1 : Int32) = (0 : Int32)) ∧ True) (by with_unfolding_all rfl) ⟨(pt_callS kX1_breaksFive_37 mX1_isOneSided rfl (dX1_isOneSided_1 h1 h2 h3 h4 h5 h6)), (by decide), trivial⟩
set_option maxRecDepth 100000 in
theorem gX1_breaksFive_0_2 (t : Nat) (x2 : Int32) (x3 : Int32) (x4 : Int32) (x5 : Int32) (x6 : Int32)  (M : pt_M) (h1 : t < 7) (h2 : pt_in x2 10) (h3 : pt_in x3 10) (h4 : pt_in x4 10) (h5 : pt_in x5 10) (h6 : ¬ os_P M t x2 x3 x4 x5 x6) (h7 : os_P M t x3 x2 x4 x5 x6) :
    pt_Go YX1_breaksFive (0, [(0, pt_r 3 t), (1, pt_i x2), (2, pt_i x3), (3, pt_i x4), (4, pt_i x5), (5, pt_i x6)], [], M)
      (75, [(0, pt_r 3 t), (1, pt_i x2), (2, pt_i x3), (3, pt_i x4), (4, pt_i x5), (5, pt_i x6)], [pt_i 1], M) :=
  pt_run_ok tX1_breaksFive_ok 18 [.inr (6, some (pt_i 0), M), .inl false, .inr (6, some (pt_i 1), M), .inl true] (P := pt_Cal YX1_breaksFive (.invokestatic 37) [pt_r 3 t, pt_i x2, pt_i x3, pt_i x4, pt_i x5, pt_i x6] M (some (pt_i 0)) M ∧ ((0 : Int32) = (0 : Int32)) ∧ pt_Cal YX1_breaksFive (.invokestatic 37) [pt_r 3 t, pt_i x3, pt_i x2, pt_i x4, pt_i x5, pt_i x6] M (some (pt_i 1)) M ∧ (¬ (1 : Int32) = (0 : Int32)) ∧ True) (by with_unfolding_all rfl) ⟨(pt_callS kX1_breaksFive_37 mX1_isOneSided rfl (dX1_isOneSided_0 h1 h2 h3 h4 h5 h6)), (by decide), (pt_callS kX1_breaksFive_37 mX1_isOneSided rfl (dX1_isOneSided_1 h1 h3 h2 h4 h5 h7)), (by decide), trivial⟩
set_option maxRecDepth 100000 in
theorem gX1_breaksFive_0_3 (t : Nat) (x2 : Int32) (x3 : Int32) (x4 : Int32) (x5 : Int32) (x6 : Int32)  (M : pt_M) (h1 : t < 7) (h2 : pt_in x2 10) (h3 : pt_in x3 10) (h4 : pt_in x4 10) (h5 : pt_in x5 10) (h6 : ¬ os_P M t x2 x3 x4 x5 x6) (h7 : ¬ os_P M t x3 x2 x4 x5 x6) (h8 : os_P M t x4 x2 x3 x5 x6) :
    pt_Go YX1_breaksFive (0, [(0, pt_r 3 t), (1, pt_i x2), (2, pt_i x3), (3, pt_i x4), (4, pt_i x5), (5, pt_i x6)], [], M)
      (75, [(0, pt_r 3 t), (1, pt_i x2), (2, pt_i x3), (3, pt_i x4), (4, pt_i x5), (5, pt_i x6)], [pt_i 1], M) :=
  pt_run_ok tX1_breaksFive_ok 26 [.inr (6, some (pt_i 0), M), .inl false, .inr (6, some (pt_i 0), M), .inl false, .inr (6, some (pt_i 1), M), .inl true] (P := pt_Cal YX1_breaksFive (.invokestatic 37) [pt_r 3 t, pt_i x2, pt_i x3, pt_i x4, pt_i x5, pt_i x6] M (some (pt_i 0)) M ∧ ((0 : Int32) = (0 : Int32)) ∧ pt_Cal YX1_breaksFive (.invokestatic 37) [pt_r 3 t, pt_i x3, pt_i x2, pt_i x4, pt_i x5, pt_i x6] M (some (pt_i 0)) M ∧ ((0 : Int32) = (0 : Int32)) ∧ pt_Cal YX1_breaksFive (.invokestatic 37) [pt_r 3 t, pt_i x4, pt_i x2, pt_i x3, pt_i x5, pt_i x6] M (some (pt_i 1)) M ∧ (¬ (1 : Int32) = (0 : Int32)) ∧ True) (by with_unfolding_all rfl) ⟨(pt_callS kX1_breaksFive_37 mX1_isOneSided rfl (dX1_isOneSided_0 h1 h2 h3 h4 h5 h6)), (by decide), (pt_callS kX1_breaksFive_37 mX1_isOneSided rfl (dX1_isOneSided_0 h1 h3 h2 h4 h5 h7)), (by decide), (pt_callS kX1_breaksFive_37 mX1_isOneSided rfl (dX1_isOneSided_1 h1 h4 h2 h3 h5 h8)), (by decide), trivial⟩
set_option maxRecDepth 100000 in
theorem gX1_breaksFive_0_4 (t : Nat) (x2 : Int32) (x3 : Int32) (x4 : Int32) (x5 : Int32) (x6 : Int32)  (M : pt_M) (h1 : t < 7) (h2 : pt_in x2 10) (h3 : pt_in x3 10) (h4 : pt_in x4 10) (h5 : pt_in x5 10) (h6 : ¬ os_P M t x2 x3 x4 x5 x6) (h7 : ¬ os_P M t x3 x2 x4 x5 x6) (h8 : ¬ os_P M t x4 x2 x3 x5 x6) (h9 : os_P M t x5 x2 x3 x4 x6) :
    pt_Go YX1_breaksFive (0, [(0, pt_r 3 t), (1, pt_i x2), (2, pt_i x3), (3, pt_i x4), (4, pt_i x5), (5, pt_i x6)], [], M)
      (75, [(0, pt_r 3 t), (1, pt_i x2), (2, pt_i x3), (3, pt_i x4), (4, pt_i x5), (5, pt_i x6)], [pt_i 1], M) :=
  pt_run_ok tX1_breaksFive_ok 34 [.inr (6, some (pt_i 0), M), .inl false, .inr (6, some (pt_i 0), M), .inl false, .inr (6, some (pt_i 0), M), .inl false, .inr (6, some (pt_i 1), M), .inl true] (P := pt_Cal YX1_breaksFive (.invokestatic 37) [pt_r 3 t, pt_i x2, pt_i x3, pt_i x4, pt_i x5, pt_i x6] M (some (pt_i 0)) M ∧ ((0 : Int32) = (0 : Int32)) ∧ pt_Cal YX1_breaksFive (.invokestatic 37) [pt_r 3 t, pt_i x3, pt_i x2, pt_i x4, pt_i x5, pt_i x6] M (some (pt_i 0)) M ∧ ((0 : Int32) = (0 : Int32)) ∧ pt_Cal YX1_breaksFive (.invokestatic 37) [pt_r 3 t, pt_i x4, pt_i x2, pt_i x3, pt_i x5, pt_i x6] M (some (pt_i 0)) M ∧ ((0 : Int32) = (0 : Int32)) ∧ pt_Cal YX1_breaksFive (.invokestatic 37) [pt_r 3 t, pt_i x5, pt_i x2, pt_i x3, pt_i x4, pt_i x6] M (some (pt_i 1)) M ∧ (¬ (1 : Int32) = (0 : Int32)) ∧ True) (by with_unfolding_all rfl) ⟨(pt_callS kX1_breaksFive_37 mX1_isOneSided rfl (dX1_isOneSided_0 h1 h2 h3 h4 h5 h6)), (by decide), (pt_callS kX1_breaksFive_37 mX1_isOneSided rfl (dX1_isOneSided_0 h1 h3 h2 h4 h5 h7)), (by decide), (pt_callS kX1_breaksFive_37 mX1_isOneSided rfl (dX1_isOneSided_0 h1 h4 h2 h3 h5 h8)), (by decide), (pt_callS kX1_breaksFive_37 mX1_isOneSided rfl (dX1_isOneSided_1 h1 h5 h2 h3 h4 h9)), (by decide), trivial⟩
set_option maxRecDepth 100000 in
theorem gX1_breaksFive_0_5 (t : Nat) (x2 : Int32) (x3 : Int32) (x4 : Int32) (x5 : Int32) (x6 : Int32)  (M : pt_M) (h1 : t < 7) (h2 : pt_in x2 10) (h3 : pt_in x3 10) (h4 : pt_in x4 10) (h5 : pt_in x5 10) (h6 : ¬ os_P M t x2 x3 x4 x5 x6) (h7 : ¬ os_P M t x3 x2 x4 x5 x6) (h8 : ¬ os_P M t x4 x2 x3 x5 x6) (h9 : ¬ os_P M t x5 x2 x3 x4 x6) (h10 : pt_in x6 10) (h11 : os_P M t x6 x2 x3 x4 x5) :
    pt_Go YX1_breaksFive (0, [(0, pt_r 3 t), (1, pt_i x2), (2, pt_i x3), (3, pt_i x4), (4, pt_i x5), (5, pt_i x6)], [], M)
      (75, [(0, pt_r 3 t), (1, pt_i x2), (2, pt_i x3), (3, pt_i x4), (4, pt_i x5), (5, pt_i x6)], [pt_i 1], M) :=
  pt_run_ok tX1_breaksFive_ok 42 [.inr (6, some (pt_i 0), M), .inl false, .inr (6, some (pt_i 0), M), .inl false, .inr (6, some (pt_i 0), M), .inl false, .inr (6, some (pt_i 0), M), .inl false, .inr (6, some (pt_i 1), M), .inl false] (P := pt_Cal YX1_breaksFive (.invokestatic 37) [pt_r 3 t, pt_i x2, pt_i x3, pt_i x4, pt_i x5, pt_i x6] M (some (pt_i 0)) M ∧ ((0 : Int32) = (0 : Int32)) ∧ pt_Cal YX1_breaksFive (.invokestatic 37) [pt_r 3 t, pt_i x3, pt_i x2, pt_i x4, pt_i x5, pt_i x6] M (some (pt_i 0)) M ∧ ((0 : Int32) = (0 : Int32)) ∧ pt_Cal YX1_breaksFive (.invokestatic 37) [pt_r 3 t, pt_i x4, pt_i x2, pt_i x3, pt_i x5, pt_i x6] M (some (pt_i 0)) M ∧ ((0 : Int32) = (0 : Int32)) ∧ pt_Cal YX1_breaksFive (.invokestatic 37) [pt_r 3 t, pt_i x5, pt_i x2, pt_i x3, pt_i x4, pt_i x6] M (some (pt_i 0)) M ∧ ((0 : Int32) = (0 : Int32)) ∧ pt_Cal YX1_breaksFive (.invokestatic 37) [pt_r 3 t, pt_i x6, pt_i x2, pt_i x3, pt_i x4, pt_i x5] M (some (pt_i 1)) M ∧ (¬ (1 : Int32) = (0 : Int32)) ∧ True) (by with_unfolding_all rfl) ⟨(pt_callS kX1_breaksFive_37 mX1_isOneSided rfl (dX1_isOneSided_0 h1 h2 h3 h4 h5 h6)), (by decide), (pt_callS kX1_breaksFive_37 mX1_isOneSided rfl (dX1_isOneSided_0 h1 h3 h2 h4 h5 h7)), (by decide), (pt_callS kX1_breaksFive_37 mX1_isOneSided rfl (dX1_isOneSided_0 h1 h4 h2 h3 h5 h8)), (by decide), (pt_callS kX1_breaksFive_37 mX1_isOneSided rfl (dX1_isOneSided_0 h1 h5 h2 h3 h4 h9)), (by decide), (pt_callS kX1_breaksFive_37 mX1_isOneSided rfl (dX1_isOneSided_1 h1 h10 h2 h3 h4 h11)), (by decide), trivial⟩
set_option maxRecDepth 100000 in
theorem gX1_breaksFive_0_6 (t : Nat) (x2 : Int32) (x3 : Int32) (x4 : Int32) (x5 : Int32) (x6 : Int32)  (M : pt_M) (h1 : t < 7) (h2 : pt_in x2 10) (h3 : pt_in x3 10) (h4 : pt_in x4 10) (h5 : pt_in x5 10) (h6 : ¬ os_P M t x2 x3 x4 x5 x6) (h7 : ¬ os_P M t x3 x2 x4 x5 x6) (h8 : ¬ os_P M t x4 x2 x3 x5 x6) (h9 : ¬ os_P M t x5 x2 x3 x4 x6) (h10 : pt_in x6 10) (h11 : ¬ os_P M t x6 x2 x3 x4 x5) :
    pt_Go YX1_breaksFive (0, [(0, pt_r 3 t), (1, pt_i x2), (2, pt_i x3), (3, pt_i x4), (4, pt_i x5), (5, pt_i x6)], [], M)
      (75, [(0, pt_r 3 t), (1, pt_i x2), (2, pt_i x3), (3, pt_i x4), (4, pt_i x5), (5, pt_i x6)], [pt_i 0], M) :=
  pt_run_ok tX1_breaksFive_ok 41 [.inr (6, some (pt_i 0), M), .inl false, .inr (6, some (pt_i 0), M), .inl false, .inr (6, some (pt_i 0), M), .inl false, .inr (6, some (pt_i 0), M), .inl false, .inr (6, some (pt_i 0), M), .inl true] (P := pt_Cal YX1_breaksFive (.invokestatic 37) [pt_r 3 t, pt_i x2, pt_i x3, pt_i x4, pt_i x5, pt_i x6] M (some (pt_i 0)) M ∧ ((0 : Int32) = (0 : Int32)) ∧ pt_Cal YX1_breaksFive (.invokestatic 37) [pt_r 3 t, pt_i x3, pt_i x2, pt_i x4, pt_i x5, pt_i x6] M (some (pt_i 0)) M ∧ ((0 : Int32) = (0 : Int32)) ∧ pt_Cal YX1_breaksFive (.invokestatic 37) [pt_r 3 t, pt_i x4, pt_i x2, pt_i x3, pt_i x5, pt_i x6] M (some (pt_i 0)) M ∧ ((0 : Int32) = (0 : Int32)) ∧ pt_Cal YX1_breaksFive (.invokestatic 37) [pt_r 3 t, pt_i x5, pt_i x2, pt_i x3, pt_i x4, pt_i x6] M (some (pt_i 0)) M ∧ ((0 : Int32) = (0 : Int32)) ∧ pt_Cal YX1_breaksFive (.invokestatic 37) [pt_r 3 t, pt_i x6, pt_i x2, pt_i x3, pt_i x4, pt_i x5] M (some (pt_i 0)) M ∧ ((0 : Int32) = (0 : Int32)) ∧ True) (by with_unfolding_all rfl) ⟨(pt_callS kX1_breaksFive_37 mX1_isOneSided rfl (dX1_isOneSided_0 h1 h2 h3 h4 h5 h6)), (by decide), (pt_callS kX1_breaksFive_37 mX1_isOneSided rfl (dX1_isOneSided_0 h1 h3 h2 h4 h5 h7)), (by decide), (pt_callS kX1_breaksFive_37 mX1_isOneSided rfl (dX1_isOneSided_0 h1 h4 h2 h3 h5 h8)), (by decide), (pt_callS kX1_breaksFive_37 mX1_isOneSided rfl (dX1_isOneSided_0 h1 h5 h2 h3 h4 h9)), (by decide), (pt_callS kX1_breaksFive_37 mX1_isOneSided rfl (dX1_isOneSided_0 h1 h10 h2 h3 h4 h11)), (by decide), trivial⟩
theorem dX1_breaksFive_1 {t : Nat} {a b c d e : Int32} {M : pt_M} (ht : t < 7) (h1 : pt_in a 10) (h2 : pt_in b 10) (h3 : pt_in c 10) (h4 : pt_in d 10) (h5 : pt_in e 10) (h : bv_P M t a b c d e) : pt_Does yX1_breaksFive YX1_breaksFive [pt_r 3 t, pt_i a, pt_i b, pt_i c, pt_i d, pt_i e] M (some (pt_i 1)) M := by
  refine rX1_breaksFive_75 rfl (L := [(0, pt_r 3 t), (1, pt_i a), (2, pt_i b), (3, pt_i c), (4, pt_i d), (5, pt_i e)]) (Nat.le_of_ble_eq_true rfl) rfl ?_
  by_cases k1 : os_P M t a b c d e
  · exact gX1_breaksFive_0_1 t a b c d e M ht h1 h2 h3 h4 k1
  by_cases k2 : os_P M t b a c d e
  · exact gX1_breaksFive_0_2 t a b c d e M ht h1 h2 h3 h4 k1 k2
  by_cases k3 : os_P M t c a b d e
  · exact gX1_breaksFive_0_3 t a b c d e M ht h1 h2 h3 h4 k1 k2 k3
  by_cases k4 : os_P M t d a b c e
  · exact gX1_breaksFive_0_4 t a b c d e M ht h1 h2 h3 h4 k1 k2 k3 k4
  by_cases k5 : os_P M t e a b c d
  · exact gX1_breaksFive_0_5 t a b c d e M ht h1 h2 h3 h4 k1 k2 k3 k4 h5 k5
  rcases h with h | h | h | h | h <;> contradiction
theorem dX1_breaksFive_0 {t : Nat} {a b c d e : Int32} {M : pt_M} (ht : t < 7) (h1 : pt_in a 10) (h2 : pt_in b 10) (h3 : pt_in c 10) (h4 : pt_in d 10) (h5 : pt_in e 10) (h : ¬ bv_P M t a b c d e) : pt_Does yX1_breaksFive YX1_breaksFive [pt_r 3 t, pt_i a, pt_i b, pt_i c, pt_i d, pt_i e] M (some (pt_i 0)) M :=
  rX1_breaksFive_75 rfl (Nat.le_of_ble_eq_true rfl) rfl (gX1_breaksFive_0_6 t a b c d e M ht h1 h2 h3 h4 (fun z => h (Or.inl z)) (fun z => h (Or.inr (Or.inl z))) (fun z => h (Or.inr (Or.inr (Or.inl z)))) (fun z => h (Or.inr (Or.inr (Or.inr (Or.inl z))))) h5 (fun z => h (Or.inr (Or.inr (Or.inr (Or.inr z))))))
/-! the first of some -/
def fs_F {α : Type} : Nat → Nat → (Nat → Option α) → Option α
  | 0, _, _ => none
  | d + 1, i, f => match f i with
    | some v => some v
    | none => fs_F d (i + 1) f
theorem pt_srch {α : Type} {Y : pt_Y} {S : Nat → pt_S} {R : α → pt_S} {n : Nat} {f : Nat → Option α} (i0 : Nat) (h : ∀ i, i0 ≤ i → i < n → (∀ v, f i = some v → pt_Go Y (S i) (R v)) ∧ (f i = none → pt_Go Y (S i) (S (i + 1)))) : ∀ d i, i0 ≤ i → i + d = n → (∀ v, fs_F d i f = some v → pt_Go Y (S i) (R v)) ∧ (fs_F d i f = none → pt_Go Y (S i) (S n))
  | 0, i, hi, e => by
    have : i = n := by omega
    subst this
    exact ⟨fun v hv => (by cases hv), fun _ => pt_Go.rf⟩
  | d + 1, i, hi, e => by
    obtain ⟨h1, h2⟩ := h i hi (by omega)
    obtain ⟨k1, k2⟩ := pt_srch i0 h d (i + 1) (by omega) (by omega)
    unfold fs_F
    cases hf : f i with
    | some v => exact ⟨fun w hw => by cases hw; exact h1 v hf, fun hw => by cases hw⟩
    | none => exact ⟨fun w hw => (h2 hf).tr (k1 w hw), fun hw => (h2 hf).tr (k2 hw)⟩
theorem pt_nest {α : Type} {Y : pt_Y} {σ τ : pt_S} {S : Nat → pt_S} {R : α → pt_S} {n i : Nat} {f : Nat → Option α} (hi : i ≤ n) (h0 : pt_Go Y σ (S i)) (h1 : pt_Go Y (S n) τ) (h : ∀ j, i ≤ j → j < n → (∀ v, f j = some v → pt_Go Y (S j) (R v)) ∧ (f j = none → pt_Go Y (S j) (S (j + 1)))) : (∀ v, fs_F (n - i) i f = some v → pt_Go Y σ (R v)) ∧ (fs_F (n - i) i f = none → pt_Go Y σ τ) := by
  obtain ⟨k1, k2⟩ := pt_srch i h (n - i) i (Nat.le_refl i) (by omega)
  exact ⟨fun v hv => h0.tr (k1 v hv), fun hv => h0.tr ((k2 hv).tr h1)⟩
def b4_F (B : Nat → Nat → Nat → Bool) (a b c d : Nat) : Bool := (B a b d != B a b c) && ((B a c d == B a b c) && (B b c d != B a b c))
def os_F (B : Nat → Nat → Nat → Bool) (a b c d e : Nat) : Bool := ((B a b c == B a d e) == (B a b d != B a c e)) && ((B a b c == B a d e) == (B a b e == B a c d))
def b5_F (B : Nat → Nat → Nat → Bool) (a b c d e : Nat) : Bool := os_F B a b c d e || (os_F B b a c d e || (os_F B c a b d e || (os_F B d a b c e || os_F B e a b c d)))
def f4_F (n : Nat) (B : Nat → Nat → Nat → Bool) : Option Nat := fs_F (n - 0) 0 fun a => fs_F (n - (a + 1)) (a + 1) fun b => fs_F (n - (b + 1)) (b + 1) fun c => fs_F (n - (c + 1)) (c + 1) fun d => if b4_F B a b c d then some (2 ^ a ||| 2 ^ b ||| 2 ^ c ||| 2 ^ d) else none
def f5_F (n : Nat) (B : Nat → Nat → Nat → Bool) : Option Nat := fs_F (n - 0) 0 fun a => fs_F (n - (a + 1)) (a + 1) fun b => fs_F (n - (b + 1)) (b + 1) fun c => fs_F (n - (c + 1)) (c + 1) fun d => fs_F (n - (d + 1)) (d + 1) fun e => if b5_F B a b c d e then some (2 ^ a ||| 2 ^ b ||| 2 ^ c ||| 2 ^ d ||| 2 ^ e) else none
def w4_F (n : Nat) (B : Nat → Nat → Nat → Bool) : Nat := (f4_F n B).getD 0
def w5_F (n : Nat) (B : Nat → Nat → Nat → Bool) : Nat := (f5_F n B).getD 0
def wy_F (n : Nat) (B : Nat → Nat → Nat → Bool) : Nat := if w4_F n B = 0 then w5_F n B else w4_F n B
/-- a table of n points, its rows of bits B -/
def tb_P (M : pt_M) (t n : Nat) (B : Nat → Nat → Nat → Bool) : Prop := t < 7 ∧ n ≤ 10 ∧ pt_F M 3 0 t = nI n ∧ ct_B M t B
theorem bf_B {M : pt_M} {t a b c d : Nat} {B : Nat → Nat → Nat → Bool} (hB : ct_B M t B) (ha : a < 10) (hb : b < 10) (hc : c < 10) (hd : d < 10) : bf_P M t (nI a) (nI b) (nI c) (nI d) ↔ b4_F B a b c d = true := by
  unfold bf_P b4_F
  rw [lb_B hB ha hb hd, lb_B hB ha hb hc, lb_B hB ha hc hd, lb_B hB hb hc hd]
  simp only [pt_b_eq]
  cases B a b d <;> cases B a b c <;> cases B a c d <;> cases B b c d <;> decide
theorem os_B {M : pt_M} {t a b c d e : Nat} {B : Nat → Nat → Nat → Bool} (hB : ct_B M t B) (ha : a < 10) (hb : b < 10) (hc : c < 10) (hd : d < 10) (he : e < 10) : os_P M t (nI a) (nI b) (nI c) (nI d) (nI e) ↔ os_F B a b c d e = true := by
  unfold os_P os_F
  rw [lb_B hB ha hb hc, lb_B hB ha hd he, lb_B hB ha hb hd, lb_B hB ha hc he, lb_B hB ha hb he, lb_B hB ha hc hd]
  simp only [pt_b_eq]
  cases B a b c <;> cases B a d e <;> cases B a b d <;> cases B a c e <;> cases B a b e <;> cases B a c d <;> decide
theorem bv_B {M : pt_M} {t a b c d e : Nat} {B : Nat → Nat → Nat → Bool} (hB : ct_B M t B) (ha : a < 10) (hb : b < 10) (hc : c < 10) (hd : d < 10) (he : e < 10) : bv_P M t (nI a) (nI b) (nI c) (nI d) (nI e) ↔ b5_F B a b c d e = true := by
  unfold bv_P b5_F
  rw [os_B hB ha hb hc hd he, os_B hB hb ha hc hd he, os_B hB hc ha hb hd he, os_B hB hd ha hb hc he, os_B hB he ha hb hc hd]
  simp only [Bool.or_eq_true]
theorem rX1_firstFour_76 {vs : List pt_V} {M M' : pt_M} {x : Int32} {L : List (Nat × pt_V)} (hvs : (vs.map pt_w).sum ≤ 5) (hX : M'.2.2.2.2 = M.2.2.2.2) (h : pt_Go YX1_firstFour (0, pt_en 0 vs, [], M) (76, L, [pt_i x], M')) : pt_Does yX1_firstFour YX1_firstFour vs M (some (pt_i x)) M' := pt_does_go tX1_firstFour_ok nX1_firstFour hvs hX ⟨_, by with_unfolding_all rfl, rfl, _, rfl, rfl⟩ h
theorem rX1_firstFour_102 {vs : List pt_V} {M M' : pt_M} {x : Int32} {L : List (Nat × pt_V)} (hvs : (vs.map pt_w).sum ≤ 5) (hX : M'.2.2.2.2 = M.2.2.2.2) (h : pt_Go YX1_firstFour (0, pt_en 0 vs, [], M) (102, L, [pt_i x], M')) : pt_Does yX1_firstFour YX1_firstFour vs M (some (pt_i x)) M' := pt_does_go tX1_firstFour_ok nX1_firstFour hvs hX ⟨_, by with_unfolding_all rfl, rfl, _, rfl, rfl⟩ h
set_option maxRecDepth 100000 in
theorem gX1_firstFour_0_1 (t : Nat)  (M : pt_M) :
    pt_Go YX1_firstFour (0, [(0, pt_r 3 t)], [], M)
      (2, [(0, pt_r 3 t), (1, pt_i 0)], [], M) :=
  pt_run_ok tX1_firstFour_ok 2 [] (P := True) (by with_unfolding_all rfl) trivial
set_option maxRecDepth 100000 in
theorem gX1_firstFour_2_1 (t : Nat) (l1 : Int32)  (M : pt_M) (h1 : t < 7) (h2 : ¬ (pt_F M 3 0 t) ≤ l1) :
    pt_Go YX1_firstFour (2, [(0, pt_r 3 t), (1, pt_i l1)], [], M)
      (14, [(0, pt_r 3 t), (1, pt_i l1), (2, pt_i (l1 + 1))], [], M) :=
  pt_run_ok tX1_firstFour_ok 8 [.inl false] (P := (t < 7) ∧ (¬ (pt_F M 3 0 t) ≤ l1) ∧ True) (by with_unfolding_all rfl) ⟨h1, h2, trivial⟩
set_option maxRecDepth 100000 in
theorem gX1_firstFour_2_2 (t : Nat) (l1 : Int32)  (M : pt_M) (h1 : t < 7) (h2 : (pt_F M 3 0 t) ≤ l1) :
    pt_Go YX1_firstFour (2, [(0, pt_r 3 t), (1, pt_i l1)], [], M)
      (102, [(0, pt_r 3 t), (1, pt_i l1)], [pt_i 0], M) :=
  pt_run_ok tX1_firstFour_ok 5 [.inl true] (P := (t < 7) ∧ ((pt_F M 3 0 t) ≤ l1) ∧ True) (by with_unfolding_all rfl) ⟨h1, h2, trivial⟩
set_option maxRecDepth 100000 in
theorem gX1_firstFour_14_1 (t : Nat) (l1 : Int32) (l2 : Int32)  (M : pt_M) (h1 : t < 7) (h2 : ¬ (pt_F M 3 0 t) ≤ l2) :
    pt_Go YX1_firstFour (14, [(0, pt_r 3 t), (1, pt_i l1), (2, pt_i l2)], [], M)
      (26, [(0, pt_r 3 t), (1, pt_i l1), (2, pt_i l2), (3, pt_i (l2 + 1))], [], M) :=
  pt_run_ok tX1_firstFour_ok 8 [.inl false] (P := (t < 7) ∧ (¬ (pt_F M 3 0 t) ≤ l2) ∧ True) (by with_unfolding_all rfl) ⟨h1, h2, trivial⟩
set_option maxRecDepth 100000 in
theorem gX1_firstFour_14_2 (t : Nat) (l1 : Int32) (l2 : Int32)  (M : pt_M) (h1 : t < 7) (h2 : (pt_F M 3 0 t) ≤ l2) :
    pt_Go YX1_firstFour (14, [(0, pt_r 3 t), (1, pt_i l1), (2, pt_i l2)], [], M)
      (2, [(0, pt_r 3 t), (1, pt_i (l1 + 1))], [], M) :=
  (pt_run_ok tX1_firstFour_ok 6 [.inl true] (P := (t < 7) ∧ ((pt_F M 3 0 t) ≤ l2) ∧ True) (by with_unfolding_all rfl) ⟨h1, h2, trivial⟩ : pt_Go YX1_firstFour _ (2, [(0, pt_r 3 t), (1, pt_i (l1 + 1)), (2, pt_i l2)], [], M)).tr (pt_pick [0, 1] (by with_unfolding_all rfl))
set_option maxRecDepth 100000 in
theorem gX1_firstFour_26_1 (t : Nat) (l1 : Int32) (l2 : Int32) (l3 : Int32)  (M : pt_M) (h1 : t < 7) (h2 : ¬ (pt_F M 3 0 t) ≤ l3) :
    pt_Go YX1_firstFour (26, [(0, pt_r 3 t), (1, pt_i l1), (2, pt_i l2), (3, pt_i l3)], [], M)
      (39, [(0, pt_r 3 t), (1, pt_i l1), (2, pt_i l2), (3, pt_i l3), (4, pt_i (l3 + 1))], [], M) :=
  pt_run_ok tX1_firstFour_ok 8 [.inl false] (P := (t < 7) ∧ (¬ (pt_F M 3 0 t) ≤ l3) ∧ True) (by with_unfolding_all rfl) ⟨h1, h2, trivial⟩
set_option maxRecDepth 100000 in
theorem gX1_firstFour_26_2 (t : Nat) (l1 : Int32) (l2 : Int32) (l3 : Int32)  (M : pt_M) (h1 : t < 7) (h2 : (pt_F M 3 0 t) ≤ l3) :
    pt_Go YX1_firstFour (26, [(0, pt_r 3 t), (1, pt_i l1), (2, pt_i l2), (3, pt_i l3)], [], M)
      (14, [(0, pt_r 3 t), (1, pt_i l1), (2, pt_i (l2 + 1))], [], M) :=
  (pt_run_ok tX1_firstFour_ok 6 [.inl true] (P := (t < 7) ∧ ((pt_F M 3 0 t) ≤ l3) ∧ True) (by with_unfolding_all rfl) ⟨h1, h2, trivial⟩ : pt_Go YX1_firstFour _ (14, [(0, pt_r 3 t), (1, pt_i l1), (2, pt_i (l2 + 1)), (3, pt_i l3)], [], M)).tr (pt_pick [0, 1, 2] (by with_unfolding_all rfl))
set_option maxRecDepth 100000 in
theorem gX1_firstFour_39_1 (t : Nat) (l1 : Int32) (l2 : Int32) (l3 : Int32) (l4 : Int32)  (M : pt_M) (h1 : t < 7) (h2 : ¬ (pt_F M 3 0 t) ≤ l4) (h3 : pt_in l1 10) (h4 : pt_in l2 10) (h5 : pt_in l3 10) (h6 : bf_P M t l1 l2 l3 l4) :
    pt_Go YX1_firstFour (39, [(0, pt_r 3 t), (1, pt_i l1), (2, pt_i l2), (3, pt_i l3), (4, pt_i l4)], [], M)
      (76, [(0, pt_r 3 t), (1, pt_i l1), (2, pt_i l2), (3, pt_i l3), (4, pt_i l4)], [pt_i (((((1 : Int32) <<< (l1 &&& 31)) ||| ((1 : Int32) <<< (l2 &&& 31))) ||| ((1 : Int32) <<< (l3 &&& 31))) ||| ((1 : Int32) <<< (l4 &&& 31)))], M) :=
  pt_run_ok tX1_firstFour_ok 26 [.inl false, .inr (5, some (pt_i 1), M), .inl false] (P := (t < 7) ∧ (¬ (pt_F M 3 0 t) ≤ l4) ∧ pt_Cal YX1_firstFour (.invokestatic 25) [pt_r 3 t, pt_i l1, pt_i l2, pt_i l3, pt_i l4] M (some (pt_i 1)) M ∧ (¬ (1 : Int32) = (0 : Int32)) ∧ True) (by with_unfolding_all rfl) ⟨h1, h2, (pt_callS kX1_firstFour_25 mX1_breaksFour rfl (dX1_breaksFour_1 h1 h3 h4 h5 h6)), (by decide), trivial⟩
set_option maxRecDepth 100000 in
theorem gX1_firstFour_39_2 (t : Nat) (l1 : Int32) (l2 : Int32) (l3 : Int32) (l4 : Int32)  (M : pt_M) (h1 : t < 7) (h2 : ¬ (pt_F M 3 0 t) ≤ l4) (h3 : pt_in l1 10) (h4 : pt_in l2 10) (h5 : pt_in l3 10) (h6 : ¬ bf_P M t l1 l2 l3 l4) :
    pt_Go YX1_firstFour (39, [(0, pt_r 3 t), (1, pt_i l1), (2, pt_i l2), (3, pt_i l3), (4, pt_i l4)], [], M)
      (39, [(0, pt_r 3 t), (1, pt_i l1), (2, pt_i l2), (3, pt_i l3), (4, pt_i (l4 + 1))], [], M) :=
  pt_run_ok tX1_firstFour_ok 13 [.inl false, .inr (5, some (pt_i 0), M), .inl true] (P := (t < 7) ∧ (¬ (pt_F M 3 0 t) ≤ l4) ∧ pt_Cal YX1_firstFour (.invokestatic 25) [pt_r 3 t, pt_i l1, pt_i l2, pt_i l3, pt_i l4] M (some (pt_i 0)) M ∧ ((0 : Int32) = (0 : Int32)) ∧ True) (by with_unfolding_all rfl) ⟨h1, h2, (pt_callS kX1_firstFour_25 mX1_breaksFour rfl (dX1_breaksFour_0 h1 h3 h4 h5 h6)), (by decide), trivial⟩
set_option maxRecDepth 100000 in
theorem gX1_firstFour_39_3 (t : Nat) (l1 : Int32) (l2 : Int32) (l3 : Int32) (l4 : Int32)  (M : pt_M) (h1 : t < 7) (h2 : (pt_F M 3 0 t) ≤ l4) :
    pt_Go YX1_firstFour (39, [(0, pt_r 3 t), (1, pt_i l1), (2, pt_i l2), (3, pt_i l3), (4, pt_i l4)], [], M)
      (26, [(0, pt_r 3 t), (1, pt_i l1), (2, pt_i l2), (3, pt_i (l3 + 1))], [], M) :=
  (pt_run_ok tX1_firstFour_ok 6 [.inl true] (P := (t < 7) ∧ ((pt_F M 3 0 t) ≤ l4) ∧ True) (by with_unfolding_all rfl) ⟨h1, h2, trivial⟩ : pt_Go YX1_firstFour _ (26, [(0, pt_r 3 t), (1, pt_i l1), (2, pt_i l2), (3, pt_i (l3 + 1)), (4, pt_i l4)], [], M)).tr (pt_pick [0, 1, 2, 3] (by with_unfolding_all rfl))
theorem pt_dropA {Y : pt_Y} {pc : Nat} {l : List (Nat × pt_V)} {st : List pt_V} {M : pt_M} : pt_Go Y (pc, l, st, M) (pc, [], st, M) := pt_drop fun q hq => by cases hq
theorem dX1_firstFour {t n : Nat} {B : Nat → Nat → Nat → Bool} {M : pt_M} (h : tb_P M t n B) : pt_Does yX1_firstFour YX1_firstFour [pt_r 3 t] M (some (pt_i (nI (w4_F n B)))) M := by
  obtain ⟨ht, hn, hs, hB⟩ := h
  have hlt : ∀ i, i < n → ¬ pt_F M 3 0 t ≤ nI i := fun i hi => by rw [hs]; exact nI_ge hi (by omega)
  have hle : pt_F M 3 0 t ≤ nI n := by rw [hs]; exact Int32.le_refl _
  have hp : ∀ i, i < n → pt_in (nI i) 10 := fun i hi => pt_in_nI (by omega) (by decide)
  have K := pt_nest (Y := YX1_firstFour) (σ := (0, [(0, pt_r 3 t)], [], M)) (τ := (102, [], [pt_i 0], M)) (R := fun v => (76, [], [pt_i (nI v)], M)) (n := n) (i := 0)
    (S := fun a => (2, [(0, pt_r 3 t), (1, pt_i (nI a))], [], M)) (f := fun a => fs_F (n - (a + 1)) (a + 1) fun b => fs_F (n - (b + 1)) (b + 1) fun c => fs_F (n - (c + 1)) (c + 1) fun d => if b4_F B a b c d then some (2 ^ a ||| 2 ^ b ||| 2 ^ c ||| 2 ^ d) else none)
    (Nat.zero_le n) (gX1_firstFour_0_1 t M) ((gX1_firstFour_2_2 t (nI n) M ht hle).tr pt_dropA) fun a _ ha =>
    pt_nest (S := fun b => (14, [(0, pt_r 3 t), (1, pt_i (nI a)), (2, pt_i (nI b))], [], M)) (by omega) ((gX1_firstFour_2_1 t (nI a) M ht (hlt a ha)).to (by rw [nI_1])) ((gX1_firstFour_14_2 t (nI a) (nI n) M ht hle).to (by rw [nI_1])) fun b hb0 hb =>
    pt_nest (S := fun c => (26, [(0, pt_r 3 t), (1, pt_i (nI a)), (2, pt_i (nI b)), (3, pt_i (nI c))], [], M)) (by omega) ((gX1_firstFour_14_1 t (nI a) (nI b) M ht (hlt b hb)).to (by rw [nI_1])) ((gX1_firstFour_26_2 t (nI a) (nI b) (nI n) M ht hle).to (by rw [nI_1])) fun c hc0 hc =>
    pt_nest (S := fun d => (39, [(0, pt_r 3 t), (1, pt_i (nI a)), (2, pt_i (nI b)), (3, pt_i (nI c)), (4, pt_i (nI d))], [], M)) (by omega) ((gX1_firstFour_26_1 t (nI a) (nI b) (nI c) M ht (hlt c hc)).to (by rw [nI_1])) ((gX1_firstFour_39_3 t (nI a) (nI b) (nI c) (nI n) M ht hle).to (by rw [nI_1])) fun d hd0 hd => by
      have hbf := bf_B hB (a := a) (b := b) (c := c) (d := d) (by omega) (by omega) (by omega) (by omega)
      cases hv : b4_F B a b c d
      · refine ⟨fun v z => by simp at z, fun _ => ?_⟩
        exact (gX1_firstFour_39_2 t (nI a) (nI b) (nI c) (nI d) M ht (hlt d hd) (hp a ha) (hp b hb) (hp c hc) (fun z => by rw [hbf, hv] at z; cases z)).to (by rw [nI_1])
      · refine ⟨fun v z => ?_, fun z => by simp at z⟩
        simp only [if_true, Option.some.injEq] at z
        subst z
        refine ((gX1_firstFour_39_1 t (nI a) (nI b) (nI c) (nI d) M ht (hlt d hd) (hp a ha) (hp b hb) (hp c hc) (hbf.mpr hv)).tr pt_dropA).to ?_
        rw [pt_shl1 a (by omega), pt_shl1 b (by omega), pt_shl1 c (by omega), pt_shl1 d (by omega), pt_or, pt_or, pt_or]
  unfold w4_F
  cases hf : f4_F n B with
  | none => exact rX1_firstFour_102 (Nat.le_of_ble_eq_true rfl) rfl (K.2 hf)
  | some v => exact rX1_firstFour_76 (Nat.le_of_ble_eq_true rfl) rfl (K.1 v hf)
theorem rX1_firstFive_98 {vs : List pt_V} {M M' : pt_M} {x : Int32} {L : List (Nat × pt_V)} (hvs : (vs.map pt_w).sum ≤ 6) (hX : M'.2.2.2.2 = M.2.2.2.2) (h : pt_Go YX1_firstFive (0, pt_en 0 vs, [], M) (98, L, [pt_i x], M')) : pt_Does yX1_firstFive YX1_firstFive vs M (some (pt_i x)) M' := pt_does_go tX1_firstFive_ok nX1_firstFive hvs hX ⟨_, by with_unfolding_all rfl, rfl, _, rfl, rfl⟩ h
theorem rX1_firstFive_130 {vs : List pt_V} {M M' : pt_M} {x : Int32} {L : List (Nat × pt_V)} (hvs : (vs.map pt_w).sum ≤ 6) (hX : M'.2.2.2.2 = M.2.2.2.2) (h : pt_Go YX1_firstFive (0, pt_en 0 vs, [], M) (130, L, [pt_i x], M')) : pt_Does yX1_firstFive YX1_firstFive vs M (some (pt_i x)) M' := pt_does_go tX1_firstFive_ok nX1_firstFive hvs hX ⟨_, by with_unfolding_all rfl, rfl, _, rfl, rfl⟩ h
set_option maxRecDepth 100000 in
theorem gX1_firstFive_0_1 (t : Nat)  (M : pt_M) :
    pt_Go YX1_firstFive (0, [(0, pt_r 3 t)], [], M)
      (2, [(0, pt_r 3 t), (1, pt_i 0)], [], M) :=
  pt_run_ok tX1_firstFive_ok 2 [] (P := True) (by with_unfolding_all rfl) trivial
set_option maxRecDepth 100000 in
theorem gX1_firstFive_2_1 (t : Nat) (l1 : Int32)  (M : pt_M) (h1 : t < 7) (h2 : ¬ (pt_F M 3 0 t) ≤ l1) :
    pt_Go YX1_firstFive (2, [(0, pt_r 3 t), (1, pt_i l1)], [], M)
      (14, [(0, pt_r 3 t), (1, pt_i l1), (2, pt_i (l1 + 1))], [], M) :=
  pt_run_ok tX1_firstFive_ok 8 [.inl false] (P := (t < 7) ∧ (¬ (pt_F M 3 0 t) ≤ l1) ∧ True) (by with_unfolding_all rfl) ⟨h1, h2, trivial⟩
set_option maxRecDepth 100000 in
theorem gX1_firstFive_2_2 (t : Nat) (l1 : Int32)  (M : pt_M) (h1 : t < 7) (h2 : (pt_F M 3 0 t) ≤ l1) :
    pt_Go YX1_firstFive (2, [(0, pt_r 3 t), (1, pt_i l1)], [], M)
      (130, [(0, pt_r 3 t), (1, pt_i l1)], [pt_i 0], M) :=
  pt_run_ok tX1_firstFive_ok 5 [.inl true] (P := (t < 7) ∧ ((pt_F M 3 0 t) ≤ l1) ∧ True) (by with_unfolding_all rfl) ⟨h1, h2, trivial⟩
set_option maxRecDepth 100000 in
theorem gX1_firstFive_14_1 (t : Nat) (l1 : Int32) (l2 : Int32)  (M : pt_M) (h1 : t < 7) (h2 : ¬ (pt_F M 3 0 t) ≤ l2) :
    pt_Go YX1_firstFive (14, [(0, pt_r 3 t), (1, pt_i l1), (2, pt_i l2)], [], M)
      (26, [(0, pt_r 3 t), (1, pt_i l1), (2, pt_i l2), (3, pt_i (l2 + 1))], [], M) :=
  pt_run_ok tX1_firstFive_ok 8 [.inl false] (P := (t < 7) ∧ (¬ (pt_F M 3 0 t) ≤ l2) ∧ True) (by with_unfolding_all rfl) ⟨h1, h2, trivial⟩
set_option maxRecDepth 100000 in
theorem gX1_firstFive_14_2 (t : Nat) (l1 : Int32) (l2 : Int32)  (M : pt_M) (h1 : t < 7) (h2 : (pt_F M 3 0 t) ≤ l2) :
    pt_Go YX1_firstFive (14, [(0, pt_r 3 t), (1, pt_i l1), (2, pt_i l2)], [], M)
      (2, [(0, pt_r 3 t), (1, pt_i (l1 + 1))], [], M) :=
  (pt_run_ok tX1_firstFive_ok 6 [.inl true] (P := (t < 7) ∧ ((pt_F M 3 0 t) ≤ l2) ∧ True) (by with_unfolding_all rfl) ⟨h1, h2, trivial⟩ : pt_Go YX1_firstFive _ (2, [(0, pt_r 3 t), (1, pt_i (l1 + 1)), (2, pt_i l2)], [], M)).tr (pt_pick [0, 1] (by with_unfolding_all rfl))
set_option maxRecDepth 100000 in
theorem gX1_firstFive_26_1 (t : Nat) (l1 : Int32) (l2 : Int32) (l3 : Int32)  (M : pt_M) (h1 : t < 7) (h2 : ¬ (pt_F M 3 0 t) ≤ l3) :
    pt_Go YX1_firstFive (26, [(0, pt_r 3 t), (1, pt_i l1), (2, pt_i l2), (3, pt_i l3)], [], M)
      (39, [(0, pt_r 3 t), (1, pt_i l1), (2, pt_i l2), (3, pt_i l3), (4, pt_i (l3 + 1))], [], M) :=
  pt_run_ok tX1_firstFive_ok 8 [.inl false] (P := (t < 7) ∧ (¬ (pt_F M 3 0 t) ≤ l3) ∧ True) (by with_unfolding_all rfl) ⟨h1, h2, trivial⟩
set_option maxRecDepth 100000 in
theorem gX1_firstFive_26_2 (t : Nat) (l1 : Int32) (l2 : Int32) (l3 : Int32)  (M : pt_M) (h1 : t < 7) (h2 : (pt_F M 3 0 t) ≤ l3) :
    pt_Go YX1_firstFive (26, [(0, pt_r 3 t), (1, pt_i l1), (2, pt_i l2), (3, pt_i l3)], [], M)
      (14, [(0, pt_r 3 t), (1, pt_i l1), (2, pt_i (l2 + 1))], [], M) :=
  (pt_run_ok tX1_firstFive_ok 6 [.inl true] (P := (t < 7) ∧ ((pt_F M 3 0 t) ≤ l3) ∧ True) (by with_unfolding_all rfl) ⟨h1, h2, trivial⟩ : pt_Go YX1_firstFive _ (14, [(0, pt_r 3 t), (1, pt_i l1), (2, pt_i (l2 + 1)), (3, pt_i l3)], [], M)).tr (pt_pick [0, 1, 2] (by with_unfolding_all rfl))
set_option maxRecDepth 100000 in
theorem gX1_firstFive_39_1 (t : Nat) (l1 : Int32) (l2 : Int32) (l3 : Int32) (l4 : Int32)  (M : pt_M) (h1 : t < 7) (h2 : ¬ (pt_F M 3 0 t) ≤ l4) :
    pt_Go YX1_firstFive (39, [(0, pt_r 3 t), (1, pt_i l1), (2, pt_i l2), (3, pt_i l3), (4, pt_i l4)], [], M)
      (54, [(0, pt_r 3 t), (1, pt_i l1), (2, pt_i l2), (3, pt_i l3), (4, pt_i l4), (5, pt_i (l4 + 1))], [], M) :=
  pt_run_ok tX1_firstFive_ok 8 [.inl false] (P := (t < 7) ∧ (¬ (pt_F M 3 0 t) ≤ l4) ∧ True) (by with_unfolding_all rfl) ⟨h1, h2, trivial⟩
set_option maxRecDepth 100000 in
theorem gX1_firstFive_39_2 (t : Nat) (l1 : Int32) (l2 : Int32) (l3 : Int32) (l4 : Int32)  (M : pt_M) (h1 : t < 7) (h2 : (pt_F M 3 0 t) ≤ l4) :
    pt_Go YX1_firstFive (39, [(0, pt_r 3 t), (1, pt_i l1), (2, pt_i l2), (3, pt_i l3), (4, pt_i l4)], [], M)
      (26, [(0, pt_r 3 t), (1, pt_i l1), (2, pt_i l2), (3, pt_i (l3 + 1))], [], M) :=
  (pt_run_ok tX1_firstFive_ok 6 [.inl true] (P := (t < 7) ∧ ((pt_F M 3 0 t) ≤ l4) ∧ True) (by with_unfolding_all rfl) ⟨h1, h2, trivial⟩ : pt_Go YX1_firstFive _ (26, [(0, pt_r 3 t), (1, pt_i l1), (2, pt_i l2), (3, pt_i (l3 + 1)), (4, pt_i l4)], [], M)).tr (pt_pick [0, 1, 2, 3] (by with_unfolding_all rfl))
set_option maxRecDepth 100000 in
theorem gX1_firstFive_54_1 (t : Nat) (l1 : Int32) (l2 : Int32) (l3 : Int32) (l4 : Int32) (l5 : Int32)  (M : pt_M) (h1 : t < 7) (h2 : ¬ (pt_F M 3 0 t) ≤ l5) (h3 : pt_in l1 10) (h4 : pt_in l2 10) (h5 : pt_in l3 10) (h6 : pt_in l4 10) (h7 : pt_in l5 10) (h8 : bv_P M t l1 l2 l3 l4 l5) :
    pt_Go YX1_firstFive (54, [(0, pt_r 3 t), (1, pt_i l1), (2, pt_i l2), (3, pt_i l3), (4, pt_i l4), (5, pt_i l5)], [], M)
      (98, [(0, pt_r 3 t), (1, pt_i l1), (2, pt_i l2), (3, pt_i l3), (4, pt_i l4), (5, pt_i l5)], [pt_i ((((((1 : Int32) <<< (l1 &&& 31)) ||| ((1 : Int32) <<< (l2 &&& 31))) ||| ((1 : Int32) <<< (l3 &&& 31))) ||| ((1 : Int32) <<< (l4 &&& 31))) ||| ((1 : Int32) <<< (l5 &&& 31)))], M) :=
  pt_run_ok tX1_firstFive_ok 31 [.inl false, .inr (6, some (pt_i 1), M), .inl false] (P := (t < 7) ∧ (¬ (pt_F M 3 0 t) ≤ l5) ∧ pt_Cal YX1_firstFive (.invokestatic 33) [pt_r 3 t, pt_i l1, pt_i l2, pt_i l3, pt_i l4, pt_i l5] M (some (pt_i 1)) M ∧ (¬ (1 : Int32) = (0 : Int32)) ∧ True) (by with_unfolding_all rfl) ⟨h1, h2, (pt_callS kX1_firstFive_33 mX1_breaksFive rfl (dX1_breaksFive_1 h1 h3 h4 h5 h6 h7 h8)), (by decide), trivial⟩
set_option maxRecDepth 100000 in
theorem gX1_firstFive_54_2 (t : Nat) (l1 : Int32) (l2 : Int32) (l3 : Int32) (l4 : Int32) (l5 : Int32)  (M : pt_M) (h1 : t < 7) (h2 : ¬ (pt_F M 3 0 t) ≤ l5) (h3 : pt_in l1 10) (h4 : pt_in l2 10) (h5 : pt_in l3 10) (h6 : pt_in l4 10) (h7 : pt_in l5 10) (h8 : ¬ bv_P M t l1 l2 l3 l4 l5) :
    pt_Go YX1_firstFive (54, [(0, pt_r 3 t), (1, pt_i l1), (2, pt_i l2), (3, pt_i l3), (4, pt_i l4), (5, pt_i l5)], [], M)
      (54, [(0, pt_r 3 t), (1, pt_i l1), (2, pt_i l2), (3, pt_i l3), (4, pt_i l4), (5, pt_i (l5 + 1))], [], M) :=
  pt_run_ok tX1_firstFive_ok 14 [.inl false, .inr (6, some (pt_i 0), M), .inl true] (P := (t < 7) ∧ (¬ (pt_F M 3 0 t) ≤ l5) ∧ pt_Cal YX1_firstFive (.invokestatic 33) [pt_r 3 t, pt_i l1, pt_i l2, pt_i l3, pt_i l4, pt_i l5] M (some (pt_i 0)) M ∧ ((0 : Int32) = (0 : Int32)) ∧ True) (by with_unfolding_all rfl) ⟨h1, h2, (pt_callS kX1_firstFive_33 mX1_breaksFive rfl (dX1_breaksFive_0 h1 h3 h4 h5 h6 h7 h8)), (by decide), trivial⟩
set_option maxRecDepth 100000 in
theorem gX1_firstFive_54_3 (t : Nat) (l1 : Int32) (l2 : Int32) (l3 : Int32) (l4 : Int32) (l5 : Int32)  (M : pt_M) (h1 : t < 7) (h2 : (pt_F M 3 0 t) ≤ l5) :
    pt_Go YX1_firstFive (54, [(0, pt_r 3 t), (1, pt_i l1), (2, pt_i l2), (3, pt_i l3), (4, pt_i l4), (5, pt_i l5)], [], M)
      (39, [(0, pt_r 3 t), (1, pt_i l1), (2, pt_i l2), (3, pt_i l3), (4, pt_i (l4 + 1))], [], M) :=
  (pt_run_ok tX1_firstFive_ok 6 [.inl true] (P := (t < 7) ∧ ((pt_F M 3 0 t) ≤ l5) ∧ True) (by with_unfolding_all rfl) ⟨h1, h2, trivial⟩ : pt_Go YX1_firstFive _ (39, [(0, pt_r 3 t), (1, pt_i l1), (2, pt_i l2), (3, pt_i l3), (4, pt_i (l4 + 1)), (5, pt_i l5)], [], M)).tr (pt_pick [0, 1, 2, 3, 4] (by with_unfolding_all rfl))
theorem dX1_firstFive {t n : Nat} {B : Nat → Nat → Nat → Bool} {M : pt_M} (h : tb_P M t n B) : pt_Does yX1_firstFive YX1_firstFive [pt_r 3 t] M (some (pt_i (nI (w5_F n B)))) M := by
  obtain ⟨ht, hn, hs, hB⟩ := h
  have hlt : ∀ i, i < n → ¬ pt_F M 3 0 t ≤ nI i := fun i hi => by rw [hs]; exact nI_ge hi (by omega)
  have hle : pt_F M 3 0 t ≤ nI n := by rw [hs]; exact Int32.le_refl _
  have hp : ∀ i, i < n → pt_in (nI i) 10 := fun i hi => pt_in_nI (by omega) (by decide)
  have K := pt_nest (Y := YX1_firstFive) (σ := (0, [(0, pt_r 3 t)], [], M)) (τ := (130, [], [pt_i 0], M)) (R := fun v => (98, [], [pt_i (nI v)], M)) (n := n) (i := 0)
    (S := fun a => (2, [(0, pt_r 3 t), (1, pt_i (nI a))], [], M)) (f := fun a => fs_F (n - (a + 1)) (a + 1) fun b => fs_F (n - (b + 1)) (b + 1) fun c => fs_F (n - (c + 1)) (c + 1) fun d => fs_F (n - (d + 1)) (d + 1) fun e => if b5_F B a b c d e then some (2 ^ a ||| 2 ^ b ||| 2 ^ c ||| 2 ^ d ||| 2 ^ e) else none)
    (Nat.zero_le n) (gX1_firstFive_0_1 t M) ((gX1_firstFive_2_2 t (nI n) M ht hle).tr pt_dropA) fun a _ ha =>
    pt_nest (S := fun b => (14, [(0, pt_r 3 t), (1, pt_i (nI a)), (2, pt_i (nI b))], [], M)) (by omega) ((gX1_firstFive_2_1 t (nI a) M ht (hlt a ha)).to (by rw [nI_1])) ((gX1_firstFive_14_2 t (nI a) (nI n) M ht hle).to (by rw [nI_1])) fun b hb0 hb =>
    pt_nest (S := fun c => (26, [(0, pt_r 3 t), (1, pt_i (nI a)), (2, pt_i (nI b)), (3, pt_i (nI c))], [], M)) (by omega) ((gX1_firstFive_14_1 t (nI a) (nI b) M ht (hlt b hb)).to (by rw [nI_1])) ((gX1_firstFive_26_2 t (nI a) (nI b) (nI n) M ht hle).to (by rw [nI_1])) fun c hc0 hc =>
    pt_nest (S := fun d => (39, [(0, pt_r 3 t), (1, pt_i (nI a)), (2, pt_i (nI b)), (3, pt_i (nI c)), (4, pt_i (nI d))], [], M)) (by omega) ((gX1_firstFive_26_1 t (nI a) (nI b) (nI c) M ht (hlt c hc)).to (by rw [nI_1])) ((gX1_firstFive_39_2 t (nI a) (nI b) (nI c) (nI n) M ht hle).to (by rw [nI_1])) fun d hd0 hd =>
    pt_nest (S := fun e => (54, [(0, pt_r 3 t), (1, pt_i (nI a)), (2, pt_i (nI b)), (3, pt_i (nI c)), (4, pt_i (nI d)), (5, pt_i (nI e))], [], M)) (by omega) ((gX1_firstFive_39_1 t (nI a) (nI b) (nI c) (nI d) M ht (hlt d hd)).to (by rw [nI_1])) ((gX1_firstFive_54_3 t (nI a) (nI b) (nI c) (nI d) (nI n) M ht hle).to (by rw [nI_1])) fun e he0 he => by
      have hbf := bv_B hB (a := a) (b := b) (c := c) (d := d) (e := e) (by omega) (by omega) (by omega) (by omega) (by omega)
      cases hv : b5_F B a b c d e
      · refine ⟨fun v z => by simp at z, fun _ => ?_⟩
        exact (gX1_firstFive_54_2 t (nI a) (nI b) (nI c) (nI d) (nI e) M ht (hlt e he) (hp a ha) (hp b hb) (hp c hc) (hp d hd) (hp e he) (fun z => by rw [hbf, hv] at z; cases z)).to (by rw [nI_1])
      · refine ⟨fun v z => ?_, fun z => by simp at z⟩
        simp only [if_true, Option.some.injEq] at z
        subst z
        refine ((gX1_firstFive_54_1 t (nI a) (nI b) (nI c) (nI d) (nI e) M ht (hlt e he) (hp a ha) (hp b hb) (hp c hc) (hp d hd) (hp e he) (hbf.mpr hv)).tr pt_dropA).to ?_
        rw [pt_shl1 a (by omega), pt_shl1 b (by omega), pt_shl1 c (by omega), pt_shl1 d (by omega), pt_shl1 e (by omega), pt_or, pt_or, pt_or, pt_or]
  unfold w5_F
  cases hf : f5_F n B with
  | none => exact rX1_firstFive_130 (Nat.le_of_ble_eq_true rfl) rfl (K.2 hf)
  | some v => exact rX1_firstFive_98 (Nat.le_of_ble_eq_true rfl) rfl (K.1 v hf)
theorem pt_wF_self {M : pt_M} {k f i : Nat} {v : Int32} (h : pt_F M k f i = v) : pt_wF M k f i v = M := by
  obtain ⟨F, X⟩ := M
  unfold pt_wF
  congr 1
  funext k' f' i'
  dsimp only
  split
  · rename_i hq
    obtain ⟨rfl, rfl, rfl⟩ := hq
    exact h.symm
  · rfl
/-- the fault that is kept is the table's, or none is kept -/
def fa_P (M : pt_M) (t n : Nat) (B : Nat → Nat → Nat → Bool) : Prop := pt_F M 3 2 t = -2 ∨ pt_F M 3 2 t = nI (wy_F n B)
theorem fs_lt {α : Type} {P : α → Prop} {f : Nat → Option α} : ∀ {d i : Nat} {v : α}, (∀ j w, i ≤ j → j < i + d → f j = some w → P w) → fs_F d i f = some v → P v
  | 0, i, v, _, h => by cases h
  | d + 1, i, v, hf, h => by
    unfold fs_F at h
    cases hi : f i with
    | some w => rw [hi] at h; cases h; exact hf i v (Nat.le_refl i) (by omega) hi
    | none => rw [hi] at h; exact fs_lt (fun j w h1 h2 h3 => hf j w (by omega) (by omega) h3) h
theorem p2_lt {a : Nat} (h : a < 10) : 2 ^ a < 2 ^ 10 := Nat.pow_lt_pow_right (by decide) h
theorem or_ne {a : Nat} (x : Nat) : x ||| 2 ^ a ≠ 0 := by
  intro h
  have h1 : (x ||| 2 ^ a).testBit a = true := by simp [Nat.testBit_or, Nat.testBit_two_pow]
  rw [h] at h1
  simp at h1
theorem f4_ok {n : Nat} {B : Nat → Nat → Nat → Bool} (hn : n ≤ 10) {v : Nat} (h : f4_F n B = some v) : v < 1024 ∧ v ≠ 0 := by
  refine fs_lt (P := fun v => v < 1024 ∧ v ≠ 0) (fun a w ha1 ha2 h => ?_) h
  refine fs_lt (P := fun v => v < 1024 ∧ v ≠ 0) (fun b w hb1 hb2 h => ?_) h
  refine fs_lt (P := fun v => v < 1024 ∧ v ≠ 0) (fun c w hc1 hc2 h => ?_) h
  refine fs_lt (P := fun v => v < 1024 ∧ v ≠ 0) (fun d w hd1 hd2 h => ?_) h
  split at h
  · cases h
    exact ⟨Nat.or_lt_two_pow (n := 10) (Nat.or_lt_two_pow (Nat.or_lt_two_pow (p2_lt (by omega)) (p2_lt (by omega))) (p2_lt (by omega))) (p2_lt (by omega)), or_ne _⟩
  · cases h
theorem f5_ok {n : Nat} {B : Nat → Nat → Nat → Bool} (hn : n ≤ 10) {v : Nat} (h : f5_F n B = some v) : v < 1024 ∧ v ≠ 0 := by
  refine fs_lt (P := fun v => v < 1024 ∧ v ≠ 0) (fun a w ha1 ha2 h => ?_) h
  refine fs_lt (P := fun v => v < 1024 ∧ v ≠ 0) (fun b w hb1 hb2 h => ?_) h
  refine fs_lt (P := fun v => v < 1024 ∧ v ≠ 0) (fun c w hc1 hc2 h => ?_) h
  refine fs_lt (P := fun v => v < 1024 ∧ v ≠ 0) (fun d w hd1 hd2 h => ?_) h
  refine fs_lt (P := fun v => v < 1024 ∧ v ≠ 0) (fun e w he1 he2 h => ?_) h
  split at h
  · cases h
    exact ⟨Nat.or_lt_two_pow (n := 10) (Nat.or_lt_two_pow (Nat.or_lt_two_pow (Nat.or_lt_two_pow (p2_lt (by omega)) (p2_lt (by omega))) (p2_lt (by omega))) (p2_lt (by omega))) (p2_lt (by omega)), or_ne _⟩
  · cases h
theorem w4_lt {n : Nat} {B : Nat → Nat → Nat → Bool} (hn : n ≤ 10) : w4_F n B < 1024 := by
  unfold w4_F
  cases h : f4_F n B with
  | none => decide
  | some v => exact (f4_ok hn h).1
theorem w5_lt {n : Nat} {B : Nat → Nat → Nat → Bool} (hn : n ≤ 10) : w5_F n B < 1024 := by
  unfold w5_F
  cases h : f5_F n B with
  | none => decide
  | some v => exact (f5_ok hn h).1
theorem wy_lt {n : Nat} {B : Nat → Nat → Nat → Bool} (hn : n ≤ 10) : wy_F n B < 1024 := by
  unfold wy_F
  split
  · exact w5_lt hn
  · exact w4_lt hn
theorem nI_0' {a : Nat} (ha : a < 2 ^ 31) : nI a = 0 ↔ a = 0 := nI_eq ha (by decide)
theorem rX1_faultOf_34 {vs : List pt_V} {M M' : pt_M} {x : Int32} {L : List (Nat × pt_V)} (hvs : (vs.map pt_w).sum ≤ 2) (hX : M'.2.2.2.2 = M.2.2.2.2) (h : pt_Go YX1_faultOf (0, pt_en 0 vs, [], M) (34, L, [pt_i x], M')) : pt_Does yX1_faultOf YX1_faultOf vs M (some (pt_i x)) M' := pt_does_go tX1_faultOf_ok nX1_faultOf hvs hX ⟨_, by with_unfolding_all rfl, rfl, _, rfl, rfl⟩ h
set_option maxRecDepth 100000 in
theorem gX1_faultOf_0_1 (t : Nat) (n : Nat) (B : Nat → Nat → Nat → Bool) (M : pt_M) (h1 : t < 7) (h2 : (pt_F M 3 2 t) = (-2)) (h3 : tb_P M t n B) (h4 : ¬ (nI (w4_F n B)) = 0) :
    pt_Go YX1_faultOf (0, [(0, pt_r 3 t)], [], M)
      (34, [(0, pt_r 3 t), (1, pt_i (nI (w4_F n B)))], [pt_i (pt_F (pt_wF M 3 2 t (nI (w4_F n B))) 3 2 t)], (pt_wF M 3 2 t (nI (w4_F n B)))) :=
  pt_run_ok tX1_faultOf_ok 15 [.inl false, .inr (1, some (pt_i (nI (w4_F n B))), M), .inl false] (P := (t < 7) ∧ ((pt_F M 3 2 t) = (-2)) ∧ pt_Cal YX1_faultOf (.invokestatic 13) [pt_r 3 t] M (some (pt_i (nI (w4_F n B)))) M ∧ (¬ (nI (w4_F n B)) = 0) ∧ (t < 7) ∧ (t < 7) ∧ True) (by with_unfolding_all rfl) ⟨h1, h2, (pt_callS kX1_faultOf_13 mX1_firstFour rfl (dX1_firstFour h3)), h4, h1, h1, trivial⟩
set_option maxRecDepth 100000 in
theorem gX1_faultOf_0_2 (t : Nat) (n : Nat) (B : Nat → Nat → Nat → Bool) (M : pt_M) (h1 : t < 7) (h2 : (pt_F M 3 2 t) = (-2)) (h3 : tb_P M t n B) (h4 : (nI (w4_F n B)) = 0) :
    pt_Go YX1_faultOf (0, [(0, pt_r 3 t)], [], M)
      (34, [(0, pt_r 3 t), (1, pt_i (nI (w4_F n B)))], [pt_i (pt_F (pt_wF M 3 2 t (nI (w5_F n B))) 3 2 t)], (pt_wF M 3 2 t (nI (w5_F n B)))) :=
  pt_run_ok tX1_faultOf_ok 15 [.inl false, .inr (1, some (pt_i (nI (w4_F n B))), M), .inl true, .inr (1, some (pt_i (nI (w5_F n B))), M)] (P := (t < 7) ∧ ((pt_F M 3 2 t) = (-2)) ∧ pt_Cal YX1_faultOf (.invokestatic 13) [pt_r 3 t] M (some (pt_i (nI (w4_F n B)))) M ∧ ((nI (w4_F n B)) = 0) ∧ pt_Cal YX1_faultOf (.invokestatic 19) [pt_r 3 t] M (some (pt_i (nI (w5_F n B)))) M ∧ (t < 7) ∧ (t < 7) ∧ True) (by with_unfolding_all rfl) ⟨h1, h2, (pt_callS kX1_faultOf_13 mX1_firstFour rfl (dX1_firstFour h3)), h4, (pt_callS kX1_faultOf_19 mX1_firstFive rfl (dX1_firstFive h3)), h1, h1, trivial⟩
set_option maxRecDepth 100000 in
theorem gX1_faultOf_0_3 (t : Nat) (n : Nat) (B : Nat → Nat → Nat → Bool) (M : pt_M) (h1 : t < 7) (h2 : ¬ (pt_F M 3 2 t) = (-2)) :
    pt_Go YX1_faultOf (0, [(0, pt_r 3 t)], [], M)
      (34, [(0, pt_r 3 t)], [pt_i (pt_F M 3 2 t)], M) :=
  pt_run_ok tX1_faultOf_ok 6 [.inl true] (P := (t < 7) ∧ (¬ (pt_F M 3 2 t) = (-2)) ∧ (t < 7) ∧ True) (by with_unfolding_all rfl) ⟨h1, h2, h1, trivial⟩
theorem dX1_faultOf {t n : Nat} {B : Nat → Nat → Nat → Bool} {M : pt_M} (h : tb_P M t n B) (hf : fa_P M t n B) : pt_Does yX1_faultOf YX1_faultOf [pt_r 3 t] M (some (pt_i (nI (wy_F n B)))) (pt_wF M 3 2 t (nI (wy_F n B))) := by
  have hn := h.2.1
  have h4 := w4_lt (B := B) hn
  by_cases hu : pt_F M 3 2 t = -2
  · by_cases h0 : w4_F n B = 0
    · have e : wy_F n B = w5_F n B := by unfold wy_F; rw [if_pos h0]
      rw [e]
      exact rX1_faultOf_34 (Nat.le_of_ble_eq_true rfl) rfl ((gX1_faultOf_0_2 t n B M h.1 hu h ((nI_0' (by omega)).mpr h0)).toS (by rw [pt_F_wF, if_pos ⟨rfl, rfl, rfl⟩]) rfl)
    · have e : wy_F n B = w4_F n B := by unfold wy_F; rw [if_neg h0]
      rw [e]
      exact rX1_faultOf_34 (Nat.le_of_ble_eq_true rfl) rfl ((gX1_faultOf_0_1 t n B M h.1 hu h (fun z => h0 ((nI_0' (by omega)).mp z))).toS (by rw [pt_F_wF, if_pos ⟨rfl, rfl, rfl⟩]) rfl)
  · have hv : pt_F M 3 2 t = nI (wy_F n B) := hf.resolve_left hu
    exact rX1_faultOf_34 (Nat.le_of_ble_eq_true rfl) rfl ((gX1_faultOf_0_3 t n B M h.1 hu).toS (by rw [hv]) (pt_wF_self hv).symm)
