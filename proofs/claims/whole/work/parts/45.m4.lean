/-! THE MODEL: breaksFour, breaksFive, breaks -/
def bq_P (M : pt_M) (x i j k l : Int32) (n : Nat) (B : Nat → Nat → Nat → Bool) : Prop := ∃ o a b c d, x = nI o ∧ i = nI a ∧ j = nI b ∧ k = nI c ∧ l = nI d ∧ ml_P M o n B ∧ a < n ∧ b < n ∧ c < n ∧ d < n ∧ a ≠ b ∧ a ≠ c ∧ a ≠ d ∧ b ≠ c ∧ b ≠ d ∧ c ≠ d
def q4_I (B : Nat → Nat → Nat → Bool) (i j k l : Int32) : Int32 := pt_b (q4_F B (pt_nt i) (pt_nt j) (pt_nt k) (pt_nt l))
theorem rX7_breaksFour_55 {vs : List pt_V} {M M' : pt_M} {x : Int32} {L : List (Nat × pt_V)} (hn : narrow .boolean (.int x) = .int x) (hvs : (vs.map pt_w).sum ≤ 6) (hX : M'.2.2.2.2 = M.2.2.2.2) (h : pt_Go YX7_breaksFour (0, pt_en 0 vs, [], M) (55, L, [pt_i x], M')) : pt_Does yX7_breaksFour YX7_breaksFour vs M (some (pt_i x)) M' := pt_does_go tX7_breaksFour_ok nX7_breaksFour hvs hX ⟨_, by with_unfolding_all rfl, rfl, _, rfl, hn⟩ h
set_option maxRecDepth 100000 in
theorem gX7_breaksFour_0_1 (x1 : Int32) (x2 : Int32) (x3 : Int32) (x4 : Int32) (x5 : Int32) (n : Nat) (B : Nat → Nat → Nat → Bool) (M : pt_M) (h1 : tq_P M x1 x2 x3 x5 n B) (h2 : ¬ (tl_I B x2 x3 x5) = 0) (h3 : tq_P M x1 x3 x4 x5 n B) (h4 : ¬ (tl_I B x3 x4 x5) = 0) (h5 : tq_P M x1 x4 x2 x5 n B) (h6 : ¬ (tl_I B x4 x2 x5) = 0) (h7 : tq_P M x1 x2 x3 x4 n B) (h8 : (tl_I B x2 x3 x4) = 0) :
    pt_Go YX7_breaksFour (0, [(0, pt_r 7 0), (1, pt_i x1), (2, pt_i x2), (3, pt_i x3), (4, pt_i x4), (5, pt_i x5)], [], M)
      (55, [(0, pt_r 7 0), (1, pt_i x1), (2, pt_i x2), (3, pt_i x3), (4, pt_i x4), (5, pt_i x5)], [pt_i 1], M) :=
  pt_run_ok tX7_breaksFour_ok 30 [.inr (5, some (pt_i (tl_I B x2 x3 x5)), M), .inl false, .inr (5, some (pt_i (tl_I B x3 x4 x5)), M), .inl false, .inr (5, some (pt_i (tl_I B x4 x2 x5)), M), .inl false, .inr (5, some (pt_i (tl_I B x2 x3 x4)), M), .inl false] (P := pt_Cal YX7_breaksFour (.invokevirtual 118) [pt_r 7 0, pt_i x1, pt_i x2, pt_i x3, pt_i x5] M (some (pt_i (tl_I B x2 x3 x5))) M ∧ (¬ (tl_I B x2 x3 x5) = 0) ∧ pt_Cal YX7_breaksFour (.invokevirtual 118) [pt_r 7 0, pt_i x1, pt_i x3, pt_i x4, pt_i x5] M (some (pt_i (tl_I B x3 x4 x5))) M ∧ (¬ (tl_I B x3 x4 x5) = 0) ∧ pt_Cal YX7_breaksFour (.invokevirtual 118) [pt_r 7 0, pt_i x1, pt_i x4, pt_i x2, pt_i x5] M (some (pt_i (tl_I B x4 x2 x5))) M ∧ (¬ (tl_I B x4 x2 x5) = 0) ∧ pt_Cal YX7_breaksFour (.invokevirtual 118) [pt_r 7 0, pt_i x1, pt_i x2, pt_i x3, pt_i x4] M (some (pt_i (tl_I B x2 x3 x4))) M ∧ ((tl_I B x2 x3 x4) = 0) ∧ True) (by with_unfolding_all rfl) ⟨(pt_callV (i := 0) kX7_breaksFour_118 mX7_left rfl (by decide) rfl (dX7_left_t h1)), h2, (pt_callV (i := 0) kX7_breaksFour_118 mX7_left rfl (by decide) rfl (dX7_left_t h3)), h4, (pt_callV (i := 0) kX7_breaksFour_118 mX7_left rfl (by decide) rfl (dX7_left_t h5)), h6, (pt_callV (i := 0) kX7_breaksFour_118 mX7_left rfl (by decide) rfl (dX7_left_t h7)), h8, trivial⟩
set_option maxRecDepth 100000 in
theorem gX7_breaksFour_0_2 (x1 : Int32) (x2 : Int32) (x3 : Int32) (x4 : Int32) (x5 : Int32) (n : Nat) (B : Nat → Nat → Nat → Bool) (M : pt_M) (h1 : tq_P M x1 x2 x3 x5 n B) (h2 : ¬ (tl_I B x2 x3 x5) = 0) (h3 : tq_P M x1 x3 x4 x5 n B) (h4 : ¬ (tl_I B x3 x4 x5) = 0) (h5 : tq_P M x1 x4 x2 x5 n B) (h6 : ¬ (tl_I B x4 x2 x5) = 0) (h7 : tq_P M x1 x2 x3 x4 n B) (h8 : ¬ (tl_I B x2 x3 x4) = 0) :
    pt_Go YX7_breaksFour (0, [(0, pt_r 7 0), (1, pt_i x1), (2, pt_i x2), (3, pt_i x3), (4, pt_i x4), (5, pt_i x5)], [], M)
      (55, [(0, pt_r 7 0), (1, pt_i x1), (2, pt_i x2), (3, pt_i x3), (4, pt_i x4), (5, pt_i x5)], [pt_i 0], M) :=
  pt_run_ok tX7_breaksFour_ok 29 [.inr (5, some (pt_i (tl_I B x2 x3 x5)), M), .inl false, .inr (5, some (pt_i (tl_I B x3 x4 x5)), M), .inl false, .inr (5, some (pt_i (tl_I B x4 x2 x5)), M), .inl false, .inr (5, some (pt_i (tl_I B x2 x3 x4)), M), .inl true] (P := pt_Cal YX7_breaksFour (.invokevirtual 118) [pt_r 7 0, pt_i x1, pt_i x2, pt_i x3, pt_i x5] M (some (pt_i (tl_I B x2 x3 x5))) M ∧ (¬ (tl_I B x2 x3 x5) = 0) ∧ pt_Cal YX7_breaksFour (.invokevirtual 118) [pt_r 7 0, pt_i x1, pt_i x3, pt_i x4, pt_i x5] M (some (pt_i (tl_I B x3 x4 x5))) M ∧ (¬ (tl_I B x3 x4 x5) = 0) ∧ pt_Cal YX7_breaksFour (.invokevirtual 118) [pt_r 7 0, pt_i x1, pt_i x4, pt_i x2, pt_i x5] M (some (pt_i (tl_I B x4 x2 x5))) M ∧ (¬ (tl_I B x4 x2 x5) = 0) ∧ pt_Cal YX7_breaksFour (.invokevirtual 118) [pt_r 7 0, pt_i x1, pt_i x2, pt_i x3, pt_i x4] M (some (pt_i (tl_I B x2 x3 x4))) M ∧ (¬ (tl_I B x2 x3 x4) = 0) ∧ True) (by with_unfolding_all rfl) ⟨(pt_callV (i := 0) kX7_breaksFour_118 mX7_left rfl (by decide) rfl (dX7_left_t h1)), h2, (pt_callV (i := 0) kX7_breaksFour_118 mX7_left rfl (by decide) rfl (dX7_left_t h3)), h4, (pt_callV (i := 0) kX7_breaksFour_118 mX7_left rfl (by decide) rfl (dX7_left_t h5)), h6, (pt_callV (i := 0) kX7_breaksFour_118 mX7_left rfl (by decide) rfl (dX7_left_t h7)), h8, trivial⟩
set_option maxRecDepth 100000 in
theorem gX7_breaksFour_0_3 (x1 : Int32) (x2 : Int32) (x3 : Int32) (x4 : Int32) (x5 : Int32) (n : Nat) (B : Nat → Nat → Nat → Bool) (M : pt_M) (h1 : tq_P M x1 x2 x3 x5 n B) (h2 : ¬ (tl_I B x2 x3 x5) = 0) (h3 : tq_P M x1 x3 x4 x5 n B) (h4 : ¬ (tl_I B x3 x4 x5) = 0) (h5 : tq_P M x1 x4 x2 x5 n B) (h6 : (tl_I B x4 x2 x5) = 0) :
    pt_Go YX7_breaksFour (0, [(0, pt_r 7 0), (1, pt_i x1), (2, pt_i x2), (3, pt_i x3), (4, pt_i x4), (5, pt_i x5)], [], M)
      (55, [(0, pt_r 7 0), (1, pt_i x1), (2, pt_i x2), (3, pt_i x3), (4, pt_i x4), (5, pt_i x5)], [pt_i 0], M) :=
  pt_run_ok tX7_breaksFour_ok 22 [.inr (5, some (pt_i (tl_I B x2 x3 x5)), M), .inl false, .inr (5, some (pt_i (tl_I B x3 x4 x5)), M), .inl false, .inr (5, some (pt_i (tl_I B x4 x2 x5)), M), .inl true] (P := pt_Cal YX7_breaksFour (.invokevirtual 118) [pt_r 7 0, pt_i x1, pt_i x2, pt_i x3, pt_i x5] M (some (pt_i (tl_I B x2 x3 x5))) M ∧ (¬ (tl_I B x2 x3 x5) = 0) ∧ pt_Cal YX7_breaksFour (.invokevirtual 118) [pt_r 7 0, pt_i x1, pt_i x3, pt_i x4, pt_i x5] M (some (pt_i (tl_I B x3 x4 x5))) M ∧ (¬ (tl_I B x3 x4 x5) = 0) ∧ pt_Cal YX7_breaksFour (.invokevirtual 118) [pt_r 7 0, pt_i x1, pt_i x4, pt_i x2, pt_i x5] M (some (pt_i (tl_I B x4 x2 x5))) M ∧ ((tl_I B x4 x2 x5) = 0) ∧ True) (by with_unfolding_all rfl) ⟨(pt_callV (i := 0) kX7_breaksFour_118 mX7_left rfl (by decide) rfl (dX7_left_t h1)), h2, (pt_callV (i := 0) kX7_breaksFour_118 mX7_left rfl (by decide) rfl (dX7_left_t h3)), h4, (pt_callV (i := 0) kX7_breaksFour_118 mX7_left rfl (by decide) rfl (dX7_left_t h5)), h6, trivial⟩
set_option maxRecDepth 100000 in
theorem gX7_breaksFour_0_4 (x1 : Int32) (x2 : Int32) (x3 : Int32) (x4 : Int32) (x5 : Int32) (n : Nat) (B : Nat → Nat → Nat → Bool) (M : pt_M) (h1 : tq_P M x1 x2 x3 x5 n B) (h2 : ¬ (tl_I B x2 x3 x5) = 0) (h3 : tq_P M x1 x3 x4 x5 n B) (h4 : (tl_I B x3 x4 x5) = 0) :
    pt_Go YX7_breaksFour (0, [(0, pt_r 7 0), (1, pt_i x1), (2, pt_i x2), (3, pt_i x3), (4, pt_i x4), (5, pt_i x5)], [], M)
      (55, [(0, pt_r 7 0), (1, pt_i x1), (2, pt_i x2), (3, pt_i x3), (4, pt_i x4), (5, pt_i x5)], [pt_i 0], M) :=
  pt_run_ok tX7_breaksFour_ok 15 [.inr (5, some (pt_i (tl_I B x2 x3 x5)), M), .inl false, .inr (5, some (pt_i (tl_I B x3 x4 x5)), M), .inl true] (P := pt_Cal YX7_breaksFour (.invokevirtual 118) [pt_r 7 0, pt_i x1, pt_i x2, pt_i x3, pt_i x5] M (some (pt_i (tl_I B x2 x3 x5))) M ∧ (¬ (tl_I B x2 x3 x5) = 0) ∧ pt_Cal YX7_breaksFour (.invokevirtual 118) [pt_r 7 0, pt_i x1, pt_i x3, pt_i x4, pt_i x5] M (some (pt_i (tl_I B x3 x4 x5))) M ∧ ((tl_I B x3 x4 x5) = 0) ∧ True) (by with_unfolding_all rfl) ⟨(pt_callV (i := 0) kX7_breaksFour_118 mX7_left rfl (by decide) rfl (dX7_left_t h1)), h2, (pt_callV (i := 0) kX7_breaksFour_118 mX7_left rfl (by decide) rfl (dX7_left_t h3)), h4, trivial⟩
set_option maxRecDepth 100000 in
theorem gX7_breaksFour_0_5 (x1 : Int32) (x2 : Int32) (x3 : Int32) (x4 : Int32) (x5 : Int32) (n : Nat) (B : Nat → Nat → Nat → Bool) (M : pt_M) (h1 : tq_P M x1 x2 x3 x5 n B) (h2 : (tl_I B x2 x3 x5) = 0) :
    pt_Go YX7_breaksFour (0, [(0, pt_r 7 0), (1, pt_i x1), (2, pt_i x2), (3, pt_i x3), (4, pt_i x4), (5, pt_i x5)], [], M)
      (55, [(0, pt_r 7 0), (1, pt_i x1), (2, pt_i x2), (3, pt_i x3), (4, pt_i x4), (5, pt_i x5)], [pt_i 0], M) :=
  pt_run_ok tX7_breaksFour_ok 8 [.inr (5, some (pt_i (tl_I B x2 x3 x5)), M), .inl true] (P := pt_Cal YX7_breaksFour (.invokevirtual 118) [pt_r 7 0, pt_i x1, pt_i x2, pt_i x3, pt_i x5] M (some (pt_i (tl_I B x2 x3 x5))) M ∧ ((tl_I B x2 x3 x5) = 0) ∧ True) (by with_unfolding_all rfl) ⟨(pt_callV (i := 0) kX7_breaksFour_118 mX7_left rfl (by decide) rfl (dX7_left_t h1)), h2, trivial⟩
theorem dX7_breaksFour_t {M : pt_M} {x i j k l : Int32} {n : Nat} {B : Nat → Nat → Nat → Bool} (h : bq_P M x i j k l n B) : pt_Does yX7_breaksFour YX7_breaksFour [pt_r 7 0, pt_i x, pt_i i, pt_i j, pt_i k, pt_i l] M (some (pt_i (q4_I B i j k l))) M := by
  obtain ⟨o, a, b, c, d, rfl, rfl, rfl, rfl, rfl, h, ha, hb, hc, hd, ab, ac, ad, bc, bd, cd⟩ := h
  have hn := h.2.1
  have t1 := tq_of h ha hb hd ab bd ad
  have t2 := tq_of h hb hc hd bc cd bd
  have t3 := tq_of h hc ha hd (fun z => ac z.symm) ad cd
  have t4 := tq_of h ha hb hc ab bc ac
  have l1 := tl_nI (B := B) (a := a) (b := b) (c := d) (by omega) (by omega) (by omega)
  have l2 := tl_nI (B := B) (a := b) (b := c) (c := d) (by omega) (by omega) (by omega)
  have l3 := tl_nI (B := B) (a := c) (b := a) (c := d) (by omega) (by omega) (by omega)
  have l4 := tl_nI (B := B) (a := a) (b := b) (c := c) (by omega) (by omega) (by omega)
  unfold q4_I q4_F
  rw [pt_nt_nI (by omega), pt_nt_nI (by omega), pt_nt_nI (by omega), pt_nt_nI (by omega)]
  cases h1 : B a b d
  · exact rX7_breaksFour_55 pt_nar0 (Nat.le_of_ble_eq_true rfl) rfl (gX7_breaksFour_0_5 (nI o) (nI a) (nI b) (nI c) (nI d) n B M t1 (by rw [l1, h1]; rfl))
  have z1 : ¬ tl_I B (nI a) (nI b) (nI d) = 0 := by rw [l1, h1]; decide
  cases h2 : B b c d
  · exact rX7_breaksFour_55 pt_nar0 (Nat.le_of_ble_eq_true rfl) rfl (gX7_breaksFour_0_4 (nI o) (nI a) (nI b) (nI c) (nI d) n B M t1 z1 t2 (by rw [l2, h2]; rfl))
  have z2 : ¬ tl_I B (nI b) (nI c) (nI d) = 0 := by rw [l2, h2]; decide
  cases h3 : B c a d
  · exact rX7_breaksFour_55 pt_nar0 (Nat.le_of_ble_eq_true rfl) rfl (gX7_breaksFour_0_3 (nI o) (nI a) (nI b) (nI c) (nI d) n B M t1 z1 t2 z2 t3 (by rw [l3, h3]; rfl))
  have z3 : ¬ tl_I B (nI c) (nI a) (nI d) = 0 := by rw [l3, h3]; decide
  cases h4 : B a b c
  · exact rX7_breaksFour_55 pt_nar1 (Nat.le_of_ble_eq_true rfl) rfl (gX7_breaksFour_0_1 (nI o) (nI a) (nI b) (nI c) (nI d) n B M t1 z1 t2 z2 t3 z3 t4 (by rw [l4, h4]; rfl))
  · exact rX7_breaksFour_55 pt_nar0 (Nat.le_of_ble_eq_true rfl) rfl (gX7_breaksFour_0_2 (nI o) (nI a) (nI b) (nI c) (nI d) n B M t1 z1 t2 z2 t3 z3 t4 (by rw [l4, h4]; decide))
def br_P (M : pt_M) (x i j k l r : Int32) (n : Nat) (B : Nat → Nat → Nat → Bool) : Prop := ∃ o a b c d e, x = nI o ∧ i = nI a ∧ j = nI b ∧ k = nI c ∧ l = nI d ∧ r = nI e ∧ ml_P M o n B ∧ a < n ∧ b < n ∧ c < n ∧ d < n ∧ e < n ∧ a ≠ b ∧ a ≠ c ∧ a ≠ d ∧ a ≠ e ∧ b ≠ c ∧ b ≠ d ∧ b ≠ e ∧ c ≠ d ∧ c ≠ e ∧ d ≠ e
def q5_I (B : Nat → Nat → Nat → Bool) (i j k l r : Int32) : Int32 := pt_b (os_F B (pt_nt i) (pt_nt j) (pt_nt k) (pt_nt l) (pt_nt r))
theorem rX7_breaksFive_86 {vs : List pt_V} {M M' : pt_M} {x : Int32} {L : List (Nat × pt_V)} (hn : narrow .boolean (.int x) = .int x) (hvs : (vs.map pt_w).sum ≤ 10) (hX : M'.2.2.2.2 = M.2.2.2.2) (h : pt_Go YX7_breaksFive (0, pt_en 0 vs, [], M) (86, L, [pt_i x], M')) : pt_Does yX7_breaksFive YX7_breaksFive vs M (some (pt_i x)) M' := pt_does_go tX7_breaksFive_ok nX7_breaksFive hvs hX ⟨_, by with_unfolding_all rfl, rfl, _, rfl, hn⟩ h
set_option maxRecDepth 100000 in
theorem gX7_breaksFive_0_1 (x1 : Int32) (x2 : Int32) (x3 : Int32) (x4 : Int32) (x5 : Int32) (x6 : Int32) (n : Nat) (B : Nat → Nat → Nat → Bool) (M : pt_M) (h1 : tq_P M x1 x2 x3 x4 n B) (h2 : tq_P M x1 x2 x5 x6 n B) (h3 : tq_P M x1 x2 x3 x5 n B) (h4 : tq_P M x1 x2 x4 x6 n B) (h5 : tq_P M x1 x2 x3 x6 n B) (h6 : tq_P M x1 x2 x4 x5 n B) (h7 : ((ta_I B x2 x3 x4) * (ta_I B x2 x5 x6)) = ((-(ta_I B x2 x3 x5)) * (ta_I B x2 x4 x6))) (h8 : ((-(ta_I B x2 x3 x5)) * (ta_I B x2 x4 x6)) = ((ta_I B x2 x3 x6) * (ta_I B x2 x4 x5))) :
    pt_Go YX7_breaksFive (0, [(0, pt_r 7 0), (1, pt_i x1), (2, pt_i x2), (3, pt_i x3), (4, pt_i x4), (5, pt_i x5), (6, pt_i x6)], [], M)
      (86, [(0, pt_r 7 0), (1, pt_i x1), (2, pt_i x2), (3, pt_i x3), (4, pt_i x4), (5, pt_i x5), (6, pt_i x6), (7, pt_i ((ta_I B x2 x3 x4) * (ta_I B x2 x5 x6))), (8, pt_i ((-(ta_I B x2 x3 x5)) * (ta_I B x2 x4 x6))), (9, pt_i ((ta_I B x2 x3 x6) * (ta_I B x2 x4 x5)))], [pt_i 1], M) :=
  pt_run_ok tX7_breaksFive_ok 51 [.inr (5, some (pt_i (ta_I B x2 x3 x4)), M), .inr (5, some (pt_i (ta_I B x2 x5 x6)), M), .inr (5, some (pt_i (ta_I B x2 x3 x5)), M), .inr (5, some (pt_i (ta_I B x2 x4 x6)), M), .inr (5, some (pt_i (ta_I B x2 x3 x6)), M), .inr (5, some (pt_i (ta_I B x2 x4 x5)), M), .inl false, .inl false] (P := pt_Cal YX7_breaksFive (.invokevirtual 81) [pt_r 7 0, pt_i x1, pt_i x2, pt_i x3, pt_i x4] M (some (pt_i (ta_I B x2 x3 x4))) M ∧ pt_Cal YX7_breaksFive (.invokevirtual 81) [pt_r 7 0, pt_i x1, pt_i x2, pt_i x5, pt_i x6] M (some (pt_i (ta_I B x2 x5 x6))) M ∧ pt_Cal YX7_breaksFive (.invokevirtual 81) [pt_r 7 0, pt_i x1, pt_i x2, pt_i x3, pt_i x5] M (some (pt_i (ta_I B x2 x3 x5))) M ∧ pt_Cal YX7_breaksFive (.invokevirtual 81) [pt_r 7 0, pt_i x1, pt_i x2, pt_i x4, pt_i x6] M (some (pt_i (ta_I B x2 x4 x6))) M ∧ pt_Cal YX7_breaksFive (.invokevirtual 81) [pt_r 7 0, pt_i x1, pt_i x2, pt_i x3, pt_i x6] M (some (pt_i (ta_I B x2 x3 x6))) M ∧ pt_Cal YX7_breaksFive (.invokevirtual 81) [pt_r 7 0, pt_i x1, pt_i x2, pt_i x4, pt_i x5] M (some (pt_i (ta_I B x2 x4 x5))) M ∧ (((ta_I B x2 x3 x4) * (ta_I B x2 x5 x6)) = ((-(ta_I B x2 x3 x5)) * (ta_I B x2 x4 x6))) ∧ (((-(ta_I B x2 x3 x5)) * (ta_I B x2 x4 x6)) = ((ta_I B x2 x3 x6) * (ta_I B x2 x4 x5))) ∧ True) (by with_unfolding_all rfl) ⟨(pt_callV (i := 0) kX7_breaksFive_81 mX7_turnAt rfl (by decide) rfl (dX7_turnAt_t h1)), (pt_callV (i := 0) kX7_breaksFive_81 mX7_turnAt rfl (by decide) rfl (dX7_turnAt_t h2)), (pt_callV (i := 0) kX7_breaksFive_81 mX7_turnAt rfl (by decide) rfl (dX7_turnAt_t h3)), (pt_callV (i := 0) kX7_breaksFive_81 mX7_turnAt rfl (by decide) rfl (dX7_turnAt_t h4)), (pt_callV (i := 0) kX7_breaksFive_81 mX7_turnAt rfl (by decide) rfl (dX7_turnAt_t h5)), (pt_callV (i := 0) kX7_breaksFive_81 mX7_turnAt rfl (by decide) rfl (dX7_turnAt_t h6)), h7, h8, trivial⟩
set_option maxRecDepth 100000 in
theorem gX7_breaksFive_0_2 (x1 : Int32) (x2 : Int32) (x3 : Int32) (x4 : Int32) (x5 : Int32) (x6 : Int32) (n : Nat) (B : Nat → Nat → Nat → Bool) (M : pt_M) (h1 : tq_P M x1 x2 x3 x4 n B) (h2 : tq_P M x1 x2 x5 x6 n B) (h3 : tq_P M x1 x2 x3 x5 n B) (h4 : tq_P M x1 x2 x4 x6 n B) (h5 : tq_P M x1 x2 x3 x6 n B) (h6 : tq_P M x1 x2 x4 x5 n B) (h7 : ((ta_I B x2 x3 x4) * (ta_I B x2 x5 x6)) = ((-(ta_I B x2 x3 x5)) * (ta_I B x2 x4 x6))) (h8 : ¬ ((-(ta_I B x2 x3 x5)) * (ta_I B x2 x4 x6)) = ((ta_I B x2 x3 x6) * (ta_I B x2 x4 x5))) :
    pt_Go YX7_breaksFive (0, [(0, pt_r 7 0), (1, pt_i x1), (2, pt_i x2), (3, pt_i x3), (4, pt_i x4), (5, pt_i x5), (6, pt_i x6)], [], M)
      (86, [(0, pt_r 7 0), (1, pt_i x1), (2, pt_i x2), (3, pt_i x3), (4, pt_i x4), (5, pt_i x5), (6, pt_i x6), (7, pt_i ((ta_I B x2 x3 x4) * (ta_I B x2 x5 x6))), (8, pt_i ((-(ta_I B x2 x3 x5)) * (ta_I B x2 x4 x6))), (9, pt_i ((ta_I B x2 x3 x6) * (ta_I B x2 x4 x5)))], [pt_i 0], M) :=
  pt_run_ok tX7_breaksFive_ok 50 [.inr (5, some (pt_i (ta_I B x2 x3 x4)), M), .inr (5, some (pt_i (ta_I B x2 x5 x6)), M), .inr (5, some (pt_i (ta_I B x2 x3 x5)), M), .inr (5, some (pt_i (ta_I B x2 x4 x6)), M), .inr (5, some (pt_i (ta_I B x2 x3 x6)), M), .inr (5, some (pt_i (ta_I B x2 x4 x5)), M), .inl false, .inl true] (P := pt_Cal YX7_breaksFive (.invokevirtual 81) [pt_r 7 0, pt_i x1, pt_i x2, pt_i x3, pt_i x4] M (some (pt_i (ta_I B x2 x3 x4))) M ∧ pt_Cal YX7_breaksFive (.invokevirtual 81) [pt_r 7 0, pt_i x1, pt_i x2, pt_i x5, pt_i x6] M (some (pt_i (ta_I B x2 x5 x6))) M ∧ pt_Cal YX7_breaksFive (.invokevirtual 81) [pt_r 7 0, pt_i x1, pt_i x2, pt_i x3, pt_i x5] M (some (pt_i (ta_I B x2 x3 x5))) M ∧ pt_Cal YX7_breaksFive (.invokevirtual 81) [pt_r 7 0, pt_i x1, pt_i x2, pt_i x4, pt_i x6] M (some (pt_i (ta_I B x2 x4 x6))) M ∧ pt_Cal YX7_breaksFive (.invokevirtual 81) [pt_r 7 0, pt_i x1, pt_i x2, pt_i x3, pt_i x6] M (some (pt_i (ta_I B x2 x3 x6))) M ∧ pt_Cal YX7_breaksFive (.invokevirtual 81) [pt_r 7 0, pt_i x1, pt_i x2, pt_i x4, pt_i x5] M (some (pt_i (ta_I B x2 x4 x5))) M ∧ (((ta_I B x2 x3 x4) * (ta_I B x2 x5 x6)) = ((-(ta_I B x2 x3 x5)) * (ta_I B x2 x4 x6))) ∧ (¬ ((-(ta_I B x2 x3 x5)) * (ta_I B x2 x4 x6)) = ((ta_I B x2 x3 x6) * (ta_I B x2 x4 x5))) ∧ True) (by with_unfolding_all rfl) ⟨(pt_callV (i := 0) kX7_breaksFive_81 mX7_turnAt rfl (by decide) rfl (dX7_turnAt_t h1)), (pt_callV (i := 0) kX7_breaksFive_81 mX7_turnAt rfl (by decide) rfl (dX7_turnAt_t h2)), (pt_callV (i := 0) kX7_breaksFive_81 mX7_turnAt rfl (by decide) rfl (dX7_turnAt_t h3)), (pt_callV (i := 0) kX7_breaksFive_81 mX7_turnAt rfl (by decide) rfl (dX7_turnAt_t h4)), (pt_callV (i := 0) kX7_breaksFive_81 mX7_turnAt rfl (by decide) rfl (dX7_turnAt_t h5)), (pt_callV (i := 0) kX7_breaksFive_81 mX7_turnAt rfl (by decide) rfl (dX7_turnAt_t h6)), h7, h8, trivial⟩
set_option maxRecDepth 100000 in
theorem gX7_breaksFive_0_3 (x1 : Int32) (x2 : Int32) (x3 : Int32) (x4 : Int32) (x5 : Int32) (x6 : Int32) (n : Nat) (B : Nat → Nat → Nat → Bool) (M : pt_M) (h1 : tq_P M x1 x2 x3 x4 n B) (h2 : tq_P M x1 x2 x5 x6 n B) (h3 : tq_P M x1 x2 x3 x5 n B) (h4 : tq_P M x1 x2 x4 x6 n B) (h5 : tq_P M x1 x2 x3 x6 n B) (h6 : tq_P M x1 x2 x4 x5 n B) (h7 : ¬ ((ta_I B x2 x3 x4) * (ta_I B x2 x5 x6)) = ((-(ta_I B x2 x3 x5)) * (ta_I B x2 x4 x6))) :
    pt_Go YX7_breaksFive (0, [(0, pt_r 7 0), (1, pt_i x1), (2, pt_i x2), (3, pt_i x3), (4, pt_i x4), (5, pt_i x5), (6, pt_i x6)], [], M)
      (86, [(0, pt_r 7 0), (1, pt_i x1), (2, pt_i x2), (3, pt_i x3), (4, pt_i x4), (5, pt_i x5), (6, pt_i x6), (7, pt_i ((ta_I B x2 x3 x4) * (ta_I B x2 x5 x6))), (8, pt_i ((-(ta_I B x2 x3 x5)) * (ta_I B x2 x4 x6))), (9, pt_i ((ta_I B x2 x3 x6) * (ta_I B x2 x4 x5)))], [pt_i 0], M) :=
  pt_run_ok tX7_breaksFive_ok 47 [.inr (5, some (pt_i (ta_I B x2 x3 x4)), M), .inr (5, some (pt_i (ta_I B x2 x5 x6)), M), .inr (5, some (pt_i (ta_I B x2 x3 x5)), M), .inr (5, some (pt_i (ta_I B x2 x4 x6)), M), .inr (5, some (pt_i (ta_I B x2 x3 x6)), M), .inr (5, some (pt_i (ta_I B x2 x4 x5)), M), .inl true] (P := pt_Cal YX7_breaksFive (.invokevirtual 81) [pt_r 7 0, pt_i x1, pt_i x2, pt_i x3, pt_i x4] M (some (pt_i (ta_I B x2 x3 x4))) M ∧ pt_Cal YX7_breaksFive (.invokevirtual 81) [pt_r 7 0, pt_i x1, pt_i x2, pt_i x5, pt_i x6] M (some (pt_i (ta_I B x2 x5 x6))) M ∧ pt_Cal YX7_breaksFive (.invokevirtual 81) [pt_r 7 0, pt_i x1, pt_i x2, pt_i x3, pt_i x5] M (some (pt_i (ta_I B x2 x3 x5))) M ∧ pt_Cal YX7_breaksFive (.invokevirtual 81) [pt_r 7 0, pt_i x1, pt_i x2, pt_i x4, pt_i x6] M (some (pt_i (ta_I B x2 x4 x6))) M ∧ pt_Cal YX7_breaksFive (.invokevirtual 81) [pt_r 7 0, pt_i x1, pt_i x2, pt_i x3, pt_i x6] M (some (pt_i (ta_I B x2 x3 x6))) M ∧ pt_Cal YX7_breaksFive (.invokevirtual 81) [pt_r 7 0, pt_i x1, pt_i x2, pt_i x4, pt_i x5] M (some (pt_i (ta_I B x2 x4 x5))) M ∧ (¬ ((ta_I B x2 x3 x4) * (ta_I B x2 x5 x6)) = ((-(ta_I B x2 x3 x5)) * (ta_I B x2 x4 x6))) ∧ True) (by with_unfolding_all rfl) ⟨(pt_callV (i := 0) kX7_breaksFive_81 mX7_turnAt rfl (by decide) rfl (dX7_turnAt_t h1)), (pt_callV (i := 0) kX7_breaksFive_81 mX7_turnAt rfl (by decide) rfl (dX7_turnAt_t h2)), (pt_callV (i := 0) kX7_breaksFive_81 mX7_turnAt rfl (by decide) rfl (dX7_turnAt_t h3)), (pt_callV (i := 0) kX7_breaksFive_81 mX7_turnAt rfl (by decide) rfl (dX7_turnAt_t h4)), (pt_callV (i := 0) kX7_breaksFive_81 mX7_turnAt rfl (by decide) rfl (dX7_turnAt_t h5)), (pt_callV (i := 0) kX7_breaksFive_81 mX7_turnAt rfl (by decide) rfl (dX7_turnAt_t h6)), h7, trivial⟩
theorem tv_m1 (p q r s : Bool) : (tv_F p * tv_F q) = ((-(tv_F r)) * tv_F s) ↔ ((p == q) == (r != s)) = true := by cases p <;> cases q <;> cases r <;> cases s <;> decide
theorem tv_m2 (r s t u : Bool) : ((-(tv_F r)) * tv_F s) = (tv_F t * tv_F u) ↔ ((r != s) == (t == u)) = true := by cases r <;> cases s <;> cases t <;> cases u <;> decide
theorem dX7_breaksFive_t {M : pt_M} {x i j k l r : Int32} {n : Nat} {B : Nat → Nat → Nat → Bool} (h : br_P M x i j k l r n B) : pt_Does yX7_breaksFive YX7_breaksFive [pt_r 7 0, pt_i x, pt_i i, pt_i j, pt_i k, pt_i l, pt_i r] M (some (pt_i (q5_I B i j k l r))) M := by
  obtain ⟨o, a, b, c, d, e, rfl, rfl, rfl, rfl, rfl, rfl, h, ha, hb, hc, hd, he, ab, ac, ad, ae, bc, bd, be, cd, ce, de⟩ := h
  have hn := h.2.1
  have t1 := tq_of h ha hb hc ab bc ac
  have t2 := tq_of h ha hd he ad de ae
  have t3 := tq_of h ha hb hd ab bd ad
  have t4 := tq_of h ha hc he ac ce ae
  have t5 := tq_of h ha hb he ab be ae
  have t6 := tq_of h ha hc hd ac cd ad
  have l1 := ta_nI (B := B) (a := a) (b := b) (c := c) (by omega) (by omega) (by omega)
  have l2 := ta_nI (B := B) (a := a) (b := d) (c := e) (by omega) (by omega) (by omega)
  have l3 := ta_nI (B := B) (a := a) (b := b) (c := d) (by omega) (by omega) (by omega)
  have l4 := ta_nI (B := B) (a := a) (b := c) (c := e) (by omega) (by omega) (by omega)
  have l5 := ta_nI (B := B) (a := a) (b := b) (c := e) (by omega) (by omega) (by omega)
  have l6 := ta_nI (B := B) (a := a) (b := c) (c := d) (by omega) (by omega) (by omega)
  have m1 := tv_m1 (B a b c) (B a d e) (B a b d) (B a c e)
  have m2 := tv_m2 (B a b d) (B a c e) (B a b e) (B a c d)
  rw [← l1, ← l2, ← l3, ← l4] at m1
  rw [← l3, ← l4, ← l5, ← l6] at m2
  unfold q5_I os_F
  rw [pt_nt_nI (by omega), pt_nt_nI (by omega), pt_nt_nI (by omega), pt_nt_nI (by omega), pt_nt_nI (by omega)]
  generalize hu : (B a b c == B a d e) = u at *
  generalize hv : (B a b d != B a c e) = v at *
  generalize hw : (B a b e == B a c d) = w at *
  cases h1 : (u == v)
  · exact rX7_breaksFive_86 pt_nar0 (Nat.le_of_ble_eq_true rfl) rfl (gX7_breaksFive_0_3 (nI o) (nI a) (nI b) (nI c) (nI d) (nI e) n B M t1 t2 t3 t4 t5 t6 (fun z => by rw [m1, h1] at z; cases z))
  · have huv : u = v := by simpa using h1
    subst huv
    cases h2 : (u == w)
    · exact rX7_breaksFive_86 pt_nar0 (Nat.le_of_ble_eq_true rfl) rfl (gX7_breaksFive_0_2 (nI o) (nI a) (nI b) (nI c) (nI d) (nI e) n B M t1 t2 t3 t4 t5 t6 (m1.mpr h1) (fun z => by rw [m2, h2] at z; cases z))
    · exact rX7_breaksFive_86 pt_nar1 (Nat.le_of_ble_eq_true rfl) rfl (gX7_breaksFive_0_1 (nI o) (nI a) (nI b) (nI c) (nI d) (nI e) n B M t1 t2 t3 t4 t5 t6 (m1.mpr h1) (m2.mpr h2))
/-! the points of a set, in their order -/
theorem ct_mono {f : Nat → Bool} {a : Nat} : ∀ {b : Nat}, a ≤ b → ct_N f a ≤ ct_N f b
  | 0, h => by
    have : a = 0 := by omega
    rw [this]
    exact Nat.le_refl _
  | b + 1, h => by
    by_cases e : a = b + 1
    · rw [e]
      exact Nat.le_refl _
    · have := ct_mono (f := f) (a := a) (b := b) (by omega)
      show _ ≤ ct_N f b + _
      omega
theorem ct_up {f : Nat → Bool} {k : Nat} (h : f k = true) : ct_N f (k + 1) = ct_N f k + 1 := by
  show ct_N f k + (if f k then 1 else 0) = _
  rw [h]
  rfl
def so_A (f : Nat → Int32) (m : Nat) : Nat → Nat → Int32
  | 0 => f
  | p + 1 => if m.testBit p then upd (so_A f m p) (ct_N (fun k => m.testBit k) p) (nI p) else so_A f m p
theorem so_at {f : Nat → Int32} {m p : Nat} (hb : m.testBit p = true) : ∀ {n : Nat}, p < n → so_A f m n (ct_N (fun k => m.testBit k) p) = nI p
  | 0, h => absurd h (Nat.not_lt_zero p)
  | n + 1, h => by
    show (if m.testBit n then upd (so_A f m n) (ct_N (fun k => m.testBit k) n) (nI n) else so_A f m n) _ = _
    by_cases e : p = n
    · subst e
      rw [if_pos hb]
      exact if_pos rfl
    · have ih := so_at (f := f) hb (n := n) (by omega)
      by_cases hn : m.testBit n = true
      · rw [if_pos hn]
        have h1 : ct_N (fun k => m.testBit k) (p + 1) = ct_N (fun k => m.testBit k) p + 1 := ct_up hb
        have h2 : ct_N (fun k => m.testBit k) (p + 1) ≤ ct_N (fun k => m.testBit k) n := ct_mono (by omega)
        have h3 : ¬ ct_N (fun k => m.testBit k) p = ct_N (fun k => m.testBit k) n := by omega
        exact (if_neg h3).trans ih
      · rw [if_neg hn]
        exact ih
theorem rX7_breaks_231 {vs : List pt_V} {M M' : pt_M} {x : Int32} {L : List (Nat × pt_V)} (hn : narrow .boolean (.int x) = .int x) (hvs : (vs.map pt_w).sum ≤ 9) (hX : M'.2.2.2.2 = M.2.2.2.2) (h : pt_Go YX7_breaks (0, pt_en 0 vs, [], M) (231, L, [pt_i x], M')) : pt_Does yX7_breaks YX7_breaks vs M (some (pt_i x)) M' := pt_does_go tX7_breaks_ok nX7_breaks hvs hX ⟨_, by with_unfolding_all rfl, rfl, _, rfl, hn⟩ h
theorem rX7_breaks_257 {vs : List pt_V} {M M' : pt_M} {x : Int32} {L : List (Nat × pt_V)} (hn : narrow .boolean (.int x) = .int x) (hvs : (vs.map pt_w).sum ≤ 9) (hX : M'.2.2.2.2 = M.2.2.2.2) (h : pt_Go YX7_breaks (0, pt_en 0 vs, [], M) (257, L, [pt_i x], M')) : pt_Does yX7_breaks YX7_breaks vs M (some (pt_i x)) M' := pt_does_go tX7_breaks_ok nX7_breaks hvs hX ⟨_, by with_unfolding_all rfl, rfl, _, rfl, hn⟩ h
set_option maxRecDepth 100000 in
theorem gX7_breaks_0_1 (x1 : Int32) (x2 : Int32) (x3 : Int32) (n : Nat) (B : Nat → Nat → Nat → Bool) (M : pt_M) :
    pt_Go YX7_breaks (0, [(0, pt_r 7 0), (1, pt_i x1), (2, pt_i x2), (3, pt_i x3)], [], M)
      (6, [(0, pt_r 7 0), (1, pt_i x1), (2, pt_i x2), (3, pt_i x3), (4, pt_i 0), (5, pt_i 0)], [], M) :=
  pt_run_ok tX7_breaks_ok 4 [] (P := True) (by with_unfolding_all rfl) trivial
set_option maxRecDepth 100000 in
theorem gX7_breaks_6_1 (l1 : Int32) (l2 : Int32) (l3 : Int32) (l4 : Int32) (l5 : Int32) (n : Nat) (B : Nat → Nat → Nat → Bool) (M : pt_M) (h1 : ¬ l2 ≤ l5) (h2 : ((l3 >>> (l5 &&& 31)) &&& 1) = 0) :
    pt_Go YX7_breaks (6, [(0, pt_r 7 0), (1, pt_i l1), (2, pt_i l2), (3, pt_i l3), (4, pt_i l4), (5, pt_i l5)], [], M)
      (6, [(0, pt_r 7 0), (1, pt_i l1), (2, pt_i l2), (3, pt_i l3), (4, pt_i l4), (5, pt_i (l5 + 1))], [], M) :=
  pt_run_ok tX7_breaks_ok 12 [.inl false, .inl false] (P := (¬ l2 ≤ l5) ∧ (((l3 >>> (l5 &&& 31)) &&& 1) = 0) ∧ True) (by with_unfolding_all rfl) ⟨h1, h2, trivial⟩
set_option maxRecDepth 100000 in
theorem gX7_breaks_6_2 (l1 : Int32) (l2 : Int32) (l3 : Int32) (l4 : Int32) (l5 : Int32) (n : Nat) (B : Nat → Nat → Nat → Bool) (M : pt_M) (h1 : ¬ l2 ≤ l5) (h2 : ¬ ((l3 >>> (l5 &&& 31)) &&& 1) = 0) (h3 : pt_in l4 5) :
    pt_Go YX7_breaks (6, [(0, pt_r 7 0), (1, pt_i l1), (2, pt_i l2), (3, pt_i l3), (4, pt_i l4), (5, pt_i l5)], [], M)
      (6, [(0, pt_r 7 0), (1, pt_i l1), (2, pt_i l2), (3, pt_i l3), (4, pt_i (l4 + 1)), (5, pt_i (l5 + 1))], [], (pt_wA M 36 0 (upd (pt_A M 36 0) (pt_nt l4) l5))) :=
  pt_run_ok tX7_breaks_ok 17 [.inl false, .inl true] (P := (¬ l2 ≤ l5) ∧ (¬ ((l3 >>> (l5 &&& 31)) &&& 1) = 0) ∧ (pt_in l4 5) ∧ True) (by with_unfolding_all rfl) ⟨h1, h2, h3, trivial⟩
set_option maxRecDepth 100000 in
theorem gX7_breaks_6_3 (l1 : Int32) (l2 : Int32) (l3 : Int32) (l4 : Int32) (l5 : Int32) (n : Nat) (B : Nat → Nat → Nat → Bool) (M : pt_M) (h1 : l2 ≤ l5) :
    pt_Go YX7_breaks (6, [(0, pt_r 7 0), (1, pt_i l1), (2, pt_i l2), (3, pt_i l3), (4, pt_i l4), (5, pt_i l5)], [], M)
      (45, [(0, pt_r 7 0), (1, pt_i l1), (4, pt_i l4), (5, pt_i 0)], [], M) :=
  (pt_run_ok tX7_breaks_ok 5 [.inl true] (P := (l2 ≤ l5) ∧ True) (by with_unfolding_all rfl) ⟨h1, trivial⟩ : pt_Go YX7_breaks _ (45, [(0, pt_r 7 0), (1, pt_i l1), (2, pt_i l2), (3, pt_i l3), (4, pt_i l4), (5, pt_i 0)], [], M)).tr (pt_pick [0, 1, 4, 5] (by with_unfolding_all rfl))
set_option maxRecDepth 100000 in
theorem gX7_breaks_45_1 (l1 : Int32) (l4 : Int32) (l5 : Int32) (n : Nat) (B : Nat → Nat → Nat → Bool) (M : pt_M) (h1 : ¬ l4 ≤ l5) :
    pt_Go YX7_breaks (45, [(0, pt_r 7 0), (1, pt_i l1), (4, pt_i l4), (5, pt_i l5)], [], M)
      (55, [(0, pt_r 7 0), (1, pt_i l1), (4, pt_i l4), (5, pt_i l5), (6, pt_i 0)], [], M) :=
  pt_run_ok tX7_breaks_ok 5 [.inl false] (P := (¬ l4 ≤ l5) ∧ True) (by with_unfolding_all rfl) ⟨h1, trivial⟩
set_option maxRecDepth 100000 in
theorem gX7_breaks_45_2 (l1 : Int32) (l4 : Int32) (l5 : Int32) (n : Nat) (B : Nat → Nat → Nat → Bool) (M : pt_M) (h1 : l4 ≤ l5) :
    pt_Go YX7_breaks (45, [(0, pt_r 7 0), (1, pt_i l1), (4, pt_i l4), (5, pt_i l5)], [], M)
      (257, [(0, pt_r 7 0), (1, pt_i l1), (4, pt_i l4), (5, pt_i l5)], [pt_i 0], M) :=
  pt_run_ok tX7_breaks_ok 4 [.inl true] (P := (l4 ≤ l5) ∧ True) (by with_unfolding_all rfl) ⟨h1, trivial⟩
set_option maxRecDepth 100000 in
theorem gX7_breaks_55_1 (l1 : Int32) (l4 : Int32) (l5 : Int32) (l6 : Int32) (n : Nat) (B : Nat → Nat → Nat → Bool) (M : pt_M) (h1 : ¬ l4 ≤ l6) :
    pt_Go YX7_breaks (55, [(0, pt_r 7 0), (1, pt_i l1), (4, pt_i l4), (5, pt_i l5), (6, pt_i l6)], [], M)
      (65, [(0, pt_r 7 0), (1, pt_i l1), (4, pt_i l4), (5, pt_i l5), (6, pt_i l6), (7, pt_i 0)], [], M) :=
  pt_run_ok tX7_breaks_ok 5 [.inl false] (P := (¬ l4 ≤ l6) ∧ True) (by with_unfolding_all rfl) ⟨h1, trivial⟩
set_option maxRecDepth 100000 in
theorem gX7_breaks_55_2 (l1 : Int32) (l4 : Int32) (l5 : Int32) (l6 : Int32) (n : Nat) (B : Nat → Nat → Nat → Bool) (M : pt_M) (h1 : l4 ≤ l6) :
    pt_Go YX7_breaks (55, [(0, pt_r 7 0), (1, pt_i l1), (4, pt_i l4), (5, pt_i l5), (6, pt_i l6)], [], M)
      (45, [(0, pt_r 7 0), (1, pt_i l1), (4, pt_i l4), (5, pt_i (l5 + 1))], [], M) :=
  (pt_run_ok tX7_breaks_ok 5 [.inl true] (P := (l4 ≤ l6) ∧ True) (by with_unfolding_all rfl) ⟨h1, trivial⟩ : pt_Go YX7_breaks _ (45, [(0, pt_r 7 0), (1, pt_i l1), (4, pt_i l4), (5, pt_i (l5 + 1)), (6, pt_i l6)], [], M)).tr (pt_pick [0, 1, 2, 3] (by with_unfolding_all rfl))
set_option maxRecDepth 100000 in
theorem gX7_breaks_65_1 (l1 : Int32) (l4 : Int32) (l5 : Int32) (l6 : Int32) (l7 : Int32) (n : Nat) (B : Nat → Nat → Nat → Bool) (M : pt_M) (h1 : ¬ l4 ≤ l7) (h2 : ¬ l5 = l6) (h3 : ¬ l6 = l7) (h4 : l5 = l7) :
    pt_Go YX7_breaks (65, [(0, pt_r 7 0), (1, pt_i l1), (4, pt_i l4), (5, pt_i l5), (6, pt_i l6), (7, pt_i l7)], [], M)
      (65, [(0, pt_r 7 0), (1, pt_i l1), (4, pt_i l4), (5, pt_i l5), (6, pt_i l6), (7, pt_i (l7 + 1))], [], M) :=
  pt_run_ok tX7_breaks_ok 15 [.inl false, .inl false, .inl false, .inl false] (P := (¬ l4 ≤ l7) ∧ (¬ l5 = l6) ∧ (¬ l6 = l7) ∧ (l5 = l7) ∧ True) (by with_unfolding_all rfl) ⟨h1, h2, h3, h4, trivial⟩
set_option maxRecDepth 100000 in
theorem gX7_breaks_65_2 (l1 : Int32) (l4 : Int32) (l5 : Int32) (l6 : Int32) (l7 : Int32) (n : Nat) (B : Nat → Nat → Nat → Bool) (M : pt_M) (h1 : ¬ l4 ≤ l7) (h2 : ¬ l5 = l6) (h3 : ¬ l6 = l7) (h4 : ¬ l5 = l7) :
    pt_Go YX7_breaks (65, [(0, pt_r 7 0), (1, pt_i l1), (4, pt_i l4), (5, pt_i l5), (6, pt_i l6), (7, pt_i l7)], [], M)
      (99, [(0, pt_r 7 0), (1, pt_i l1), (4, pt_i l4), (5, pt_i l5), (6, pt_i l6), (7, pt_i l7), (8, pt_i 0)], [], M) :=
  pt_run_ok tX7_breaks_ok 14 [.inl false, .inl false, .inl false, .inl true] (P := (¬ l4 ≤ l7) ∧ (¬ l5 = l6) ∧ (¬ l6 = l7) ∧ (¬ l5 = l7) ∧ True) (by with_unfolding_all rfl) ⟨h1, h2, h3, h4, trivial⟩
set_option maxRecDepth 100000 in
theorem gX7_breaks_65_3 (l1 : Int32) (l4 : Int32) (l5 : Int32) (l6 : Int32) (l7 : Int32) (n : Nat) (B : Nat → Nat → Nat → Bool) (M : pt_M) (h1 : ¬ l4 ≤ l7) (h2 : ¬ l5 = l6) (h3 : l6 = l7) :
    pt_Go YX7_breaks (65, [(0, pt_r 7 0), (1, pt_i l1), (4, pt_i l4), (5, pt_i l5), (6, pt_i l6), (7, pt_i l7)], [], M)
      (65, [(0, pt_r 7 0), (1, pt_i l1), (4, pt_i l4), (5, pt_i l5), (6, pt_i l6), (7, pt_i (l7 + 1))], [], M) :=
  pt_run_ok tX7_breaks_ok 11 [.inl false, .inl false, .inl true] (P := (¬ l4 ≤ l7) ∧ (¬ l5 = l6) ∧ (l6 = l7) ∧ True) (by with_unfolding_all rfl) ⟨h1, h2, h3, trivial⟩
set_option maxRecDepth 100000 in
theorem gX7_breaks_65_4 (l1 : Int32) (l4 : Int32) (l5 : Int32) (l6 : Int32) (l7 : Int32) (n : Nat) (B : Nat → Nat → Nat → Bool) (M : pt_M) (h1 : ¬ l4 ≤ l7) (h2 : l5 = l6) :
    pt_Go YX7_breaks (65, [(0, pt_r 7 0), (1, pt_i l1), (4, pt_i l4), (5, pt_i l5), (6, pt_i l6), (7, pt_i l7)], [], M)
      (65, [(0, pt_r 7 0), (1, pt_i l1), (4, pt_i l4), (5, pt_i l5), (6, pt_i l6), (7, pt_i (l7 + 1))], [], M) :=
  pt_run_ok tX7_breaks_ok 8 [.inl false, .inl true] (P := (¬ l4 ≤ l7) ∧ (l5 = l6) ∧ True) (by with_unfolding_all rfl) ⟨h1, h2, trivial⟩
set_option maxRecDepth 100000 in
theorem gX7_breaks_65_5 (l1 : Int32) (l4 : Int32) (l5 : Int32) (l6 : Int32) (l7 : Int32) (n : Nat) (B : Nat → Nat → Nat → Bool) (M : pt_M) (h1 : l4 ≤ l7) :
    pt_Go YX7_breaks (65, [(0, pt_r 7 0), (1, pt_i l1), (4, pt_i l4), (5, pt_i l5), (6, pt_i l6), (7, pt_i l7)], [], M)
      (55, [(0, pt_r 7 0), (1, pt_i l1), (4, pt_i l4), (5, pt_i l5), (6, pt_i (l6 + 1))], [], M) :=
  (pt_run_ok tX7_breaks_ok 5 [.inl true] (P := (l4 ≤ l7) ∧ True) (by with_unfolding_all rfl) ⟨h1, trivial⟩ : pt_Go YX7_breaks _ (55, [(0, pt_r 7 0), (1, pt_i l1), (4, pt_i l4), (5, pt_i l5), (6, pt_i (l6 + 1)), (7, pt_i l7)], [], M)).tr (pt_pick [0, 1, 2, 3, 4] (by with_unfolding_all rfl))
set_option maxRecDepth 100000 in
theorem gX7_breaks_99_1 (l1 : Int32) (l4 : Int32) (l5 : Int32) (l6 : Int32) (l7 : Int32) (l8 : Int32) (n : Nat) (B : Nat → Nat → Nat → Bool) (M : pt_M) (h1 : ¬ l4 ≤ l8) (h2 : ¬ l8 = l5) (h3 : ¬ l8 = l6) (h4 : l8 = l7) :
    pt_Go YX7_breaks (99, [(0, pt_r 7 0), (1, pt_i l1), (4, pt_i l4), (5, pt_i l5), (6, pt_i l6), (7, pt_i l7), (8, pt_i l8)], [], M)
      (99, [(0, pt_r 7 0), (1, pt_i l1), (4, pt_i l4), (5, pt_i l5), (6, pt_i l6), (7, pt_i l7), (8, pt_i (l8 + 1))], [], M) :=
  pt_run_ok tX7_breaks_ok 15 [.inl false, .inl false, .inl false, .inl false] (P := (¬ l4 ≤ l8) ∧ (¬ l8 = l5) ∧ (¬ l8 = l6) ∧ (l8 = l7) ∧ True) (by with_unfolding_all rfl) ⟨h1, h2, h3, h4, trivial⟩
set_option maxRecDepth 100000 in
theorem gX7_breaks_99_2 (l1 : Int32) (l4 : Int32) (l5 : Int32) (l6 : Int32) (l7 : Int32) (l8 : Int32) (n : Nat) (B : Nat → Nat → Nat → Bool) (M : pt_M) (h1 : ¬ l4 ≤ l8) (h2 : ¬ l8 = l5) (h3 : ¬ l8 = l6) (h4 : ¬ l8 = l7) (h5 : l4 = 4) (h6 : pt_in l5 5) (h7 : pt_in l6 5) (h8 : pt_in l7 5) (h9 : pt_in l8 5) (h10 : bq_P M l1 (pt_A M 36 0 (pt_nt l5)) (pt_A M 36 0 (pt_nt l6)) (pt_A M 36 0 (pt_nt l7)) (pt_A M 36 0 (pt_nt l8)) n B) (h11 : ¬ (q4_I B (pt_A M 36 0 (pt_nt l5)) (pt_A M 36 0 (pt_nt l6)) (pt_A M 36 0 (pt_nt l7)) (pt_A M 36 0 (pt_nt l8))) = 0) :
    pt_Go YX7_breaks (99, [(0, pt_r 7 0), (1, pt_i l1), (4, pt_i l4), (5, pt_i l5), (6, pt_i l6), (7, pt_i l7), (8, pt_i l8)], [], M)
      (231, [(0, pt_r 7 0), (1, pt_i l1), (4, pt_i l4), (5, pt_i l5), (6, pt_i l6), (7, pt_i l7), (8, pt_i l8)], [pt_i 1], M) :=
  pt_run_ok tX7_breaks_ok 37 [.inl false, .inl false, .inl false, .inl true, .inl false, .inr (6, some (pt_i (q4_I B (pt_A M 36 0 (pt_nt l5)) (pt_A M 36 0 (pt_nt l6)) (pt_A M 36 0 (pt_nt l7)) (pt_A M 36 0 (pt_nt l8)))), M), .inl false] (P := (¬ l4 ≤ l8) ∧ (¬ l8 = l5) ∧ (¬ l8 = l6) ∧ (¬ l8 = l7) ∧ (l4 = 4) ∧ (pt_in l5 5) ∧ (pt_in l6 5) ∧ (pt_in l7 5) ∧ (pt_in l8 5) ∧ pt_Cal YX7_breaks (.invokevirtual 121) [pt_r 7 0, pt_i l1, pt_i (pt_A M 36 0 (pt_nt l5)), pt_i (pt_A M 36 0 (pt_nt l6)), pt_i (pt_A M 36 0 (pt_nt l7)), pt_i (pt_A M 36 0 (pt_nt l8))] M (some (pt_i (q4_I B (pt_A M 36 0 (pt_nt l5)) (pt_A M 36 0 (pt_nt l6)) (pt_A M 36 0 (pt_nt l7)) (pt_A M 36 0 (pt_nt l8))))) M ∧ (¬ (q4_I B (pt_A M 36 0 (pt_nt l5)) (pt_A M 36 0 (pt_nt l6)) (pt_A M 36 0 (pt_nt l7)) (pt_A M 36 0 (pt_nt l8))) = 0) ∧ True) (by with_unfolding_all rfl) ⟨h1, h2, h3, h4, h5, h6, h7, h8, h9, (pt_callV (i := 0) kX7_breaks_121 mX7_breaksFour rfl (by decide) rfl (dX7_breaksFour_t h10)), h11, trivial⟩
set_option maxRecDepth 100000 in
theorem gX7_breaks_99_3 (l1 : Int32) (l4 : Int32) (l5 : Int32) (l6 : Int32) (l7 : Int32) (l8 : Int32) (n : Nat) (B : Nat → Nat → Nat → Bool) (M : pt_M) (h1 : ¬ l4 ≤ l8) (h2 : ¬ l8 = l5) (h3 : ¬ l8 = l6) (h4 : ¬ l8 = l7) (h5 : l4 = 4) (h6 : pt_in l5 5) (h7 : pt_in l6 5) (h8 : pt_in l7 5) (h9 : pt_in l8 5) (h10 : bq_P M l1 (pt_A M 36 0 (pt_nt l5)) (pt_A M 36 0 (pt_nt l6)) (pt_A M 36 0 (pt_nt l7)) (pt_A M 36 0 (pt_nt l8)) n B) (h11 : (q4_I B (pt_A M 36 0 (pt_nt l5)) (pt_A M 36 0 (pt_nt l6)) (pt_A M 36 0 (pt_nt l7)) (pt_A M 36 0 (pt_nt l8))) = 0) :
    pt_Go YX7_breaks (99, [(0, pt_r 7 0), (1, pt_i l1), (4, pt_i l4), (5, pt_i l5), (6, pt_i l6), (7, pt_i l7), (8, pt_i l8)], [], M)
      (99, [(0, pt_r 7 0), (1, pt_i l1), (4, pt_i l4), (5, pt_i l5), (6, pt_i l6), (7, pt_i l7), (8, pt_i (l8 + 1))], [], M) :=
  pt_run_ok tX7_breaks_ok 37 [.inl false, .inl false, .inl false, .inl true, .inl false, .inr (6, some (pt_i (q4_I B (pt_A M 36 0 (pt_nt l5)) (pt_A M 36 0 (pt_nt l6)) (pt_A M 36 0 (pt_nt l7)) (pt_A M 36 0 (pt_nt l8)))), M), .inl true] (P := (¬ l4 ≤ l8) ∧ (¬ l8 = l5) ∧ (¬ l8 = l6) ∧ (¬ l8 = l7) ∧ (l4 = 4) ∧ (pt_in l5 5) ∧ (pt_in l6 5) ∧ (pt_in l7 5) ∧ (pt_in l8 5) ∧ pt_Cal YX7_breaks (.invokevirtual 121) [pt_r 7 0, pt_i l1, pt_i (pt_A M 36 0 (pt_nt l5)), pt_i (pt_A M 36 0 (pt_nt l6)), pt_i (pt_A M 36 0 (pt_nt l7)), pt_i (pt_A M 36 0 (pt_nt l8))] M (some (pt_i (q4_I B (pt_A M 36 0 (pt_nt l5)) (pt_A M 36 0 (pt_nt l6)) (pt_A M 36 0 (pt_nt l7)) (pt_A M 36 0 (pt_nt l8))))) M ∧ ((q4_I B (pt_A M 36 0 (pt_nt l5)) (pt_A M 36 0 (pt_nt l6)) (pt_A M 36 0 (pt_nt l7)) (pt_A M 36 0 (pt_nt l8))) = 0) ∧ True) (by with_unfolding_all rfl) ⟨h1, h2, h3, h4, h5, h6, h7, h8, h9, (pt_callV (i := 0) kX7_breaks_121 mX7_breaksFour rfl (by decide) rfl (dX7_breaksFour_t h10)), h11, trivial⟩
set_option maxRecDepth 100000 in
theorem gX7_breaks_99_4 (l1 : Int32) (l4 : Int32) (l5 : Int32) (l6 : Int32) (l7 : Int32) (l8 : Int32) (n : Nat) (B : Nat → Nat → Nat → Bool) (M : pt_M) (h1 : ¬ l4 ≤ l8) (h2 : ¬ l8 = l5) (h3 : ¬ l8 = l6) (h4 : ¬ l8 = l7) (h5 : ¬ l4 = 4) (h6 : pt_in l5 5) (h7 : pt_in l6 5) (h8 : pt_in l7 5) (h9 : pt_in l8 5) (h10 : pt_in ((((10 - l5) - l6) - l7) - l8) 5) (h11 : br_P M l1 (pt_A M 36 0 (pt_nt l5)) (pt_A M 36 0 (pt_nt l6)) (pt_A M 36 0 (pt_nt l7)) (pt_A M 36 0 (pt_nt l8)) (pt_A M 36 0 (pt_nt ((((10 - l5) - l6) - l7) - l8))) n B) (h12 : ¬ (q5_I B (pt_A M 36 0 (pt_nt l5)) (pt_A M 36 0 (pt_nt l6)) (pt_A M 36 0 (pt_nt l7)) (pt_A M 36 0 (pt_nt l8)) (pt_A M 36 0 (pt_nt ((((10 - l5) - l6) - l7) - l8)))) = 0) :
    pt_Go YX7_breaks (99, [(0, pt_r 7 0), (1, pt_i l1), (4, pt_i l4), (5, pt_i l5), (6, pt_i l6), (7, pt_i l7), (8, pt_i l8)], [], M)
      (231, [(0, pt_r 7 0), (1, pt_i l1), (4, pt_i l4), (5, pt_i l5), (6, pt_i l6), (7, pt_i l7), (8, pt_i l8)], [pt_i 1], M) :=
  pt_run_ok tX7_breaks_ok 48 [.inl false, .inl false, .inl false, .inl true, .inl true, .inr (7, some (pt_i (q5_I B (pt_A M 36 0 (pt_nt l5)) (pt_A M 36 0 (pt_nt l6)) (pt_A M 36 0 (pt_nt l7)) (pt_A M 36 0 (pt_nt l8)) (pt_A M 36 0 (pt_nt ((((10 - l5) - l6) - l7) - l8))))), M), .inl false] (P := (¬ l4 ≤ l8) ∧ (¬ l8 = l5) ∧ (¬ l8 = l6) ∧ (¬ l8 = l7) ∧ (¬ l4 = 4) ∧ (pt_in l5 5) ∧ (pt_in l6 5) ∧ (pt_in l7 5) ∧ (pt_in l8 5) ∧ (pt_in ((((10 - l5) - l6) - l7) - l8) 5) ∧ pt_Cal YX7_breaks (.invokevirtual 125) [pt_r 7 0, pt_i l1, pt_i (pt_A M 36 0 (pt_nt l5)), pt_i (pt_A M 36 0 (pt_nt l6)), pt_i (pt_A M 36 0 (pt_nt l7)), pt_i (pt_A M 36 0 (pt_nt l8)), pt_i (pt_A M 36 0 (pt_nt ((((10 - l5) - l6) - l7) - l8)))] M (some (pt_i (q5_I B (pt_A M 36 0 (pt_nt l5)) (pt_A M 36 0 (pt_nt l6)) (pt_A M 36 0 (pt_nt l7)) (pt_A M 36 0 (pt_nt l8)) (pt_A M 36 0 (pt_nt ((((10 - l5) - l6) - l7) - l8)))))) M ∧ (¬ (q5_I B (pt_A M 36 0 (pt_nt l5)) (pt_A M 36 0 (pt_nt l6)) (pt_A M 36 0 (pt_nt l7)) (pt_A M 36 0 (pt_nt l8)) (pt_A M 36 0 (pt_nt ((((10 - l5) - l6) - l7) - l8)))) = 0) ∧ True) (by with_unfolding_all rfl) ⟨h1, h2, h3, h4, h5, h6, h7, h8, h9, h10, (pt_callV (i := 0) kX7_breaks_125 mX7_breaksFive rfl (by decide) rfl (dX7_breaksFive_t h11)), h12, trivial⟩
set_option maxRecDepth 100000 in
theorem gX7_breaks_99_5 (l1 : Int32) (l4 : Int32) (l5 : Int32) (l6 : Int32) (l7 : Int32) (l8 : Int32) (n : Nat) (B : Nat → Nat → Nat → Bool) (M : pt_M) (h1 : ¬ l4 ≤ l8) (h2 : ¬ l8 = l5) (h3 : ¬ l8 = l6) (h4 : ¬ l8 = l7) (h5 : ¬ l4 = 4) (h6 : pt_in l5 5) (h7 : pt_in l6 5) (h8 : pt_in l7 5) (h9 : pt_in l8 5) (h10 : pt_in ((((10 - l5) - l6) - l7) - l8) 5) (h11 : br_P M l1 (pt_A M 36 0 (pt_nt l5)) (pt_A M 36 0 (pt_nt l6)) (pt_A M 36 0 (pt_nt l7)) (pt_A M 36 0 (pt_nt l8)) (pt_A M 36 0 (pt_nt ((((10 - l5) - l6) - l7) - l8))) n B) (h12 : (q5_I B (pt_A M 36 0 (pt_nt l5)) (pt_A M 36 0 (pt_nt l6)) (pt_A M 36 0 (pt_nt l7)) (pt_A M 36 0 (pt_nt l8)) (pt_A M 36 0 (pt_nt ((((10 - l5) - l6) - l7) - l8)))) = 0) :
    pt_Go YX7_breaks (99, [(0, pt_r 7 0), (1, pt_i l1), (4, pt_i l4), (5, pt_i l5), (6, pt_i l6), (7, pt_i l7), (8, pt_i l8)], [], M)
      (99, [(0, pt_r 7 0), (1, pt_i l1), (4, pt_i l4), (5, pt_i l5), (6, pt_i l6), (7, pt_i l7), (8, pt_i (l8 + 1))], [], M) :=
  pt_run_ok tX7_breaks_ok 49 [.inl false, .inl false, .inl false, .inl true, .inl true, .inr (7, some (pt_i (q5_I B (pt_A M 36 0 (pt_nt l5)) (pt_A M 36 0 (pt_nt l6)) (pt_A M 36 0 (pt_nt l7)) (pt_A M 36 0 (pt_nt l8)) (pt_A M 36 0 (pt_nt ((((10 - l5) - l6) - l7) - l8))))), M), .inl true] (P := (¬ l4 ≤ l8) ∧ (¬ l8 = l5) ∧ (¬ l8 = l6) ∧ (¬ l8 = l7) ∧ (¬ l4 = 4) ∧ (pt_in l5 5) ∧ (pt_in l6 5) ∧ (pt_in l7 5) ∧ (pt_in l8 5) ∧ (pt_in ((((10 - l5) - l6) - l7) - l8) 5) ∧ pt_Cal YX7_breaks (.invokevirtual 125) [pt_r 7 0, pt_i l1, pt_i (pt_A M 36 0 (pt_nt l5)), pt_i (pt_A M 36 0 (pt_nt l6)), pt_i (pt_A M 36 0 (pt_nt l7)), pt_i (pt_A M 36 0 (pt_nt l8)), pt_i (pt_A M 36 0 (pt_nt ((((10 - l5) - l6) - l7) - l8)))] M (some (pt_i (q5_I B (pt_A M 36 0 (pt_nt l5)) (pt_A M 36 0 (pt_nt l6)) (pt_A M 36 0 (pt_nt l7)) (pt_A M 36 0 (pt_nt l8)) (pt_A M 36 0 (pt_nt ((((10 - l5) - l6) - l7) - l8)))))) M ∧ ((q5_I B (pt_A M 36 0 (pt_nt l5)) (pt_A M 36 0 (pt_nt l6)) (pt_A M 36 0 (pt_nt l7)) (pt_A M 36 0 (pt_nt l8)) (pt_A M 36 0 (pt_nt ((((10 - l5) - l6) - l7) - l8)))) = 0) ∧ True) (by with_unfolding_all rfl) ⟨h1, h2, h3, h4, h5, h6, h7, h8, h9, h10, (pt_callV (i := 0) kX7_breaks_125 mX7_breaksFive rfl (by decide) rfl (dX7_breaksFive_t h11)), h12, trivial⟩
set_option maxRecDepth 100000 in
theorem gX7_breaks_99_6 (l1 : Int32) (l4 : Int32) (l5 : Int32) (l6 : Int32) (l7 : Int32) (l8 : Int32) (n : Nat) (B : Nat → Nat → Nat → Bool) (M : pt_M) (h1 : ¬ l4 ≤ l8) (h2 : ¬ l8 = l5) (h3 : l8 = l6) :
    pt_Go YX7_breaks (99, [(0, pt_r 7 0), (1, pt_i l1), (4, pt_i l4), (5, pt_i l5), (6, pt_i l6), (7, pt_i l7), (8, pt_i l8)], [], M)
      (99, [(0, pt_r 7 0), (1, pt_i l1), (4, pt_i l4), (5, pt_i l5), (6, pt_i l6), (7, pt_i l7), (8, pt_i (l8 + 1))], [], M) :=
  pt_run_ok tX7_breaks_ok 11 [.inl false, .inl false, .inl true] (P := (¬ l4 ≤ l8) ∧ (¬ l8 = l5) ∧ (l8 = l6) ∧ True) (by with_unfolding_all rfl) ⟨h1, h2, h3, trivial⟩
set_option maxRecDepth 100000 in
theorem gX7_breaks_99_7 (l1 : Int32) (l4 : Int32) (l5 : Int32) (l6 : Int32) (l7 : Int32) (l8 : Int32) (n : Nat) (B : Nat → Nat → Nat → Bool) (M : pt_M) (h1 : ¬ l4 ≤ l8) (h2 : l8 = l5) :
    pt_Go YX7_breaks (99, [(0, pt_r 7 0), (1, pt_i l1), (4, pt_i l4), (5, pt_i l5), (6, pt_i l6), (7, pt_i l7), (8, pt_i l8)], [], M)
      (99, [(0, pt_r 7 0), (1, pt_i l1), (4, pt_i l4), (5, pt_i l5), (6, pt_i l6), (7, pt_i l7), (8, pt_i (l8 + 1))], [], M) :=
  pt_run_ok tX7_breaks_ok 8 [.inl false, .inl true] (P := (¬ l4 ≤ l8) ∧ (l8 = l5) ∧ True) (by with_unfolding_all rfl) ⟨h1, h2, trivial⟩
set_option maxRecDepth 100000 in
theorem gX7_breaks_99_8 (l1 : Int32) (l4 : Int32) (l5 : Int32) (l6 : Int32) (l7 : Int32) (l8 : Int32) (n : Nat) (B : Nat → Nat → Nat → Bool) (M : pt_M) (h1 : l4 ≤ l8) :
    pt_Go YX7_breaks (99, [(0, pt_r 7 0), (1, pt_i l1), (4, pt_i l4), (5, pt_i l5), (6, pt_i l6), (7, pt_i l7), (8, pt_i l8)], [], M)
      (65, [(0, pt_r 7 0), (1, pt_i l1), (4, pt_i l4), (5, pt_i l5), (6, pt_i l6), (7, pt_i (l7 + 1))], [], M) :=
  (pt_run_ok tX7_breaks_ok 5 [.inl true] (P := (l4 ≤ l8) ∧ True) (by with_unfolding_all rfl) ⟨h1, trivial⟩ : pt_Go YX7_breaks _ (65, [(0, pt_r 7 0), (1, pt_i l1), (4, pt_i l4), (5, pt_i l5), (6, pt_i l6), (7, pt_i (l7 + 1)), (8, pt_i l8)], [], M)).tr (pt_pick [0, 1, 2, 3, 4, 5] (by with_unfolding_all rfl))
theorem bk_fill {o n m : Nat} {B : Nat → Nat → Nat → Bool} {M : pt_M} (hn : n ≤ 10) (hm : m < 2 ^ n) (hct : ct_N (fun k => m.testBit k) n ≤ 5) : pt_Go YX7_breaks (0, [(0, pt_r 7 0), (1, pt_i (nI o)), (2, pt_i (nI n)), (3, pt_i (nI m))], [], M) (45, [(0, pt_r 7 0), (1, pt_i (nI o)), (4, pt_i (nI (ct_N (fun k => m.testBit k) n))), (5, pt_i (nI 0))], [], pt_wA M 36 0 (so_A (pt_A M 36 0) m n)) := by
  have h2 := pb_p2 hn
  have K := pt_for0 (Y := YX7_breaks) (fun p => (6, [(0, pt_r 7 0), (1, pt_i (nI o)), (2, pt_i (nI n)), (3, pt_i (nI m)), (4, pt_i (nI (ct_N (fun k => m.testBit k) p))), (5, pt_i (nI p))], [], pt_wA M 36 0 (so_A (pt_A M 36 0) m p))) (n := n) fun p hp => by
    have hlt := nI_ge hp (show n < 2 ^ 31 by omega)
    have h0 := pt_bit0 (m := m) (k := p) (by omega) (by omega)
    cases c : m.testBit p
    · refine (gX7_breaks_6_1 (nI o) (nI n) (nI m) _ (nI p) n B _ hlt (h0.mpr c)).to ?_
      have e : so_A (pt_A M 36 0) m (p + 1) = so_A (pt_A M 36 0) m p := if_neg (by rw [c]; decide)
      rw [nI_1, e, ct_n (f := fun k => m.testBit k) c]
    · have h1 : ct_N (fun k => m.testBit k) (p + 1) = ct_N (fun k => m.testBit k) p + 1 := ct_up c
      have h3 : ct_N (fun k => m.testBit k) (p + 1) ≤ ct_N (fun k => m.testBit k) n := ct_mono (by omega)
      refine (gX7_breaks_6_2 (nI o) (nI n) (nI m) _ (nI p) n B _ hlt (fun z => by rw [h0, c] at z; cases z) (pt_in_nI (by omega) (by decide))).to ?_
      have e : so_A (pt_A M 36 0) m (p + 1) = upd (so_A (pt_A M 36 0) m p) (ct_N (fun k => m.testBit k) p) (nI p) := if_pos c
      rw [nI_1, nI_1, pt_nt_nI (by omega), pt_wA_wA, pt_A_wA, e, h1]
  refine ((gX7_breaks_0_1 (nI o) (nI n) (nI m) n B M).to ?_).tr (K.tr (gX7_breaks_6_3 (nI o) (nI n) (nI m) _ (nI n) n B _ (Int32.le_refl _)))
  show _ = (6, _, _, pt_wA M 36 0 (pt_A M 36 0))
  rw [pt_wA_self]
  rfl
theorem dX7_breaks_4 {o n m : Nat} {g : Nat → Nat} {B : Nat → Nat → Nat → Bool} {M : pt_M} (h : ml_P M o n B) (hm : m < 2 ^ n) (hct : ct_N (fun k => m.testBit k) n = 4) (hg : ∀ q, q < 4 → so_A (pt_A M 36 0) m n q = nI (g q) ∧ g q < n) (hinj : ∀ p q, p < 4 → q < 4 → g p = g q → p = q) : pt_Does yX7_breaks YX7_breaks [pt_r 7 0, pt_i (nI o), pt_i (nI n), pt_i (nI m)] M (some (pt_i (pt_b (bs_F 4 fun a b c d => q4_F B (g a) (g b) (g c) (g d)).isSome))) (pt_wA M 36 0 (so_A (pt_A M 36 0) m n)) := by
  have hn := h.2.1
  have h2 := pb_p2 hn
  have K0 := bk_fill (o := o) (n := n) (M := M) (B := B) hn hm (by rw [hct]; decide)
  rw [hct] at K0
  have hml : ml_P (pt_wA M 36 0 (so_A (pt_A M 36 0) m n)) o n B := ml_A h rfl
  have hA : ∀ q, q < 4 → pt_A (pt_wA M 36 0 (so_A (pt_A M 36 0) m n)) 36 0 (pt_nt (nI q)) = nI (g q) := fun q hq => by
    rw [pt_nt_nI (by omega), pt_A_wA]
    exact (hg q hq).1
  have hgl : ∀ q, q < 4 → g q < n := fun q hq => (hg q hq).2
  have hne : ∀ p q, p < 4 → q < 4 → p ≠ q → g p ≠ g q := fun p q hp hq hpq z => hpq (hinj p q hp hq z)
  have hX : (pt_wA M 36 0 (so_A (pt_A M 36 0) m n)).2.2.2.2 = M.2.2.2.2 := rfl
  generalize pt_wA M 36 0 (so_A (pt_A M 36 0) m n) = M2 at *
  have hin : ∀ q, q < 4 → pt_in (nI q) 5 := fun q hq => pt_in_nI (by omega) (by decide)
  have K := pt_nest (α := Unit) (Y := YX7_breaks) (σ := (0, [(0, pt_r 7 0), (1, pt_i (nI o)), (2, pt_i (nI n)), (3, pt_i (nI m))], [], M)) (τ := (257, [], [pt_i 0], M2)) (R := fun _ => (231, [], [pt_i 1], M2)) (n := 4) (i := 0)
    (S := fun a => (45, [(0, pt_r 7 0), (1, pt_i (nI o)), (4, pt_i (nI 4)), (5, pt_i (nI a))], [], M2))
    (f := fun a => fs_F (4 - 0) 0 fun b => fs_F (4 - 0) 0 fun c => if decide (a = b) || (decide (b = c) || decide (a = c)) then none else fs_F (4 - 0) 0 fun d => if decide (d = a) || (decide (d = b) || decide (d = c)) then none else if q4_F B (g a) (g b) (g c) (g d) then some () else none)
    (Nat.zero_le 4) K0 ((gX7_breaks_45_2 (nI o) (nI 4) (nI 4) n B M2 (Int32.le_refl _)).tr pt_dropA) fun a _ ha =>
    pt_nest (S := fun b => (55, [(0, pt_r 7 0), (1, pt_i (nI o)), (4, pt_i (nI 4)), (5, pt_i (nI a)), (6, pt_i (nI b))], [], M2)) (Nat.zero_le 4) (gX7_breaks_45_1 (nI o) (nI 4) (nI a) n B M2 (nI_ge ha (by decide))) ((gX7_breaks_55_2 (nI o) (nI 4) (nI a) (nI 4) n B M2 (Int32.le_refl _)).to (by rw [nI_1])) fun b _ hb =>
    pt_nest (S := fun c => (65, [(0, pt_r 7 0), (1, pt_i (nI o)), (4, pt_i (nI 4)), (5, pt_i (nI a)), (6, pt_i (nI b)), (7, pt_i (nI c))], [], M2)) (Nat.zero_le 4) (gX7_breaks_55_1 (nI o) (nI 4) (nI a) (nI b) n B M2 (nI_ge hb (by decide))) ((gX7_breaks_65_5 (nI o) (nI 4) (nI a) (nI b) (nI 4) n B M2 (Int32.le_refl _)).to (by rw [nI_1])) fun c _ hc => by
      by_cases h1 : a = b
      · rw [decide_eq_true h1]
        exact ⟨fun v z => (by cases z), fun _ => (gX7_breaks_65_4 (nI o) (nI 4) (nI a) (nI b) (nI c) n B M2 (nI_ge hc (by decide)) (by rw [h1])).to (by rw [nI_1])⟩
      have h1' := nI_nE h1 (by omega) (by omega)
      by_cases h2 : b = c
      · rw [decide_eq_true h2, Bool.true_or, Bool.or_true]
        exact ⟨fun v z => (by cases z), fun _ => (gX7_breaks_65_3 (nI o) (nI 4) (nI a) (nI b) (nI c) n B M2 (nI_ge hc (by decide)) h1' (by rw [h2])).to (by rw [nI_1])⟩
      have h2' := nI_nE h2 (by omega) (by omega)
      by_cases h3 : a = c
      · rw [decide_eq_true h3, Bool.or_true, Bool.or_true]
        exact ⟨fun v z => (by cases z), fun _ => (gX7_breaks_65_1 (nI o) (nI 4) (nI a) (nI b) (nI c) n B M2 (nI_ge hc (by decide)) h1' h2' (by rw [h3])).to (by rw [nI_1])⟩
      have h3' := nI_nE h3 (by omega) (by omega)
      rw [decide_eq_false h1, decide_eq_false h2, decide_eq_false h3]
      exact pt_nest (S := fun d => (99, [(0, pt_r 7 0), (1, pt_i (nI o)), (4, pt_i (nI 4)), (5, pt_i (nI a)), (6, pt_i (nI b)), (7, pt_i (nI c)), (8, pt_i (nI d))], [], M2)) (Nat.zero_le 4) (gX7_breaks_65_2 (nI o) (nI 4) (nI a) (nI b) (nI c) n B M2 (nI_ge hc (by decide)) h1' h2' h3') ((gX7_breaks_99_8 (nI o) (nI 4) (nI a) (nI b) (nI c) (nI 4) n B M2 (Int32.le_refl _)).to (by rw [nI_1])) fun d _ hd => by
        by_cases h4 : d = a
        · rw [decide_eq_true h4]
          exact ⟨fun v z => (by cases z), fun _ => (gX7_breaks_99_7 (nI o) (nI 4) (nI a) (nI b) (nI c) (nI d) n B M2 (nI_ge hd (by decide)) (by rw [h4])).to (by rw [nI_1])⟩
        have h4' := nI_nE h4 (by omega) (by omega)
        by_cases h5 : d = b
        · rw [decide_eq_true h5, Bool.true_or, Bool.or_true]
          exact ⟨fun v z => (by cases z), fun _ => (gX7_breaks_99_6 (nI o) (nI 4) (nI a) (nI b) (nI c) (nI d) n B M2 (nI_ge hd (by decide)) h4' (by rw [h5])).to (by rw [nI_1])⟩
        have h5' := nI_nE h5 (by omega) (by omega)
        by_cases h6 : d = c
        · rw [decide_eq_true h6, Bool.or_true, Bool.or_true]
          exact ⟨fun v z => (by cases z), fun _ => (gX7_breaks_99_1 (nI o) (nI 4) (nI a) (nI b) (nI c) (nI d) n B M2 (nI_ge hd (by decide)) h4' h5' (by rw [h6])).to (by rw [nI_1])⟩
        have h6' := nI_nE h6 (by omega) (by omega)
        rw [decide_eq_false h4, decide_eq_false h5, decide_eq_false h6]
        have ea := hA a ha
        have eb := hA b hb
        have ec := hA c hc
        have ed := hA d hd
        have hb4 : bq_P M2 (nI o) (nI (g a)) (nI (g b)) (nI (g c)) (nI (g d)) n B := ⟨o, g a, g b, g c, g d, rfl, rfl, rfl, rfl, rfl, hml, hgl a ha, hgl b hb, hgl c hc, hgl d hd, hne a b ha hb h1, hne a c ha hc h3, hne a d ha hd (fun z => h4 z.symm), hne b c hb hc h2, hne b d hb hd (fun z => h5 z.symm), hne c d hc hd (fun z => h6 z.symm)⟩
        have hv : q4_I B (nI (g a)) (nI (g b)) (nI (g c)) (nI (g d)) = pt_b (q4_F B (g a) (g b) (g c) (g d)) := by
          have := hgl a ha
          have := hgl b hb
          have := hgl c hc
          have := hgl d hd
          unfold q4_I
          rw [pt_nt_nI (by omega), pt_nt_nI (by omega), pt_nt_nI (by omega), pt_nt_nI (by omega)]
        cases hq : q4_F B (g a) (g b) (g c) (g d)
        · exact ⟨fun v z => (by cases z), fun _ => (gX7_breaks_99_3 (nI o) (nI 4) (nI a) (nI b) (nI c) (nI d) n B M2 (nI_ge hd (by decide)) h4' h5' h6' rfl (hin a ha) (hin b hb) (hin c hc) (hin d hd) (by rw [ea, eb, ec, ed]; exact hb4) (by rw [ea, eb, ec, ed, hv, hq]; rfl)).to (by rw [nI_1])⟩
        · exact ⟨fun v _ => (gX7_breaks_99_2 (nI o) (nI 4) (nI a) (nI b) (nI c) (nI d) n B M2 (nI_ge hd (by decide)) h4' h5' h6' rfl (hin a ha) (hin b hb) (hin c hc) (hin d hd) (by rw [ea, eb, ec, ed]; exact hb4) (by rw [ea, eb, ec, ed, hv, hq]; decide)).tr pt_dropA, fun z => (by cases z)⟩
  have hX2 : M2.2.2.2.2 = M.2.2.2.2 := hX
  unfold bs_F
  cases hf : (fs_F (4 - 0) 0 fun a => fs_F (4 - 0) 0 fun b => fs_F (4 - 0) 0 fun c => if decide (a = b) || (decide (b = c) || decide (a = c)) then none else fs_F (4 - 0) 0 fun d => if decide (d = a) || (decide (d = b) || decide (d = c)) then none else if q4_F B (g a) (g b) (g c) (g d) then some () else none) with
  | none => exact rX7_breaks_257 pt_nar0 (Nat.le_of_ble_eq_true rfl) hX2 (K.2 hf)
  | some v => exact rX7_breaks_231 pt_nar1 (Nat.le_of_ble_eq_true rfl) hX2 (K.1 v hf)
theorem dX7_breaks_5 {o n m : Nat} {g : Nat → Nat} {B : Nat → Nat → Nat → Bool} {M : pt_M} (h : ml_P M o n B) (hm : m < 2 ^ n) (hct : ct_N (fun k => m.testBit k) n = 5) (hg : ∀ q, q < 5 → so_A (pt_A M 36 0) m n q = nI (g q) ∧ g q < n) (hinj : ∀ p q, p < 5 → q < 5 → g p = g q → p = q) : pt_Does yX7_breaks YX7_breaks [pt_r 7 0, pt_i (nI o), pt_i (nI n), pt_i (nI m)] M (some (pt_i (pt_b (bs_F 5 fun a b c d => os_F B (g a) (g b) (g c) (g d) (g (10 - a - b - c - d))).isSome))) (pt_wA M 36 0 (so_A (pt_A M 36 0) m n)) := by
  have hn := h.2.1
  have h2 := pb_p2 hn
  have K0 := bk_fill (o := o) (n := n) (M := M) (B := B) hn hm (by rw [hct]; decide)
  rw [hct] at K0
  have hml : ml_P (pt_wA M 36 0 (so_A (pt_A M 36 0) m n)) o n B := ml_A h rfl
  have hA : ∀ q, q < 5 → pt_A (pt_wA M 36 0 (so_A (pt_A M 36 0) m n)) 36 0 (pt_nt (nI q)) = nI (g q) := fun q hq => by
    rw [pt_nt_nI (by omega), pt_A_wA]
    exact (hg q hq).1
  have hgl : ∀ q, q < 5 → g q < n := fun q hq => (hg q hq).2
  have hne : ∀ p q, p < 5 → q < 5 → p ≠ q → g p ≠ g q := fun p q hp hq hpq z => hpq (hinj p q hp hq z)
  have hX : (pt_wA M 36 0 (so_A (pt_A M 36 0) m n)).2.2.2.2 = M.2.2.2.2 := rfl
  generalize pt_wA M 36 0 (so_A (pt_A M 36 0) m n) = M2 at *
  have hin : ∀ q, q < 5 → pt_in (nI q) 5 := fun q hq => pt_in_nI (by omega) (by decide)
  have K := pt_nest (α := Unit) (Y := YX7_breaks) (σ := (0, [(0, pt_r 7 0), (1, pt_i (nI o)), (2, pt_i (nI n)), (3, pt_i (nI m))], [], M)) (τ := (257, [], [pt_i 0], M2)) (R := fun _ => (231, [], [pt_i 1], M2)) (n := 5) (i := 0)
    (S := fun a => (45, [(0, pt_r 7 0), (1, pt_i (nI o)), (4, pt_i (nI 5)), (5, pt_i (nI a))], [], M2))
    (f := fun a => fs_F (5 - 0) 0 fun b => fs_F (5 - 0) 0 fun c => if decide (a = b) || (decide (b = c) || decide (a = c)) then none else fs_F (5 - 0) 0 fun d => if decide (d = a) || (decide (d = b) || decide (d = c)) then none else if os_F B (g a) (g b) (g c) (g d) (g (10 - a - b - c - d)) then some () else none)
    (Nat.zero_le 5) K0 ((gX7_breaks_45_2 (nI o) (nI 5) (nI 5) n B M2 (Int32.le_refl _)).tr pt_dropA) fun a _ ha =>
    pt_nest (S := fun b => (55, [(0, pt_r 7 0), (1, pt_i (nI o)), (4, pt_i (nI 5)), (5, pt_i (nI a)), (6, pt_i (nI b))], [], M2)) (Nat.zero_le 5) (gX7_breaks_45_1 (nI o) (nI 5) (nI a) n B M2 (nI_ge ha (by decide))) ((gX7_breaks_55_2 (nI o) (nI 5) (nI a) (nI 5) n B M2 (Int32.le_refl _)).to (by rw [nI_1])) fun b _ hb =>
    pt_nest (S := fun c => (65, [(0, pt_r 7 0), (1, pt_i (nI o)), (4, pt_i (nI 5)), (5, pt_i (nI a)), (6, pt_i (nI b)), (7, pt_i (nI c))], [], M2)) (Nat.zero_le 5) (gX7_breaks_55_1 (nI o) (nI 5) (nI a) (nI b) n B M2 (nI_ge hb (by decide))) ((gX7_breaks_65_5 (nI o) (nI 5) (nI a) (nI b) (nI 5) n B M2 (Int32.le_refl _)).to (by rw [nI_1])) fun c _ hc => by
      by_cases h1 : a = b
      · rw [decide_eq_true h1]
        exact ⟨fun v z => (by cases z), fun _ => (gX7_breaks_65_4 (nI o) (nI 5) (nI a) (nI b) (nI c) n B M2 (nI_ge hc (by decide)) (by rw [h1])).to (by rw [nI_1])⟩
      have h1' := nI_nE h1 (by omega) (by omega)
      by_cases h2 : b = c
      · rw [decide_eq_true h2, Bool.true_or, Bool.or_true]
        exact ⟨fun v z => (by cases z), fun _ => (gX7_breaks_65_3 (nI o) (nI 5) (nI a) (nI b) (nI c) n B M2 (nI_ge hc (by decide)) h1' (by rw [h2])).to (by rw [nI_1])⟩
      have h2' := nI_nE h2 (by omega) (by omega)
      by_cases h3 : a = c
      · rw [decide_eq_true h3, Bool.or_true, Bool.or_true]
        exact ⟨fun v z => (by cases z), fun _ => (gX7_breaks_65_1 (nI o) (nI 5) (nI a) (nI b) (nI c) n B M2 (nI_ge hc (by decide)) h1' h2' (by rw [h3])).to (by rw [nI_1])⟩
      have h3' := nI_nE h3 (by omega) (by omega)
      rw [decide_eq_false h1, decide_eq_false h2, decide_eq_false h3]
      exact pt_nest (S := fun d => (99, [(0, pt_r 7 0), (1, pt_i (nI o)), (4, pt_i (nI 5)), (5, pt_i (nI a)), (6, pt_i (nI b)), (7, pt_i (nI c)), (8, pt_i (nI d))], [], M2)) (Nat.zero_le 5) (gX7_breaks_65_2 (nI o) (nI 5) (nI a) (nI b) (nI c) n B M2 (nI_ge hc (by decide)) h1' h2' h3') ((gX7_breaks_99_8 (nI o) (nI 5) (nI a) (nI b) (nI c) (nI 5) n B M2 (Int32.le_refl _)).to (by rw [nI_1])) fun d _ hd => by
        by_cases h4 : d = a
        · rw [decide_eq_true h4]
          exact ⟨fun v z => (by cases z), fun _ => (gX7_breaks_99_7 (nI o) (nI 5) (nI a) (nI b) (nI c) (nI d) n B M2 (nI_ge hd (by decide)) (by rw [h4])).to (by rw [nI_1])⟩
        have h4' := nI_nE h4 (by omega) (by omega)
        by_cases h5 : d = b
        · rw [decide_eq_true h5, Bool.true_or, Bool.or_true]
          exact ⟨fun v z => (by cases z), fun _ => (gX7_breaks_99_6 (nI o) (nI 5) (nI a) (nI b) (nI c) (nI d) n B M2 (nI_ge hd (by decide)) h4' (by rw [h5])).to (by rw [nI_1])⟩
        have h5' := nI_nE h5 (by omega) (by omega)
        by_cases h6 : d = c
        · rw [decide_eq_true h6, Bool.or_true, Bool.or_true]
          exact ⟨fun v z => (by cases z), fun _ => (gX7_breaks_99_1 (nI o) (nI 5) (nI a) (nI b) (nI c) (nI d) n B M2 (nI_ge hd (by decide)) h4' h5' (by rw [h6])).to (by rw [nI_1])⟩
        have h6' := nI_nE h6 (by omega) (by omega)
        rw [decide_eq_false h4, decide_eq_false h5, decide_eq_false h6]
        have ea := hA a ha
        have eb := hA b hb
        have ec := hA c hc
        have ed := hA d hd
        obtain ⟨q1, q2, q3, q4, q5⟩ := e5_ok ha hb hc hd h1 h2 h3 h4 h5 h6
        have e10 : (((10 - nI a) - nI b) - nI c) - nI d = nI (10 - a - b - c - d) := by
          rw [show (10 : Int32) = nI 10 from rfl, pk_sub (by omega), pk_sub (by omega), pk_sub (by omega), pk_sub (by omega)]
        generalize hf : 10 - a - b - c - d = f at *
        have ef := hA f q1
        have hb5 : br_P M2 (nI o) (nI (g a)) (nI (g b)) (nI (g c)) (nI (g d)) (nI (g f)) n B := ⟨o, g a, g b, g c, g d, g f, rfl, rfl, rfl, rfl, rfl, rfl, hml, hgl a ha, hgl b hb, hgl c hc, hgl d hd, hgl f q1, hne a b ha hb h1, hne a c ha hc h3, hne a d ha hd (fun z => h4 z.symm), hne a f ha q1 (fun z => q2 z.symm), hne b c hb hc h2, hne b d hb hd (fun z => h5 z.symm), hne b f hb q1 (fun z => q3 z.symm), hne c d hc hd (fun z => h6 z.symm), hne c f hc q1 (fun z => q4 z.symm), hne d f hd q1 (fun z => q5 z.symm)⟩
        have hv : q5_I B (nI (g a)) (nI (g b)) (nI (g c)) (nI (g d)) (nI (g f)) = pt_b (os_F B (g a) (g b) (g c) (g d) (g f)) := by
          have := hgl a ha
          have := hgl b hb
          have := hgl c hc
          have := hgl d hd
          have := hgl f q1
          unfold q5_I
          rw [pt_nt_nI (by omega), pt_nt_nI (by omega), pt_nt_nI (by omega), pt_nt_nI (by omega), pt_nt_nI (by omega)]
        cases hq : os_F B (g a) (g b) (g c) (g d) (g f)
        · exact ⟨fun v z => (by cases z), fun _ => (gX7_breaks_99_5 (nI o) (nI 5) (nI a) (nI b) (nI c) (nI d) n B M2 (nI_ge hd (by decide)) h4' h5' h6' (by decide) (hin a ha) (hin b hb) (hin c hc) (hin d hd) (by rw [e10]; exact hin f q1) (by rw [e10, ea, eb, ec, ed, ef]; exact hb5) (by rw [e10, ea, eb, ec, ed, ef, hv, hq]; rfl)).to (by rw [nI_1])⟩
        · exact ⟨fun v _ => (gX7_breaks_99_4 (nI o) (nI 5) (nI a) (nI b) (nI c) (nI d) n B M2 (nI_ge hd (by decide)) h4' h5' h6' (by decide) (hin a ha) (hin b hb) (hin c hc) (hin d hd) (by rw [e10]; exact hin f q1) (by rw [e10, ea, eb, ec, ed, ef]; exact hb5) (by rw [e10, ea, eb, ec, ed, ef, hv, hq]; decide)).tr pt_dropA, fun z => (by cases z)⟩
  have hX2 : M2.2.2.2.2 = M.2.2.2.2 := hX
  unfold bs_F
  cases hf : (fs_F (5 - 0) 0 fun a => fs_F (5 - 0) 0 fun b => fs_F (5 - 0) 0 fun c => if decide (a = b) || (decide (b = c) || decide (a = c)) then none else fs_F (5 - 0) 0 fun d => if decide (d = a) || (decide (d = b) || decide (d = c)) then none else if os_F B (g a) (g b) (g c) (g d) (g (10 - a - b - c - d)) then some () else none) with
  | none => exact rX7_breaks_257 pt_nar0 (Nat.le_of_ble_eq_true rfl) hX2 (K.2 hf)
  | some v => exact rX7_breaks_231 pt_nar1 (Nat.le_of_ble_eq_true rfl) hX2 (K.1 v hf)
