/-! CALLS ON BOTH SIDES: flip, inside -/
def pm_F (a b c x y z : Nat) : Bool := decide (x = a ∧ y = b ∧ z = c) || (decide (x = b ∧ y = c ∧ z = a) || (decide (x = c ∧ y = a ∧ z = b) || (decide (x = b ∧ y = a ∧ z = c) || (decide (x = a ∧ y = c ∧ z = b) || decide (x = c ∧ y = b ∧ z = a)))))
theorem pm_iff {a b c x y z : Nat} : pm_F a b c x y z = true ↔ (x = a ∧ y = b ∧ z = c) ∨ (x = b ∧ y = c ∧ z = a) ∨ (x = c ∧ y = a ∧ z = b) ∨ (x = b ∧ y = a ∧ z = c) ∨ (x = a ∧ y = c ∧ z = b) ∨ (x = c ∧ y = b ∧ z = a) := by
  unfold pm_F
  simp only [Bool.or_eq_true, decide_eq_true_eq]
def fp_F (B : Nat → Nat → Nat → Bool) (a b c x y z : Nat) : Bool := if pm_F a b c x y z = true then !B x y z else B x y z
theorem pm_cyc {a b c x y z : Nat} : pm_F a b c y z x = pm_F a b c x y z := by
  rw [Bool.eq_iff_iff, pm_iff, pm_iff]
  constructor
  · rintro (⟨rfl, rfl, rfl⟩ | ⟨rfl, rfl, rfl⟩ | ⟨rfl, rfl, rfl⟩ | ⟨rfl, rfl, rfl⟩ | ⟨rfl, rfl, rfl⟩ | ⟨rfl, rfl, rfl⟩) <;> simp
  · rintro (⟨rfl, rfl, rfl⟩ | ⟨rfl, rfl, rfl⟩ | ⟨rfl, rfl, rfl⟩ | ⟨rfl, rfl, rfl⟩ | ⟨rfl, rfl, rfl⟩ | ⟨rfl, rfl, rfl⟩) <;> simp
theorem pm_swp {a b c x y z : Nat} : pm_F a b c y x z = pm_F a b c x y z := by
  rw [Bool.eq_iff_iff, pm_iff, pm_iff]
  constructor
  · rintro (⟨rfl, rfl, rfl⟩ | ⟨rfl, rfl, rfl⟩ | ⟨rfl, rfl, rfl⟩ | ⟨rfl, rfl, rfl⟩ | ⟨rfl, rfl, rfl⟩ | ⟨rfl, rfl, rfl⟩) <;> simp
  · rintro (⟨rfl, rfl, rfl⟩ | ⟨rfl, rfl, rfl⟩ | ⟨rfl, rfl, rfl⟩ | ⟨rfl, rfl, rfl⟩ | ⟨rfl, rfl, rfl⟩ | ⟨rfl, rfl, rfl⟩) <;> simp
theorem fp_sy {n a b c : Nat} {B : Nat → Nat → Nat → Bool} (hs : sy_P n B) : sy_P n (fp_F B a b c) := fun i j k hi hj hk h1 h2 h3 => by
  obtain ⟨s1, s2⟩ := hs i j k hi hj hk h1 h2 h3
  unfold fp_F
  rw [pm_cyc (x := i) (y := j) (z := k), pm_swp (x := i) (y := j) (z := k), s1, s2]
  cases pm_F a b c i j k
  · exact ⟨rfl, rfl⟩
  · exact ⟨rfl, rfl⟩
/-- what put does is the flip -/
theorem pu_fp {n a b c : Nat} {B : Nat → Nat → Nat → Bool} (hs : sy_P n B) (ha : a < n) (hb : b < n) (hc : c < n) (hab : a ≠ b) (hbc : b ≠ c) (hac : a ≠ c) : pb_pu B a b c (!B a b c) = fp_F B a b c := by
  obtain ⟨s1, s2⟩ := hs a b c ha hb hc hab hbc hac
  obtain ⟨s3, s4⟩ := hs c a b hc ha hb (fun z => hac z.symm) hab (fun z => hbc z.symm)
  obtain ⟨s5, s6⟩ := hs b c a hb hc ha hbc (fun z => hac z.symm) (fun z => hab z.symm)
  funext x y z
  unfold pb_pu fp_F
  by_cases c1 : x = a ∧ y = c ∧ z = b
  · rw [if_pos c1, if_pos (pm_iff.mpr (Or.inr (Or.inr (Or.inr (Or.inr (Or.inl c1)))))), c1.1, c1.2.1, c1.2.2, s4, s3]
  rw [if_neg c1]
  by_cases c2 : x = c ∧ y = b ∧ z = a
  · rw [if_pos c2, if_pos (pm_iff.mpr (Or.inr (Or.inr (Or.inr (Or.inr (Or.inr c2)))))), c2.1, c2.2.1, c2.2.2, s6, s1]
  rw [if_neg c2]
  by_cases c3 : x = b ∧ y = a ∧ z = c
  · rw [if_pos c3, if_pos (pm_iff.mpr (Or.inr (Or.inr (Or.inr (Or.inl c3))))), c3.1, c3.2.1, c3.2.2, s2]
  rw [if_neg c3]
  by_cases c4 : x = c ∧ y = a ∧ z = b
  · rw [if_pos c4, if_pos (pm_iff.mpr (Or.inr (Or.inr (Or.inl c4)))), c4.1, c4.2.1, c4.2.2, s3]
  rw [if_neg c4]
  by_cases c5 : x = b ∧ y = c ∧ z = a
  · rw [if_pos c5, if_pos (pm_iff.mpr (Or.inr (Or.inl c5))), c5.1, c5.2.1, c5.2.2, s1]
  rw [if_neg c5]
  by_cases c6 : x = a ∧ y = b ∧ z = c
  · rw [if_pos c6, if_pos (pm_iff.mpr (Or.inl c6)), c6.1, c6.2.1, c6.2.2]
  rw [if_neg c6, if_neg (fun w => by
    rw [pm_iff] at w
    rcases w with w | w | w | w | w | w
    · exact c6 w
    · exact c5 w
    · exact c4 w
    · exact c3 w
    · exact c1 w
    · exact c2 w)]
theorem nB_up {n i j k : Nat} {s : Nat → Nat → Nat → Bool} (h1 : i < j) (h2 : j < k) (hk : k < n) : nB_F n s i j k = s i j k := by
  unfold nB_F
  rw [pb_g_iff.mpr ⟨by omega, by omega, hk, by omega, by omega, by omega⟩, pb_x_up s h1 h2]
  rfl
theorem nB_sy {n : Nat} {s : Nat → Nat → Nat → Bool} : sy_P n (nB_F n s) := sy_x
/-- a whole table is that of its rising threes -/
theorem nB_eq {n : Nat} {F S : Nat → Nat → Nat → Bool} (hs : sy_P n F) (h0 : ∀ x y z, pb_g n x y z = false → F x y z = false) (h : ∀ x y z, x < y → y < z → z < n → F x y z = S x y z) : F = nB_F n S := by
  funext x y z
  cases hg : pb_g n x y z
  · rw [h0 x y z hg, nB_g hg]
  · obtain ⟨a1, a2, a3, a4, a5, a6⟩ := pb_g_iff.mp hg
    rw [px_sy hs a1 a2 a3 a4 a5 a6, px_sy (nB_sy (n := n) (s := S)) a1 a2 a3 a4 a5 a6]
    exact px_cong (n := n) (fun u v w b1 b2 b3 => by rw [h u v w b1 b2 b3, nB_up b1 b2 b3]) a1 a2 a3 a4 a5 a6
theorem fp_nB {n a b c : Nat} {S : Nat → Nat → Nat → Bool} (ha : a < n) (hb : b < n) (hc : c < n) (hab : a ≠ b) (hbc : b ≠ c) (hac : a ≠ c) : fp_F (nB_F n S) a b c = nB_F n (fp_F S a b c) := by
  refine nB_eq (fp_sy nB_sy) (fun x y z hg => ?_) (fun x y z h1 h2 h3 => ?_)
  · have : ¬ pm_F a b c x y z = true := fun w => by
      rw [pm_iff] at w
      have : pb_g n x y z = true := by
        rcases w with ⟨rfl, rfl, rfl⟩ | ⟨rfl, rfl, rfl⟩ | ⟨rfl, rfl, rfl⟩ | ⟨rfl, rfl, rfl⟩ | ⟨rfl, rfl, rfl⟩ | ⟨rfl, rfl, rfl⟩ <;> (refine pb_g_iff.mpr ⟨?_, ?_, ?_, ?_, ?_, ?_⟩ <;> omega)
      rw [hg] at this
      cases this
    unfold fp_F
    rw [if_neg this, nB_g hg]
  · unfold fp_F
    rw [nB_up h1 h2 h3]
theorem tw_self {M : pt_M} {t : Nat} {B : Nat → Nat → Nat → Bool} (h : ct_B M t B) : tw_F M t B = M := by
  unfold tw_F
  have e : tc_F B (pt_A M 11 t) = pt_A M 11 t := by
    funext p
    unfold tc_F
    by_cases hp : p < 100
    · have h1 := h (p / 10) (p % 10) (by omega) (by omega)
      rw [show 10 * (p / 10) + p % 10 = p by omega] at h1
      rw [if_pos hp, h1]
    · rw [if_neg hp]
  rw [e, pt_wA_self]
theorem tw_ct {M : pt_M} {t : Nat} {B : Nat → Nat → Nat → Bool} : ct_B (tw_F M t B) t B := fun i j hi hj => by
  unfold tw_F
  rw [pt_A_wA]
  unfold tc_F
  rw [if_pos (by omega), show (10 * i + j) / 10 = i by omega, show (10 * i + j) % 10 = j by omega]
def fl_M (M : pt_M) (p : Nat) : pt_M := pt_wA M 32 0 (upd (pt_A M 32 0) p (-(pt_A M 32 0 p)))
theorem rX7_flip_18 {vs : List pt_V} {M M' : pt_M} {x : Int32} {L : List (Nat × pt_V)} (hn : narrow .boolean (.int x) = .int x) (hvs : (vs.map pt_w).sum ≤ 8) (hX : M'.2.2.2.2 = M.2.2.2.2) (h : pt_Go YX7_flip (0, pt_en 0 vs, [], M) (18, L, [pt_i x], M')) : pt_Does yX7_flip YX7_flip vs M (some (pt_i x)) M' := pt_does_go tX7_flip_ok nX7_flip hvs hX ⟨_, by with_unfolding_all rfl, rfl, _, rfl, hn⟩ h
theorem rX7_flip_129 {vs : List pt_V} {M M' : pt_M} {x : Int32} {L : List (Nat × pt_V)} (hn : narrow .boolean (.int x) = .int x) (hvs : (vs.map pt_w).sum ≤ 8) (hX : M'.2.2.2.2 = M.2.2.2.2) (h : pt_Go YX7_flip (0, pt_en 0 vs, [], M) (129, L, [pt_i x], M')) : pt_Does yX7_flip YX7_flip vs M (some (pt_i x)) M' := pt_does_go tX7_flip_ok nX7_flip hvs hX ⟨_, by with_unfolding_all rfl, rfl, _, rfl, hn⟩ h
set_option maxRecDepth 100000 in
theorem gX7_flip_0_1 (x1 : Int32) (x2 : Int32) (x3 : Int32) (x4 : Int32)  (M : pt_M) (h1 : aT_P (pt_wF M 7 0 0 0) x1 x2 x3 x4) (h2 : ¬ x3 ≤ x2) (h3 : ¬ x4 ≤ x2) :
    pt_Go YX7_flip (0, [(0, pt_r 7 0), (1, pt_i x1), (2, pt_i x2), (3, pt_i x3), (4, pt_i x4)], [], M)
      (53, [(0, pt_r 7 0), (1, pt_i x1), (2, pt_i x2), (3, pt_i x3), (4, pt_i x4), (5, pt_i x2)], [], (pt_wF M 7 0 0 0)) :=
  pt_run_ok tX7_flip_ok 19 [.inr (5, some (pt_i 1), (pt_wF M 7 0 0 0)), .inl true, .inl false, .inl false] (P := pt_Cal YX7_flip (.invokevirtual 107) [pt_r 7 0, pt_i x1, pt_i x2, pt_i x3, pt_i x4] (pt_wF M 7 0 0 0) (some (pt_i 1)) (pt_wF M 7 0 0 0) ∧ (¬ (1 : Int32) = (0 : Int32)) ∧ (¬ x3 ≤ x2) ∧ (¬ x4 ≤ x2) ∧ True) (by with_unfolding_all rfl) ⟨(pt_callV (i := 0) kX7_flip_107 mX7_areThree rfl (by decide) rfl (dX7_areThree_1 h1)), (by decide), h2, h3, trivial⟩
set_option maxRecDepth 100000 in
theorem gX7_flip_0_2 (x1 : Int32) (x2 : Int32) (x3 : Int32) (x4 : Int32)  (M : pt_M) (h1 : aT_P (pt_wF M 7 0 0 0) x1 x2 x3 x4) (h2 : ¬ x3 ≤ x2) (h3 : x4 ≤ x2) :
    pt_Go YX7_flip (0, [(0, pt_r 7 0), (1, pt_i x1), (2, pt_i x2), (3, pt_i x3), (4, pt_i x4)], [], M)
      (53, [(0, pt_r 7 0), (1, pt_i x1), (2, pt_i x2), (3, pt_i x3), (4, pt_i x4), (5, pt_i x4)], [], (pt_wF M 7 0 0 0)) :=
  pt_run_ok tX7_flip_ok 19 [.inr (5, some (pt_i 1), (pt_wF M 7 0 0 0)), .inl true, .inl false, .inl true] (P := pt_Cal YX7_flip (.invokevirtual 107) [pt_r 7 0, pt_i x1, pt_i x2, pt_i x3, pt_i x4] (pt_wF M 7 0 0 0) (some (pt_i 1)) (pt_wF M 7 0 0 0) ∧ (¬ (1 : Int32) = (0 : Int32)) ∧ (¬ x3 ≤ x2) ∧ (x4 ≤ x2) ∧ True) (by with_unfolding_all rfl) ⟨(pt_callV (i := 0) kX7_flip_107 mX7_areThree rfl (by decide) rfl (dX7_areThree_1 h1)), (by decide), h2, h3, trivial⟩
set_option maxRecDepth 100000 in
theorem gX7_flip_0_3 (x1 : Int32) (x2 : Int32) (x3 : Int32) (x4 : Int32)  (M : pt_M) (h1 : aT_P (pt_wF M 7 0 0 0) x1 x2 x3 x4) (h2 : x3 ≤ x2) (h3 : ¬ x4 ≤ x3) :
    pt_Go YX7_flip (0, [(0, pt_r 7 0), (1, pt_i x1), (2, pt_i x2), (3, pt_i x3), (4, pt_i x4)], [], M)
      (53, [(0, pt_r 7 0), (1, pt_i x1), (2, pt_i x2), (3, pt_i x3), (4, pt_i x4), (5, pt_i x3)], [], (pt_wF M 7 0 0 0)) :=
  pt_run_ok tX7_flip_ok 19 [.inr (5, some (pt_i 1), (pt_wF M 7 0 0 0)), .inl true, .inl true, .inl false] (P := pt_Cal YX7_flip (.invokevirtual 107) [pt_r 7 0, pt_i x1, pt_i x2, pt_i x3, pt_i x4] (pt_wF M 7 0 0 0) (some (pt_i 1)) (pt_wF M 7 0 0 0) ∧ (¬ (1 : Int32) = (0 : Int32)) ∧ (x3 ≤ x2) ∧ (¬ x4 ≤ x3) ∧ True) (by with_unfolding_all rfl) ⟨(pt_callV (i := 0) kX7_flip_107 mX7_areThree rfl (by decide) rfl (dX7_areThree_1 h1)), (by decide), h2, h3, trivial⟩
set_option maxRecDepth 100000 in
theorem gX7_flip_0_4 (x1 : Int32) (x2 : Int32) (x3 : Int32) (x4 : Int32)  (M : pt_M) (h1 : aT_P (pt_wF M 7 0 0 0) x1 x2 x3 x4) (h2 : x3 ≤ x2) (h3 : x4 ≤ x3) :
    pt_Go YX7_flip (0, [(0, pt_r 7 0), (1, pt_i x1), (2, pt_i x2), (3, pt_i x3), (4, pt_i x4)], [], M)
      (53, [(0, pt_r 7 0), (1, pt_i x1), (2, pt_i x2), (3, pt_i x3), (4, pt_i x4), (5, pt_i x4)], [], (pt_wF M 7 0 0 0)) :=
  pt_run_ok tX7_flip_ok 18 [.inr (5, some (pt_i 1), (pt_wF M 7 0 0 0)), .inl true, .inl true, .inl true] (P := pt_Cal YX7_flip (.invokevirtual 107) [pt_r 7 0, pt_i x1, pt_i x2, pt_i x3, pt_i x4] (pt_wF M 7 0 0 0) (some (pt_i 1)) (pt_wF M 7 0 0 0) ∧ (¬ (1 : Int32) = (0 : Int32)) ∧ (x3 ≤ x2) ∧ (x4 ≤ x3) ∧ True) (by with_unfolding_all rfl) ⟨(pt_callV (i := 0) kX7_flip_107 mX7_areThree rfl (by decide) rfl (dX7_areThree_1 h1)), (by decide), h2, h3, trivial⟩
set_option maxRecDepth 100000 in
theorem gX7_flip_0_5 (x1 : Int32) (x2 : Int32) (x3 : Int32) (x4 : Int32)  (M : pt_M) (h1 : aN_P (pt_wF M 7 0 0 0) x1 x2 x3 x4) :
    pt_Go YX7_flip (0, [(0, pt_r 7 0), (1, pt_i x1), (2, pt_i x2), (3, pt_i x3), (4, pt_i x4)], [], M)
      (18, [(0, pt_r 7 0), (1, pt_i x1), (2, pt_i x2), (3, pt_i x3), (4, pt_i x4)], [pt_i 0], (pt_wF M 7 0 0 0)) :=
  pt_run_ok tX7_flip_ok 11 [.inr (5, some (pt_i 0), (pt_wF M 7 0 0 0)), .inl false] (P := pt_Cal YX7_flip (.invokevirtual 107) [pt_r 7 0, pt_i x1, pt_i x2, pt_i x3, pt_i x4] (pt_wF M 7 0 0 0) (some (pt_i 0)) (pt_wF M 7 0 0 0) ∧ ((0 : Int32) = (0 : Int32)) ∧ True) (by with_unfolding_all rfl) ⟨(pt_callV (i := 0) kX7_flip_107 mX7_areThree rfl (by decide) rfl (dX7_areThree_0 h1)), (by decide), trivial⟩
set_option maxRecDepth 100000 in
theorem gX7_flip_53_1 (l1 : Int32) (l2 : Int32) (l3 : Int32) (l4 : Int32) (l5 : Int32)  (M : pt_M) (h1 : ¬ l2 ≤ l3) (h2 : ¬ l2 ≤ l4) :
    pt_Go YX7_flip (53, [(0, pt_r 7 0), (1, pt_i l1), (2, pt_i l2), (3, pt_i l3), (4, pt_i l4), (5, pt_i l5)], [], M)
      (87, [(0, pt_r 7 0), (1, pt_i l1), (2, pt_i l2), (3, pt_i l3), (4, pt_i l4), (5, pt_i l5), (6, pt_i l2)], [], M) :=
  pt_run_ok tX7_flip_ok 9 [.inl false, .inl false] (P := (¬ l2 ≤ l3) ∧ (¬ l2 ≤ l4) ∧ True) (by with_unfolding_all rfl) ⟨h1, h2, trivial⟩
set_option maxRecDepth 100000 in
theorem gX7_flip_53_2 (l1 : Int32) (l2 : Int32) (l3 : Int32) (l4 : Int32) (l5 : Int32)  (M : pt_M) (h1 : ¬ l2 ≤ l3) (h2 : l2 ≤ l4) :
    pt_Go YX7_flip (53, [(0, pt_r 7 0), (1, pt_i l1), (2, pt_i l2), (3, pt_i l3), (4, pt_i l4), (5, pt_i l5)], [], M)
      (87, [(0, pt_r 7 0), (1, pt_i l1), (2, pt_i l2), (3, pt_i l3), (4, pt_i l4), (5, pt_i l5), (6, pt_i l4)], [], M) :=
  pt_run_ok tX7_flip_ok 9 [.inl false, .inl true] (P := (¬ l2 ≤ l3) ∧ (l2 ≤ l4) ∧ True) (by with_unfolding_all rfl) ⟨h1, h2, trivial⟩
set_option maxRecDepth 100000 in
theorem gX7_flip_53_3 (l1 : Int32) (l2 : Int32) (l3 : Int32) (l4 : Int32) (l5 : Int32)  (M : pt_M) (h1 : l2 ≤ l3) (h2 : ¬ l3 ≤ l4) :
    pt_Go YX7_flip (53, [(0, pt_r 7 0), (1, pt_i l1), (2, pt_i l2), (3, pt_i l3), (4, pt_i l4), (5, pt_i l5)], [], M)
      (87, [(0, pt_r 7 0), (1, pt_i l1), (2, pt_i l2), (3, pt_i l3), (4, pt_i l4), (5, pt_i l5), (6, pt_i l3)], [], M) :=
  pt_run_ok tX7_flip_ok 9 [.inl true, .inl false] (P := (l2 ≤ l3) ∧ (¬ l3 ≤ l4) ∧ True) (by with_unfolding_all rfl) ⟨h1, h2, trivial⟩
set_option maxRecDepth 100000 in
theorem gX7_flip_53_4 (l1 : Int32) (l2 : Int32) (l3 : Int32) (l4 : Int32) (l5 : Int32)  (M : pt_M) (h1 : l2 ≤ l3) (h2 : l3 ≤ l4) :
    pt_Go YX7_flip (53, [(0, pt_r 7 0), (1, pt_i l1), (2, pt_i l2), (3, pt_i l3), (4, pt_i l4), (5, pt_i l5)], [], M)
      (87, [(0, pt_r 7 0), (1, pt_i l1), (2, pt_i l2), (3, pt_i l3), (4, pt_i l4), (5, pt_i l5), (6, pt_i l4)], [], M) :=
  pt_run_ok tX7_flip_ok 8 [.inl true, .inl true] (P := (l2 ≤ l3) ∧ (l3 ≤ l4) ∧ True) (by with_unfolding_all rfl) ⟨h1, h2, trivial⟩
set_option maxRecDepth 100000 in
theorem gX7_flip_87_1 (l1 : Int32) (l2 : Int32) (l3 : Int32) (l4 : Int32) (l5 : Int32) (l6 : Int32)  (M : pt_M) (h1 : pt_in ((120 * l1) + (th_I l5 ((((l2 + l3) + l4) - l5) - l6) l6)) 960) :
    pt_Go YX7_flip (87, [(0, pt_r 7 0), (1, pt_i l1), (2, pt_i l2), (3, pt_i l3), (4, pt_i l4), (5, pt_i l5), (6, pt_i l6)], [], M)
      (129, [(0, pt_r 7 0), (1, pt_i l1), (2, pt_i l2), (3, pt_i l3), (4, pt_i l4), (5, pt_i l5), (6, pt_i l6), (7, pt_i ((120 * l1) + (th_I l5 ((((l2 + l3) + l4) - l5) - l6) l6)))], [pt_i 1], (pt_wA M 32 0 (upd (pt_A M 32 0) (pt_nt ((120 * l1) + (th_I l5 ((((l2 + l3) + l4) - l5) - l6) l6))) (-(pt_A M 32 0 (pt_nt ((120 * l1) + (th_I l5 ((((l2 + l3) + l4) - l5) - l6) l6)))))))) :=
  pt_run_ok tX7_flip_ok 27 [.inr (3, some (pt_i (th_I l5 ((((l2 + l3) + l4) - l5) - l6) l6)), M)] (P := pt_Cal YX7_flip (.invokestatic 77) [pt_i l5, pt_i ((((l2 + l3) + l4) - l5) - l6), pt_i l6] M (some (pt_i (th_I l5 ((((l2 + l3) + l4) - l5) - l6) l6))) M ∧ (pt_in ((120 * l1) + (th_I l5 ((((l2 + l3) + l4) - l5) - l6) l6)) 960) ∧ (pt_in ((120 * l1) + (th_I l5 ((((l2 + l3) + l4) - l5) - l6) l6)) 960) ∧ True) (by with_unfolding_all rfl) ⟨(pt_callS kX7_flip_77 mX7_three rfl (dX7_three l5 ((((l2 + l3) + l4) - l5) - l6) l6 M)), h1, h1, trivial⟩
theorem dX7_flip {s n a b c : Nat} {M : pt_M} (hs : s < 6) (hn : n ≤ 10) (h : aT_P M (nI s) (nI a) (nI b) (nI c)) (ha : a < n) (hb : b < n) (hc : c < n) (hab : a ≠ b) (hbc : b ≠ c) (hac : a ≠ c) : ∃ lo mi hi, lo < mi ∧ mi < hi ∧ hi < n ∧ pm_F a b c lo mi hi = true ∧ pt_Does yX7_flip YX7_flip [pt_r 7 0, pt_i (nI s), pt_i (nI a), pt_i (nI b), pt_i (nI c)] M (some (pt_i 1)) (fl_M (t0_M M) (120 * s + th_F lo mi hi)) := by
  have fin : ∀ lo mi hi, lo < mi → mi < hi → hi < n → ((((nI a + nI b) + nI c) - nI lo) - nI hi) = nI mi → pt_Go YX7_flip (87, [(0, pt_r 7 0), (1, pt_i (nI s)), (2, pt_i (nI a)), (3, pt_i (nI b)), (4, pt_i (nI c)), (5, pt_i (nI lo)), (6, pt_i (nI hi))], [], t0_M M) (129, [], [pt_i 1], fl_M (t0_M M) (120 * s + th_F lo mi hi)) := fun lo mi hi h1 h2 h3 e => by
    obtain ⟨e1, e2⟩ := th_nI h1 h2 (show hi < 10 by omega)
    have e4 : (120 * nI s) + (th_I (nI lo) ((((nI a + nI b) + nI c) - nI lo) - nI hi) (nI hi)) = nI (120 * s + th_F lo mi hi) := by rw [e, e1, m120, nI_add]
    have g := gX7_flip_87_1 (nI s) (nI a) (nI b) (nI c) (nI lo) (nI hi) (t0_M M)
    rw [e4, pt_nt_nI (by omega)] at g
    exact (g (pt_in_nI (by omega) (by decide))).tr pt_dropA
  rcases Nat.lt_or_gt_of_ne hab with q1 | q1 <;> rcases Nat.lt_or_gt_of_ne hbc with q2 | q2 <;> rcases Nat.lt_or_gt_of_ne hac with q3 | q3 <;> first | (exfalso; omega) | skip
  · refine ⟨a, b, c, by omega, by omega, by omega, by unfold pm_F; simp, ?_⟩
    have e : (((nI a + nI b) + nI c) - nI a) - nI c = nI b := by
      rw [nI_add, nI_add, pk_sub (by omega), pk_sub (by omega)]
      exact congrArg nI (by omega)
    exact rX7_flip_129 rfl (Nat.le_of_ble_eq_true rfl) rfl ((gX7_flip_0_1 (nI s) (nI a) (nI b) (nI c) M h (fun z => absurd ((nI_leI (by omega) (by omega)).mp z) (by omega)) (fun z => absurd ((nI_leI (by omega) (by omega)).mp z) (by omega))).tr ((gX7_flip_53_4 (nI s) (nI a) (nI b) (nI c) (nI a) (t0_M M) ((nI_leI (by omega) (by omega)).mpr (by omega)) ((nI_leI (by omega) (by omega)).mpr (by omega))).tr (fin a b c (by omega) (by omega) (by omega) e)))
  · refine ⟨a, c, b, by omega, by omega, by omega, by unfold pm_F; simp, ?_⟩
    have e : (((nI a + nI b) + nI c) - nI a) - nI b = nI c := by
      rw [nI_add, nI_add, pk_sub (by omega), pk_sub (by omega)]
      exact congrArg nI (by omega)
    exact rX7_flip_129 rfl (Nat.le_of_ble_eq_true rfl) rfl ((gX7_flip_0_1 (nI s) (nI a) (nI b) (nI c) M h (fun z => absurd ((nI_leI (by omega) (by omega)).mp z) (by omega)) (fun z => absurd ((nI_leI (by omega) (by omega)).mp z) (by omega))).tr ((gX7_flip_53_3 (nI s) (nI a) (nI b) (nI c) (nI a) (t0_M M) ((nI_leI (by omega) (by omega)).mpr (by omega)) (fun z => absurd ((nI_leI (by omega) (by omega)).mp z) (by omega))).tr (fin a c b (by omega) (by omega) (by omega) e)))
  · refine ⟨c, a, b, by omega, by omega, by omega, by unfold pm_F; simp, ?_⟩
    have e : (((nI a + nI b) + nI c) - nI c) - nI b = nI a := by
      rw [nI_add, nI_add, pk_sub (by omega), pk_sub (by omega)]
      exact congrArg nI (by omega)
    exact rX7_flip_129 rfl (Nat.le_of_ble_eq_true rfl) rfl ((gX7_flip_0_2 (nI s) (nI a) (nI b) (nI c) M h (fun z => absurd ((nI_leI (by omega) (by omega)).mp z) (by omega)) ((nI_leI (by omega) (by omega)).mpr (by omega))).tr ((gX7_flip_53_3 (nI s) (nI a) (nI b) (nI c) (nI c) (t0_M M) ((nI_leI (by omega) (by omega)).mpr (by omega)) (fun z => absurd ((nI_leI (by omega) (by omega)).mp z) (by omega))).tr (fin c a b (by omega) (by omega) (by omega) e)))
  · refine ⟨b, a, c, by omega, by omega, by omega, by unfold pm_F; simp, ?_⟩
    have e : (((nI a + nI b) + nI c) - nI b) - nI c = nI a := by
      rw [nI_add, nI_add, pk_sub (by omega), pk_sub (by omega)]
      exact congrArg nI (by omega)
    exact rX7_flip_129 rfl (Nat.le_of_ble_eq_true rfl) rfl ((gX7_flip_0_3 (nI s) (nI a) (nI b) (nI c) M h ((nI_leI (by omega) (by omega)).mpr (by omega)) (fun z => absurd ((nI_leI (by omega) (by omega)).mp z) (by omega))).tr ((gX7_flip_53_2 (nI s) (nI a) (nI b) (nI c) (nI b) (t0_M M) (fun z => absurd ((nI_leI (by omega) (by omega)).mp z) (by omega)) ((nI_leI (by omega) (by omega)).mpr (by omega))).tr (fin b a c (by omega) (by omega) (by omega) e)))
  · refine ⟨b, c, a, by omega, by omega, by omega, by unfold pm_F; simp, ?_⟩
    have e : (((nI a + nI b) + nI c) - nI b) - nI a = nI c := by
      rw [nI_add, nI_add, pk_sub (by omega), pk_sub (by omega)]
      exact congrArg nI (by omega)
    exact rX7_flip_129 rfl (Nat.le_of_ble_eq_true rfl) rfl ((gX7_flip_0_3 (nI s) (nI a) (nI b) (nI c) M h ((nI_leI (by omega) (by omega)).mpr (by omega)) (fun z => absurd ((nI_leI (by omega) (by omega)).mp z) (by omega))).tr ((gX7_flip_53_1 (nI s) (nI a) (nI b) (nI c) (nI b) (t0_M M) (fun z => absurd ((nI_leI (by omega) (by omega)).mp z) (by omega)) (fun z => absurd ((nI_leI (by omega) (by omega)).mp z) (by omega))).tr (fin b c a (by omega) (by omega) (by omega) e)))
  · refine ⟨c, b, a, by omega, by omega, by omega, by unfold pm_F; simp, ?_⟩
    have e : (((nI a + nI b) + nI c) - nI c) - nI a = nI b := by
      rw [nI_add, nI_add, pk_sub (by omega), pk_sub (by omega)]
      exact congrArg nI (by omega)
    exact rX7_flip_129 rfl (Nat.le_of_ble_eq_true rfl) rfl ((gX7_flip_0_4 (nI s) (nI a) (nI b) (nI c) M h ((nI_leI (by omega) (by omega)).mpr (by omega)) ((nI_leI (by omega) (by omega)).mpr (by omega))).tr ((gX7_flip_53_1 (nI s) (nI a) (nI b) (nI c) (nI c) (t0_M M) (fun z => absurd ((nI_leI (by omega) (by omega)).mp z) (by omega)) (fun z => absurd ((nI_leI (by omega) (by omega)).mp z) (by omega))).tr (fin c b a (by omega) (by omega) (by omega) e)))
theorem fl_ml {M : pt_M} {o n a b c lo mi hi : Nat} {S : Nat → Nat → Nat → Bool} (h : ml_P M o n (nB_F n S)) (h1 : lo < mi) (h2 : mi < hi) (h3 : hi < n) (hp : pm_F a b c lo mi hi = true) : ml_P (fl_M M (o + th_F lo mi hi)) o n (nB_F n (fp_F S a b c)) := by
  obtain ⟨ho, hn, hT, -⟩ := h
  refine ⟨ho, hn, fun i j k g1 g2 g3 => ?_, nB_sy⟩
  obtain ⟨-, e2, e3⟩ := th_all h1 h2 (show hi < 10 by omega)
  obtain ⟨-, f2, f3⟩ := th_all g1 g2 (show k < 10 by omega)
  have hv := hT i j k g1 g2 g3
  rw [nB_up g1 g2 g3] at hv
  rw [nB_up g1 g2 g3]
  unfold fl_M
  rw [pt_A_wA]
  unfold upd
  by_cases e : o + th_F i j k = o + th_F lo mi hi
  · have e4 : th_F i j k = th_F lo mi hi := by omega
    rw [e4, e3] at f3
    simp only [Prod.mk.injEq] at f3
    obtain ⟨r1, r2, r3⟩ := f3
    subst r1 r2 r3
    rw [if_pos rfl, hv, tv_neg]
    unfold fp_F
    rw [if_pos hp]
  · rw [if_neg e, hv]
    have : ¬ pm_F a b c i j k = true := fun w => by
      rw [pm_iff] at w hp
      have : i = lo ∧ j = mi ∧ k = hi := by
        rcases w with ⟨w1, w2, w3⟩ | ⟨w1, w2, w3⟩ | ⟨w1, w2, w3⟩ | ⟨w1, w2, w3⟩ | ⟨w1, w2, w3⟩ | ⟨w1, w2, w3⟩ <;> rcases hp with ⟨p1, p2, p3⟩ | ⟨p1, p2, p3⟩ | ⟨p1, p2, p3⟩ | ⟨p1, p2, p3⟩ | ⟨p1, p2, p3⟩ | ⟨p1, p2, p3⟩ <;> (refine ⟨?_, ?_, ?_⟩ <;> omega)
      obtain ⟨r1, r2, r3⟩ := this
      exact e (by rw [r1, r2, r3])
    unfold fp_F
    rw [if_neg this]
theorem op_flip {M : pt_M} (h : IV_P M) (x i j k : Int32) : op_P yX6_flip YX6_flip yX7_flip YX7_flip [pt_i x, pt_i i, pt_i j, pt_i k] M := by
  obtain ⟨A, hC, hM⟩ := h
  have no : ∀ M, aN_P (t0_M M) x i j k → pt_Does yX7_flip YX7_flip [pt_r 7 0, pt_i x, pt_i i, pt_i j, pt_i k] M (some (pt_i 0)) (t0_M M) := fun M hN => rX7_flip_18 rfl (Nat.le_of_ble_eq_true rfl) rfl (gX7_flip_0_5 x i j k M hN)
  rcases lw_case hC x with ⟨h1, h2⟩ | ⟨s, hs, rfl, hn⟩
  · exact op_of hC hM (A' := A) (M2 := t0_M M) (dX6_flip_p4 x i j k M h1) mo_P.rf hC fun hM => ⟨no M (Or.inl (h2 M hM)), t0_ca, hM⟩
  · obtain ⟨q1, q2, q3, q4, q5, q6⟩ := CR_y hC hs hn
    have e : pt_nt (nI s) = s := pt_nt_nI (by omega)
    have hr : pt_R M (pt_nt (nI s) + 1) < 7 := by rw [e]; exact hC.2.1 _ (by omega)
    by_cases hg : g3_P (iv_N A s) i j k
    · have hht := (ht_g3 (t := pt_R M (pt_nt (nI s) + 1)) q2 (by rw [e]; exact q4.2.2.1)).mpr hg
      have hg0 := hg
      obtain ⟨a, b, c, rfl, rfl, rfl, ha, hb, hc, d1, d2, d3⟩ := hg
      have hlb : lb_F M (pt_R M (pt_nt (nI s) + 1)) (nI a) (nI b) (nI c) = pt_b (iv_B A s a b c) := by
        rw [e]
        exact lb_B q4.2.2.2 (by omega) (by omega) (by omega)
      have hpu := pu_nI (i := a) (j := b) (k := c) (by omega) (by omega) (by omega)
      have D : pt_Does yX6_flip YX6_flip [pt_r 2 0, pt_i (nI s), pt_i (nI a), pt_i (nI b), pt_i (nI c)] M (some (pt_i 1)) (fg_F (pu_F M (pt_R M (s + 1)) (nI a) (nI b) (nI c) (pt_b (!iv_B A s a b c))) (pt_R M (s + 1))) := by
        cases hv : iv_B A s a b c
        · rw [hv] at hlb
          have D := dX6_flip_p1 (nI s) (nI a) (nI b) (nI c) M q3 hr hht (pt_in_nI (by omega) (by decide)) (pt_in_nI (by omega) (by decide)) (by rw [hlb]; rfl) hpu
          rw [e] at D
          exact D
        · rw [hv] at hlb
          have D := dX6_flip_p2 (nI s) (nI a) (nI b) (nI c) M q3 hr hht (pt_in_nI (by omega) (by decide)) (pt_in_nI (by omega) (by decide)) (by rw [hlb]; decide) hpu
          rw [e] at D
          exact D
      have e2 : pu_F M (pt_R M (s + 1)) (nI a) (nI b) (nI c) (pt_b (!iv_B A s a b c)) = tw_F M (pt_R M (s + 1)) (nB_F (iv_N A s) (fp_F (iv_S A s) a b c)) := by
        have e3 := pu_tw (M := M) (t := pt_R M (s + 1)) (i := a) (j := b) (k := c) (B := iv_B A s) (!iv_B A s a b c) (by omega) (by omega) (by omega)
        rw [tw_self q4.2.2.2] at e3
        rw [e3]
        exact congrArg (tw_F M (pt_R M (s + 1))) ((pu_fp (B := iv_B A s) (show sy_P (iv_N A s) (iv_B A s) from nB_sy) ha hb hc d1 d2 d3).trans (fp_nB ha hb hc d1 d2 d3))
      rw [e2] at D
      have hM1 := MR_mo (M' := fg_F (tw_F M (pt_R M (s + 1)) (nB_F (iv_N A s) (fp_F (iv_S A s) a b c))) (pt_R M (s + 1))) hM (((mo_wA (by decide)).tr (mo_wF (by decide))).tr (mo_wF (by decide)))
      obtain ⟨p1, p2, p3⟩ := MR_y (MR_t0 hM1) hs hn
      obtain ⟨lo, mi, hi, z1, z2, z3, z4, D2⟩ := dX7_flip (n := iv_N A s) hs q2 (MR_T hM1 hs hn hg0) ha hb hc d1 d2 d3
      refine op_of hC hM (A' := iv_set A s (iv_N A s) (fp_F (iv_S A s) a b c)) D (((mo_wA (by decide)).tr (mo_wF (by decide))).tr (mo_wF (by decide))) ?_ fun hM => ⟨D2, t0_ca.tr (ca_wA (by decide)), ?_⟩
      · refine CR_slot hC hs (fun k f i z => ?_) (fun k i z1 z2 => ?_) rfl hC.2.2.2.2.1 (Or.inr ⟨q1, ⟨q4.1, q2, ?_, fun i j hi hj => tw_ct i j hi hj⟩, Or.inl ?_, Or.inl ?_⟩)
        · unfold fg_F
          rw [pt_F_wF, if_neg (fun w => z ⟨w.1, w.2.2⟩), pt_F_wF, if_neg (fun w => z ⟨w.1, w.2.2⟩)]
          rfl
        · exact if_neg (fun w => z2 ⟨w.2, Or.inl w.1⟩)
        · unfold fg_F
          rw [pt_F_wF, if_neg (by omega), pt_F_wF, if_neg (by omega)]
          exact q4.2.2.1
        · unfold fg_F
          rw [pt_F_wF, if_neg (by omega), pt_F_wF, if_pos ⟨rfl, rfl, rfl⟩]
        · unfold fg_F
          rw [pt_F_wF, if_pos ⟨rfl, rfl, rfl⟩]
      · have hz10 : hi < 10 := by omega
        obtain ⟨-, t2⟩ := th_nI z1 z2 hz10
        refine MR_slot hM hs rfl rfl rfl rfl rfl rfl rfl (fun _ _ => rfl) (fun p g1 g2 => ?_) ⟨p2, Or.inr ⟨q1, fl_ml p3 z1 z2 z3 z4⟩⟩
        unfold fl_M
        rw [pt_A_wA]
        unfold upd
        exact if_neg (by omega)
    · exact op_of hC hM (A' := A) (M2 := t0_M M) (dX6_flip_p3 (nI s) i j k M q3 hr (fun z => hg ((ht_g3 q2 (by rw [e]; exact q4.2.2.1)).mp z))) mo_P.rf hC fun hM => ⟨no M (MR_F hM hs hn hg), t0_ca, hM⟩
