/-! THE MODEL: rims -/
def al_F (p : Nat → Bool) : Nat → Bool
  | 0 => true
  | k + 1 => al_F p k && p k
theorem al_iff {p : Nat → Bool} : ∀ {k : Nat}, al_F p k = true ↔ ∀ i, i < k → p i = true
  | 0 => ⟨fun _ i hi => absurd hi (Nat.not_lt_zero i), fun _ => rfl⟩
  | k + 1 => by
    show (al_F p k && p k) = true ↔ _
    rw [Bool.and_eq_true, al_iff]
    constructor
    · rintro ⟨h1, h2⟩ i hi
      by_cases h : i = k
      · rw [h]; exact h2
      · exact h1 i (by omega)
    · exact fun h => ⟨fun i hi => h i (by omega), h k (by omega)⟩
theorem al_all {p : Nat → Bool} {k : Nat} : al_F p k = (List.range k).all p := by
  rw [Bool.eq_iff_iff, al_iff, List.all_eq_true]
  exact ⟨fun h i hi => h i (List.mem_range.mp hi), fun h i hi => h i (List.mem_range.mpr hi)⟩
theorem al_f {p : Nat → Bool} {k : Nat} (h : al_F p k = false) : al_F p (k + 1) = false := by
  show (al_F p k && p k) = false
  rw [h]
  rfl
theorem al_t {p : Nat → Bool} {k : Nat} (h : al_F p k = true) : al_F p (k + 1) = p k := by
  show (al_F p k && p k) = p k
  rw [h]
  rfl
theorem fs_ext {α : Type} {f : Nat → Option α} : ∀ {d i : Nat} (e : Nat), (∀ j, i + d ≤ j → j < i + d + e → f j = none) → fs_F (d + e) i f = fs_F d i f
  | 0, i, e, h => by
    rw [Nat.zero_add]
    exact fs_none.mpr fun j h1 h2 => h j (by omega) (by omega)
  | d + 1, i, e, h => by
    rw [show d + 1 + e = (d + e) + 1 by omega]
    unfold fs_F
    rw [fs_ext (d := d) (i := i + 1) e fun j h1 h2 => h j (by omega) (by omega)]
theorem tb_lt {m n k : Nat} (hm : m < 2 ^ n) (h : m.testBit k = true) : k < n := by
  by_cases hk : k < n
  · exact hk
  · have h2 : 2 ^ n ≤ 2 ^ k := Nat.pow_le_pow_right (by decide) (by omega)
    rw [Nat.testBit_lt_two_pow (by omega)] at h
    cases h
theorem pt_bit0 {m k : Nat} (hm : m < 1024) (hk : k < 10) : ((nI m >>> (nI k &&& 31)) &&& 1) = 0 ↔ m.testBit k = false := by
  rw [pt_bit (by omega) (by omega)]
  cases m.testBit k <;> decide
theorem pt_bit9 {m k : Nat} (hm : m < 1024) (hk : k < 10) : ((nI m >>> (nI k &&& 31)) &&& 1) = 1 ↔ m.testBit k = true := pt_bit1 (by omega) (by omega)
theorem nI_nE {a b : Nat} (h : a ≠ b) (ha : a < 2 ^ 31) (hb : b < 2 ^ 31) : ¬ nI a = nI b := fun z => h ((nI_eq ha hb).mp z)
def nk_F (B : Nat → Nat → Nat → Bool) (m i j k : Nat) : Bool := decide (k = i) || (decide (k = j) || (!m.testBit k || B i j k))
theorem nq_al {B : Nat → Nat → Nat → Bool} {m i j : Nat} : nq_F B m i j = (decide (j ≠ i) && (m.testBit j && al_F (nk_F B m i j) 10)) := by
  rw [al_all]
  rfl
theorem rX7_nextTo_101 {vs : List pt_V} {M M' : pt_M} {x : Int32} {L : List (Nat × pt_V)} (hvs : (vs.map pt_w).sum ≤ 7) (hX : M'.2.2.2.2 = M.2.2.2.2) (h : pt_Go YX7_nextTo (0, pt_en 0 vs, [], M) (101, L, [pt_i x], M')) : pt_Does yX7_nextTo YX7_nextTo vs M (some (pt_i x)) M' := pt_does_go tX7_nextTo_ok nX7_nextTo hvs hX ⟨_, by with_unfolding_all rfl, rfl, _, rfl, rfl⟩ h
theorem rX7_nextTo_109 {vs : List pt_V} {M M' : pt_M} {x : Int32} {L : List (Nat × pt_V)} (hvs : (vs.map pt_w).sum ≤ 7) (hX : M'.2.2.2.2 = M.2.2.2.2) (h : pt_Go YX7_nextTo (0, pt_en 0 vs, [], M) (109, L, [pt_i x], M')) : pt_Does yX7_nextTo YX7_nextTo vs M (some (pt_i x)) M' := pt_does_go tX7_nextTo_ok nX7_nextTo hvs hX ⟨_, by with_unfolding_all rfl, rfl, _, rfl, rfl⟩ h
set_option maxRecDepth 100000 in
theorem gX7_nextTo_0_1 (x1 : Int32) (x2 : Int32) (x3 : Int32) (n : Nat) (B : Nat → Nat → Nat → Bool) (M : pt_M) :
    pt_Go YX7_nextTo (0, [(0, pt_r 7 0), (1, pt_i x1), (2, pt_i x2), (3, pt_i x3)], [], M)
      (3, [(0, pt_r 7 0), (1, pt_i x1), (2, pt_i x2), (3, pt_i x3), (4, pt_i 0)], [], M) :=
  pt_run_ok tX7_nextTo_ok 2 [] (P := True) (by with_unfolding_all rfl) trivial
set_option maxRecDepth 100000 in
theorem gX7_nextTo_3_1 (l1 : Int32) (l2 : Int32) (l3 : Int32) (l4 : Int32) (n : Nat) (B : Nat → Nat → Nat → Bool) (M : pt_M) (h1 : ¬ 10 ≤ l4) (h2 : ¬ l4 = l3) (h3 : ((l2 >>> (l4 &&& 31)) &&& 1) = 0) :
    pt_Go YX7_nextTo (3, [(0, pt_r 7 0), (1, pt_i l1), (2, pt_i l2), (3, pt_i l3), (4, pt_i l4)], [], M)
      (3, [(0, pt_r 7 0), (1, pt_i l1), (2, pt_i l2), (3, pt_i l3), (4, pt_i (l4 + 1))], [], M) :=
  pt_run_ok tX7_nextTo_ok 15 [.inl false, .inl false, .inl false] (P := (¬ 10 ≤ l4) ∧ (¬ l4 = l3) ∧ (((l2 >>> (l4 &&& 31)) &&& 1) = 0) ∧ True) (by with_unfolding_all rfl) ⟨h1, h2, h3, trivial⟩
set_option maxRecDepth 100000 in
theorem gX7_nextTo_3_2 (l1 : Int32) (l2 : Int32) (l3 : Int32) (l4 : Int32) (n : Nat) (B : Nat → Nat → Nat → Bool) (M : pt_M) (h1 : ¬ 10 ≤ l4) (h2 : ¬ l4 = l3) (h3 : ¬ ((l2 >>> (l4 &&& 31)) &&& 1) = 0) :
    pt_Go YX7_nextTo (3, [(0, pt_r 7 0), (1, pt_i l1), (2, pt_i l2), (3, pt_i l3), (4, pt_i l4)], [], M)
      (34, [(0, pt_r 7 0), (1, pt_i l1), (2, pt_i l2), (3, pt_i l3), (4, pt_i l4), (5, pt_i 1), (6, pt_i 0)], [], M) :=
  pt_run_ok tX7_nextTo_ok 16 [.inl false, .inl false, .inl true] (P := (¬ 10 ≤ l4) ∧ (¬ l4 = l3) ∧ (¬ ((l2 >>> (l4 &&& 31)) &&& 1) = 0) ∧ True) (by with_unfolding_all rfl) ⟨h1, h2, h3, trivial⟩
set_option maxRecDepth 100000 in
theorem gX7_nextTo_3_3 (l1 : Int32) (l2 : Int32) (l3 : Int32) (l4 : Int32) (n : Nat) (B : Nat → Nat → Nat → Bool) (M : pt_M) (h1 : ¬ 10 ≤ l4) (h2 : l4 = l3) :
    pt_Go YX7_nextTo (3, [(0, pt_r 7 0), (1, pt_i l1), (2, pt_i l2), (3, pt_i l3), (4, pt_i l4)], [], M)
      (3, [(0, pt_r 7 0), (1, pt_i l1), (2, pt_i l2), (3, pt_i l3), (4, pt_i (l4 + 1))], [], M) :=
  pt_run_ok tX7_nextTo_ok 8 [.inl false, .inl true] (P := (¬ 10 ≤ l4) ∧ (l4 = l3) ∧ True) (by with_unfolding_all rfl) ⟨h1, h2, trivial⟩
set_option maxRecDepth 100000 in
theorem gX7_nextTo_3_4 (l1 : Int32) (l2 : Int32) (l3 : Int32) (l4 : Int32) (n : Nat) (B : Nat → Nat → Nat → Bool) (M : pt_M) (h1 : 10 ≤ l4) :
    pt_Go YX7_nextTo (3, [(0, pt_r 7 0), (1, pt_i l1), (2, pt_i l2), (3, pt_i l3), (4, pt_i l4)], [], M)
      (109, [(0, pt_r 7 0), (1, pt_i l1), (2, pt_i l2), (3, pt_i l3), (4, pt_i l4)], [pt_i (-1)], M) :=
  pt_run_ok tX7_nextTo_ok 4 [.inl true] (P := (10 ≤ l4) ∧ True) (by with_unfolding_all rfl) ⟨h1, trivial⟩
set_option maxRecDepth 100000 in
theorem gX7_nextTo_34_1 (l1 : Int32) (l2 : Int32) (l3 : Int32) (l4 : Int32) (l5 : Int32) (l6 : Int32) (n : Nat) (B : Nat → Nat → Nat → Bool) (M : pt_M) (h1 : ¬ 10 ≤ l6) (h2 : ¬ l5 = 0) (h3 : ¬ l6 = l3) (h4 : ¬ l6 = l4) (h5 : ¬ ((l2 >>> (l6 &&& 31)) &&& 1) = 0) (h6 : tq_P M l1 l3 l4 l6 n B) (h7 : ¬ (tl_I B l3 l4 l6) = 0) :
    pt_Go YX7_nextTo (34, [(0, pt_r 7 0), (1, pt_i l1), (2, pt_i l2), (3, pt_i l3), (4, pt_i l4), (5, pt_i l5), (6, pt_i l6)], [], M)
      (34, [(0, pt_r 7 0), (1, pt_i l1), (2, pt_i l2), (3, pt_i l3), (4, pt_i l4), (5, pt_i 1), (6, pt_i (l6 + 1))], [], M) :=
  pt_run_ok tX7_nextTo_ok 29 [.inl false, .inl false, .inl false, .inl false, .inl false, .inr (5, some (pt_i (tl_I B l3 l4 l6)), M), .inl false] (P := (¬ 10 ≤ l6) ∧ (¬ l5 = 0) ∧ (¬ l6 = l3) ∧ (¬ l6 = l4) ∧ (¬ ((l2 >>> (l6 &&& 31)) &&& 1) = 0) ∧ pt_Cal YX7_nextTo (.invokevirtual 118) [pt_r 7 0, pt_i l1, pt_i l3, pt_i l4, pt_i l6] M (some (pt_i (tl_I B l3 l4 l6))) M ∧ (¬ (tl_I B l3 l4 l6) = 0) ∧ True) (by with_unfolding_all rfl) ⟨h1, h2, h3, h4, h5, (pt_callV (i := 0) kX7_nextTo_118 mX7_left rfl (by decide) rfl (dX7_left_t h6)), h7, trivial⟩
set_option maxRecDepth 100000 in
theorem gX7_nextTo_34_2 (l1 : Int32) (l2 : Int32) (l3 : Int32) (l4 : Int32) (l5 : Int32) (l6 : Int32) (n : Nat) (B : Nat → Nat → Nat → Bool) (M : pt_M) (h1 : ¬ 10 ≤ l6) (h2 : ¬ l5 = 0) (h3 : ¬ l6 = l3) (h4 : ¬ l6 = l4) (h5 : ¬ ((l2 >>> (l6 &&& 31)) &&& 1) = 0) (h6 : tq_P M l1 l3 l4 l6 n B) (h7 : (tl_I B l3 l4 l6) = 0) :
    pt_Go YX7_nextTo (34, [(0, pt_r 7 0), (1, pt_i l1), (2, pt_i l2), (3, pt_i l3), (4, pt_i l4), (5, pt_i l5), (6, pt_i l6)], [], M)
      (34, [(0, pt_r 7 0), (1, pt_i l1), (2, pt_i l2), (3, pt_i l3), (4, pt_i l4), (5, pt_i 0), (6, pt_i (l6 + 1))], [], M) :=
  pt_run_ok tX7_nextTo_ok 28 [.inl false, .inl false, .inl false, .inl false, .inl false, .inr (5, some (pt_i (tl_I B l3 l4 l6)), M), .inl true] (P := (¬ 10 ≤ l6) ∧ (¬ l5 = 0) ∧ (¬ l6 = l3) ∧ (¬ l6 = l4) ∧ (¬ ((l2 >>> (l6 &&& 31)) &&& 1) = 0) ∧ pt_Cal YX7_nextTo (.invokevirtual 118) [pt_r 7 0, pt_i l1, pt_i l3, pt_i l4, pt_i l6] M (some (pt_i (tl_I B l3 l4 l6))) M ∧ ((tl_I B l3 l4 l6) = 0) ∧ True) (by with_unfolding_all rfl) ⟨h1, h2, h3, h4, h5, (pt_callV (i := 0) kX7_nextTo_118 mX7_left rfl (by decide) rfl (dX7_left_t h6)), h7, trivial⟩
set_option maxRecDepth 100000 in
theorem gX7_nextTo_34_3 (l1 : Int32) (l2 : Int32) (l3 : Int32) (l4 : Int32) (l5 : Int32) (l6 : Int32) (n : Nat) (B : Nat → Nat → Nat → Bool) (M : pt_M) (h1 : ¬ 10 ≤ l6) (h2 : ¬ l5 = 0) (h3 : ¬ l6 = l3) (h4 : ¬ l6 = l4) (h5 : ((l2 >>> (l6 &&& 31)) &&& 1) = 0) :
    pt_Go YX7_nextTo (34, [(0, pt_r 7 0), (1, pt_i l1), (2, pt_i l2), (3, pt_i l3), (4, pt_i l4), (5, pt_i l5), (6, pt_i l6)], [], M)
      (34, [(0, pt_r 7 0), (1, pt_i l1), (2, pt_i l2), (3, pt_i l3), (4, pt_i l4), (5, pt_i 1), (6, pt_i (l6 + 1))], [], M) :=
  pt_run_ok tX7_nextTo_ok 22 [.inl false, .inl false, .inl false, .inl false, .inl true] (P := (¬ 10 ≤ l6) ∧ (¬ l5 = 0) ∧ (¬ l6 = l3) ∧ (¬ l6 = l4) ∧ (((l2 >>> (l6 &&& 31)) &&& 1) = 0) ∧ True) (by with_unfolding_all rfl) ⟨h1, h2, h3, h4, h5, trivial⟩
set_option maxRecDepth 100000 in
theorem gX7_nextTo_34_4 (l1 : Int32) (l2 : Int32) (l3 : Int32) (l4 : Int32) (l5 : Int32) (l6 : Int32) (n : Nat) (B : Nat → Nat → Nat → Bool) (M : pt_M) (h1 : ¬ 10 ≤ l6) (h2 : ¬ l5 = 0) (h3 : ¬ l6 = l3) (h4 : l6 = l4) :
    pt_Go YX7_nextTo (34, [(0, pt_r 7 0), (1, pt_i l1), (2, pt_i l2), (3, pt_i l3), (4, pt_i l4), (5, pt_i l5), (6, pt_i l6)], [], M)
      (34, [(0, pt_r 7 0), (1, pt_i l1), (2, pt_i l2), (3, pt_i l3), (4, pt_i l4), (5, pt_i 1), (6, pt_i (l6 + 1))], [], M) :=
  pt_run_ok tX7_nextTo_ok 16 [.inl false, .inl false, .inl false, .inl true] (P := (¬ 10 ≤ l6) ∧ (¬ l5 = 0) ∧ (¬ l6 = l3) ∧ (l6 = l4) ∧ True) (by with_unfolding_all rfl) ⟨h1, h2, h3, h4, trivial⟩
set_option maxRecDepth 100000 in
theorem gX7_nextTo_34_5 (l1 : Int32) (l2 : Int32) (l3 : Int32) (l4 : Int32) (l5 : Int32) (l6 : Int32) (n : Nat) (B : Nat → Nat → Nat → Bool) (M : pt_M) (h1 : ¬ 10 ≤ l6) (h2 : ¬ l5 = 0) (h3 : l6 = l3) :
    pt_Go YX7_nextTo (34, [(0, pt_r 7 0), (1, pt_i l1), (2, pt_i l2), (3, pt_i l3), (4, pt_i l4), (5, pt_i l5), (6, pt_i l6)], [], M)
      (34, [(0, pt_r 7 0), (1, pt_i l1), (2, pt_i l2), (3, pt_i l3), (4, pt_i l4), (5, pt_i 1), (6, pt_i (l6 + 1))], [], M) :=
  pt_run_ok tX7_nextTo_ok 13 [.inl false, .inl false, .inl true] (P := (¬ 10 ≤ l6) ∧ (¬ l5 = 0) ∧ (l6 = l3) ∧ True) (by with_unfolding_all rfl) ⟨h1, h2, h3, trivial⟩
set_option maxRecDepth 100000 in
theorem gX7_nextTo_34_6 (l1 : Int32) (l2 : Int32) (l3 : Int32) (l4 : Int32) (l5 : Int32) (l6 : Int32) (n : Nat) (B : Nat → Nat → Nat → Bool) (M : pt_M) (h1 : ¬ 10 ≤ l6) (h2 : l5 = 0) :
    pt_Go YX7_nextTo (34, [(0, pt_r 7 0), (1, pt_i l1), (2, pt_i l2), (3, pt_i l3), (4, pt_i l4), (5, pt_i l5), (6, pt_i l6)], [], M)
      (34, [(0, pt_r 7 0), (1, pt_i l1), (2, pt_i l2), (3, pt_i l3), (4, pt_i l4), (5, pt_i 0), (6, pt_i (l6 + 1))], [], M) :=
  pt_run_ok tX7_nextTo_ok 9 [.inl false, .inl true] (P := (¬ 10 ≤ l6) ∧ (l5 = 0) ∧ True) (by with_unfolding_all rfl) ⟨h1, h2, trivial⟩
set_option maxRecDepth 100000 in
theorem gX7_nextTo_34_7 (l1 : Int32) (l2 : Int32) (l3 : Int32) (l4 : Int32) (l5 : Int32) (l6 : Int32) (n : Nat) (B : Nat → Nat → Nat → Bool) (M : pt_M) (h1 : 10 ≤ l6) (h2 : ¬ l5 = 0) :
    pt_Go YX7_nextTo (34, [(0, pt_r 7 0), (1, pt_i l1), (2, pt_i l2), (3, pt_i l3), (4, pt_i l4), (5, pt_i l5), (6, pt_i l6)], [], M)
      (101, [(0, pt_r 7 0), (1, pt_i l1), (2, pt_i l2), (3, pt_i l3), (4, pt_i l4), (5, pt_i l5), (6, pt_i l6)], [pt_i l4], M) :=
  pt_run_ok tX7_nextTo_ok 6 [.inl true, .inl false] (P := (10 ≤ l6) ∧ (¬ l5 = 0) ∧ True) (by with_unfolding_all rfl) ⟨h1, h2, trivial⟩
set_option maxRecDepth 100000 in
theorem gX7_nextTo_34_8 (l1 : Int32) (l2 : Int32) (l3 : Int32) (l4 : Int32) (l5 : Int32) (l6 : Int32) (n : Nat) (B : Nat → Nat → Nat → Bool) (M : pt_M) (h1 : 10 ≤ l6) (h2 : l5 = 0) :
    pt_Go YX7_nextTo (34, [(0, pt_r 7 0), (1, pt_i l1), (2, pt_i l2), (3, pt_i l3), (4, pt_i l4), (5, pt_i l5), (6, pt_i l6)], [], M)
      (3, [(0, pt_r 7 0), (1, pt_i l1), (2, pt_i l2), (3, pt_i l3), (4, pt_i (l4 + 1))], [], M) :=
  (pt_run_ok tX7_nextTo_ok 7 [.inl true, .inl true] (P := (10 ≤ l6) ∧ (l5 = 0) ∧ True) (by with_unfolding_all rfl) ⟨h1, h2, trivial⟩ : pt_Go YX7_nextTo _ (3, [(0, pt_r 7 0), (1, pt_i l1), (2, pt_i l2), (3, pt_i l3), (4, pt_i (l4 + 1)), (5, pt_i l5), (6, pt_i l6)], [], M)).tr (pt_pick [0, 1, 2, 3, 4] (by with_unfolding_all rfl))
theorem nt_in {o n m i j : Nat} {B : Nat → Nat → Nat → Bool} {M : pt_M} (h : ml_P M o n B) (hm : m < 2 ^ n) (hi : i < n) (hj : j < n) (hij : i ≠ j) : pt_Go YX7_nextTo (34, [(0, pt_r 7 0), (1, pt_i (nI o)), (2, pt_i (nI m)), (3, pt_i (nI i)), (4, pt_i (nI j)), (5, pt_i 1), (6, pt_i 0)], [], M) (34, [(0, pt_r 7 0), (1, pt_i (nI o)), (2, pt_i (nI m)), (3, pt_i (nI i)), (4, pt_i (nI j)), (5, pt_i (pt_b (al_F (nk_F B m i j) 10))), (6, pt_i (nI 10))], [], M) := by
  have hn := h.2.1
  have h2 := pb_p2 hn
  have K := pt_for0 (Y := YX7_nextTo) (fun k => (34, [(0, pt_r 7 0), (1, pt_i (nI o)), (2, pt_i (nI m)), (3, pt_i (nI i)), (4, pt_i (nI j)), (5, pt_i (pt_b (al_F (nk_F B m i j) k))), (6, pt_i (nI k))], [], M)) (n := 10) fun k hk => by
    have h10 := nI_ge (b := 10) hk (by decide)
    cases ha : al_F (nk_F B m i j) k
    · refine (gX7_nextTo_34_6 (nI o) (nI m) (nI i) (nI j) (pt_b false) (nI k) n B M h10 rfl).to ?_
      rw [nI_1, al_f ha]
      try rfl
    · have e := al_t ha
      by_cases c1 : k = i
      · refine (gX7_nextTo_34_5 (nI o) (nI m) (nI i) (nI j) (pt_b true) (nI k) n B M h10 (by decide) (by rw [c1])).to ?_
        rw [nI_1, e, show nk_F B m i j k = true by unfold nk_F; simp [c1]]
        try rfl
      · have c1' := nI_nE c1 (by omega) (by omega)
        by_cases c2 : k = j
        · refine (gX7_nextTo_34_4 (nI o) (nI m) (nI i) (nI j) (pt_b true) (nI k) n B M h10 (by decide) c1' (by rw [c2])).to ?_
          rw [nI_1, e, show nk_F B m i j k = true by unfold nk_F; simp [c2]]
          try rfl
        · have c2' := nI_nE c2 (by omega) (by omega)
          have h0 := pt_bit0 (m := m) (k := k) (by omega) (by omega)
          cases c3 : m.testBit k
          · refine (gX7_nextTo_34_3 (nI o) (nI m) (nI i) (nI j) (pt_b true) (nI k) n B M h10 (by decide) c1' c2' (h0.mpr c3)).to ?_
            rw [nI_1, e, show nk_F B m i j k = true by unfold nk_F; simp [c3]]
            try rfl
          · have hkn := tb_lt hm c3
            have hq : tq_P M (nI o) (nI i) (nI j) (nI k) n B := tq_of h hi hj hkn hij (fun z => c2 z.symm) (fun z => c1 z.symm)
            have hl := tl_nI (B := B) (a := i) (b := j) (c := k) (by omega) (by omega) (by omega)
            have hk' : nk_F B m i j k = B i j k := by unfold nk_F; simp [c1, c2, c3]
            have hz : ¬ ((nI m >>> (nI k &&& 31)) &&& 1) = 0 := fun z => by rw [h0, c3] at z; cases z
            cases c4 : B i j k
            · refine (gX7_nextTo_34_2 (nI o) (nI m) (nI i) (nI j) (pt_b true) (nI k) n B M h10 (by decide) c1' c2' hz hq (by rw [hl, c4]; rfl)).to ?_
              rw [nI_1, e, hk', c4]
              try rfl
            · refine (gX7_nextTo_34_1 (nI o) (nI m) (nI i) (nI j) (pt_b true) (nI k) n B M h10 (by decide) c1' c2' hz hq (by rw [hl, c4]; decide)).to ?_
              rw [nI_1, e, hk', c4]
              try rfl
  exact K
theorem nx_10 {n m i : Nat} {B : Nat → Nat → Nat → Bool} (hn : n ≤ 10) (hm : m < 2 ^ n) : (fs_F (10 - 0) 0 fun j => if nq_F B m i j then some j else none) = nx_F n B m i := by
  unfold nx_F
  have e := fs_ext (f := fun j => if nq_F B m i j then some j else none) (d := n - 0) (i := 0) (10 - n) fun j h1 h2 => by
    have : m.testBit j = false := by
      cases c : m.testBit j
      · rfl
      · have := tb_lt hm c
        omega
    have hq : nq_F B m i j = false := by
      unfold nq_F
      rw [this]
      simp
    rw [hq]
    rfl
  rw [show n - 0 + (10 - n) = 10 - 0 by omega] at e
  exact e
theorem dX7_nextTo {o n m i : Nat} {B : Nat → Nat → Nat → Bool} {M : pt_M} (h : ml_P M o n B) (hm : m < 2 ^ n) (hi : i < n) : pt_Does yX7_nextTo YX7_nextTo [pt_r 7 0, pt_i (nI o), pt_i (nI m), pt_i (nI i)] M (some (pt_i (nx_I n B (nI m) (nI i)))) M := by
  have hn := h.2.1
  have h2 := pb_p2 hn
  have K := pt_nest (Y := YX7_nextTo) (σ := (0, [(0, pt_r 7 0), (1, pt_i (nI o)), (2, pt_i (nI m)), (3, pt_i (nI i))], [], M)) (τ := (109, [], [pt_i (-1)], M)) (R := fun j => (101, [], [pt_i (nI j)], M)) (n := 10) (i := 0)
    (S := fun j => (3, [(0, pt_r 7 0), (1, pt_i (nI o)), (2, pt_i (nI m)), (3, pt_i (nI i)), (4, pt_i (nI j))], [], M)) (f := fun j => if nq_F B m i j then some j else none)
    (Nat.zero_le 10) (gX7_nextTo_0_1 (nI o) (nI m) (nI i) n B M) ((gX7_nextTo_3_4 (nI o) (nI m) (nI i) (nI 10) n B M (Int32.le_refl _)).tr pt_dropA) fun j _ hj => by
      have h10 := nI_ge (b := 10) hj (by decide)
      have hq := nq_al (B := B) (m := m) (i := i) (j := j)
      have h0 := pt_bit0 (m := m) (k := j) (by omega) (by omega)
      by_cases c1 : j = i
      · have hq' : nq_F B m i j = false := by rw [hq]; simp [c1]
        rw [hq']
        exact ⟨fun v z => (by cases z), fun _ => (gX7_nextTo_3_3 (nI o) (nI m) (nI i) (nI j) n B M h10 (by rw [c1])).to (by rw [nI_1])⟩
      · have c1' := nI_nE c1 (by omega) (by omega)
        cases c2 : m.testBit j
        · have hq' : nq_F B m i j = false := by rw [hq]; simp [c2]
          rw [hq']
          exact ⟨fun v z => (by cases z), fun _ => (gX7_nextTo_3_1 (nI o) (nI m) (nI i) (nI j) n B M h10 c1' (h0.mpr c2)).to (by rw [nI_1])⟩
        · have hq' : nq_F B m i j = al_F (nk_F B m i j) 10 := by rw [hq]; simp [c1, c2]
          have hjn := tb_lt hm c2
          have g1 := (gX7_nextTo_3_2 (nI o) (nI m) (nI i) (nI j) n B M h10 c1' (fun z => by rw [h0, c2] at z; cases z)).tr (nt_in h hm hi hjn (fun z => c1 z.symm))
          rw [hq']
          cases c3 : al_F (nk_F B m i j) 10
          · rw [c3] at g1
            exact ⟨fun v z => (by cases z), fun _ => (g1.tr (gX7_nextTo_34_8 (nI o) (nI m) (nI i) (nI j) (pt_b false) (nI 10) n B M (Int32.le_refl _) rfl)).to (by rw [nI_1])⟩
          · rw [c3] at g1
            refine ⟨fun v z => ?_, fun z => (by cases z)⟩
            cases z
            exact (g1.tr (gX7_nextTo_34_7 (nI o) (nI m) (nI i) (nI j) (pt_b true) (nI 10) n B M (Int32.le_refl _) (by decide))).tr pt_dropA
  rw [nx_10 hn hm] at K
  rw [nx_nI (by omega) (by omega)]
  cases hf : nx_F n B m i with
  | none => exact rX7_nextTo_109 (Nat.le_of_ble_eq_true rfl) rfl (K.2 hf)
  | some j => exact rX7_nextTo_101 (Nat.le_of_ble_eq_true rfl) rfl (K.1 j hf)
def nt_P (M : pt_M) (x s i : Int32) (n : Nat) (B : Nat → Nat → Nat → Bool) : Prop := ∃ o m a, x = nI o ∧ s = nI m ∧ i = nI a ∧ ml_P M o n B ∧ m < 2 ^ n ∧ a < n
theorem dX7_nextTo_t {M : pt_M} {x s i : Int32} {n : Nat} {B : Nat → Nat → Nat → Bool} (h : nt_P M x s i n B) : pt_Does yX7_nextTo YX7_nextTo [pt_r 7 0, pt_i x, pt_i s, pt_i i] M (some (pt_i (nx_I n B s i))) M := by
  obtain ⟨o, m, a, rfl, rfl, rfl, h, hm, ha⟩ := h
  exact dX7_nextTo h hm ha
theorem nx_y {n m i j : Nat} {B : Nat → Nat → Nat → Bool} (hn : n ≤ 10) (hm : m < 1024) (hi : i < 10) (h : nx_F n B m i = some j) : nx_I n B (nI m) (nI i) = nI j ∧ ¬ nx_I n B (nI m) (nI i) < 0 := by
  have hj := (nx_lt h).1
  have e : nx_I n B (nI m) (nI i) = nI j := by rw [nx_nI hm (by omega), h]
  exact ⟨e, by rw [e]; exact nI_pos (by omega)⟩
theorem nx_n {n m i : Nat} {B : Nat → Nat → Nat → Bool} (hm : m < 1024) (hi : i < 10) (h : nx_F n B m i = none) : nx_I n B (nI m) (nI i) < 0 := by
  rw [nx_nI hm (by omega), h]
  decide
theorem rX7_rimOf_9 {vs : List pt_V} {M M' : pt_M} {x : Int32} {L : List (Nat × pt_V)} (hvs : (vs.map pt_w).sum ≤ 5) (hX : M'.2.2.2.2 = M.2.2.2.2) (h : pt_Go YX7_rimOf (0, pt_en 0 vs, [], M) (9, L, [pt_i x], M')) : pt_Does yX7_rimOf YX7_rimOf vs M (some (pt_i x)) M' := pt_does_go tX7_rimOf_ok nX7_rimOf hvs hX ⟨_, by with_unfolding_all rfl, rfl, _, rfl, rfl⟩ h
theorem rX7_rimOf_57 {vs : List pt_V} {M M' : pt_M} {x : Int32} {L : List (Nat × pt_V)} (hvs : (vs.map pt_w).sum ≤ 5) (hX : M'.2.2.2.2 = M.2.2.2.2) (h : pt_Go YX7_rimOf (0, pt_en 0 vs, [], M) (57, L, [pt_i x], M')) : pt_Does yX7_rimOf YX7_rimOf vs M (some (pt_i x)) M' := pt_does_go tX7_rimOf_ok nX7_rimOf hvs hX ⟨_, by with_unfolding_all rfl, rfl, _, rfl, rfl⟩ h
set_option maxRecDepth 100000 in
theorem gX7_rimOf_0_1 (x1 : Int32) (x2 : Int32) (n : Nat) (B : Nat → Nat → Nat → Bool) (M : pt_M) (h1 : st_P x2 0) (h2 : ¬ 3 ≤ (nI (pc_F (pt_nt x2)))) :
    pt_Go YX7_rimOf (0, [(0, pt_r 7 0), (1, pt_i x1), (2, pt_i x2)], [], M)
      (9, [(0, pt_r 7 0), (1, pt_i x1), (2, pt_i x2)], [pt_i x2], M) :=
  pt_run_ok tX7_rimOf_ok 5 [.inr (1, some (pt_i (nI (pc_F (pt_nt x2)))), M), .inl false] (P := pt_Cal YX7_rimOf (.invokestatic 129) [pt_i x2] M (some (pt_i (nI (pc_F (pt_nt x2))))) M ∧ (¬ 3 ≤ (nI (pc_F (pt_nt x2)))) ∧ True) (by with_unfolding_all rfl) ⟨(pt_callS kX7_rimOf_129 mX7_bits rfl (dX7_bits_t h1)), h2, trivial⟩
set_option maxRecDepth 100000 in
theorem gX7_rimOf_0_2 (x1 : Int32) (x2 : Int32) (n : Nat) (B : Nat → Nat → Nat → Bool) (M : pt_M) (h1 : st_P x2 0) (h2 : 3 ≤ (nI (pc_F (pt_nt x2)))) :
    pt_Go YX7_rimOf (0, [(0, pt_r 7 0), (1, pt_i x1), (2, pt_i x2)], [], M)
      (15, [(0, pt_r 7 0), (1, pt_i x1), (2, pt_i x2), (3, pt_i 0), (4, pt_i 0)], [], M) :=
  pt_run_ok tX7_rimOf_ok 8 [.inr (1, some (pt_i (nI (pc_F (pt_nt x2)))), M), .inl true] (P := pt_Cal YX7_rimOf (.invokestatic 129) [pt_i x2] M (some (pt_i (nI (pc_F (pt_nt x2))))) M ∧ (3 ≤ (nI (pc_F (pt_nt x2)))) ∧ True) (by with_unfolding_all rfl) ⟨(pt_callS kX7_rimOf_129 mX7_bits rfl (dX7_bits_t h1)), h2, trivial⟩
set_option maxRecDepth 100000 in
theorem gX7_rimOf_15_1 (l1 : Int32) (l2 : Int32) (l3 : Int32) (l4 : Int32) (n : Nat) (B : Nat → Nat → Nat → Bool) (M : pt_M) (h1 : ¬ 10 ≤ l4) (h2 : ((l2 >>> (l4 &&& 31)) &&& 1) = 1) (h3 : nt_P M l1 l2 l4 n B) (h4 : ¬ (nx_I n B l2 l4) < 0) :
    pt_Go YX7_rimOf (15, [(0, pt_r 7 0), (1, pt_i l1), (2, pt_i l2), (3, pt_i l3), (4, pt_i l4)], [], M)
      (15, [(0, pt_r 7 0), (1, pt_i l1), (2, pt_i l2), (3, pt_i (l3 ||| ((1 : Int32) <<< (l4 &&& 31)))), (4, pt_i (l4 + 1))], [], M) :=
  pt_run_ok tX7_rimOf_ok 24 [.inl false, .inl false, .inr (4, some (pt_i (nx_I n B l2 l4)), M), .inl false] (P := (¬ 10 ≤ l4) ∧ (((l2 >>> (l4 &&& 31)) &&& 1) = 1) ∧ pt_Cal YX7_rimOf (.invokevirtual 144) [pt_r 7 0, pt_i l1, pt_i l2, pt_i l4] M (some (pt_i (nx_I n B l2 l4))) M ∧ (¬ (nx_I n B l2 l4) < 0) ∧ True) (by with_unfolding_all rfl) ⟨h1, h2, (pt_callV (i := 0) kX7_rimOf_144 mX7_nextTo rfl (by decide) rfl (dX7_nextTo_t h3)), h4, trivial⟩
set_option maxRecDepth 100000 in
theorem gX7_rimOf_15_2 (l1 : Int32) (l2 : Int32) (l3 : Int32) (l4 : Int32) (n : Nat) (B : Nat → Nat → Nat → Bool) (M : pt_M) (h1 : ¬ 10 ≤ l4) (h2 : ((l2 >>> (l4 &&& 31)) &&& 1) = 1) (h3 : nt_P M l1 l2 l4 n B) (h4 : (nx_I n B l2 l4) < 0) :
    pt_Go YX7_rimOf (15, [(0, pt_r 7 0), (1, pt_i l1), (2, pt_i l2), (3, pt_i l3), (4, pt_i l4)], [], M)
      (15, [(0, pt_r 7 0), (1, pt_i l1), (2, pt_i l2), (3, pt_i l3), (4, pt_i (l4 + 1))], [], M) :=
  pt_run_ok tX7_rimOf_ok 18 [.inl false, .inl false, .inr (4, some (pt_i (nx_I n B l2 l4)), M), .inl true] (P := (¬ 10 ≤ l4) ∧ (((l2 >>> (l4 &&& 31)) &&& 1) = 1) ∧ pt_Cal YX7_rimOf (.invokevirtual 144) [pt_r 7 0, pt_i l1, pt_i l2, pt_i l4] M (some (pt_i (nx_I n B l2 l4))) M ∧ ((nx_I n B l2 l4) < 0) ∧ True) (by with_unfolding_all rfl) ⟨h1, h2, (pt_callV (i := 0) kX7_rimOf_144 mX7_nextTo rfl (by decide) rfl (dX7_nextTo_t h3)), h4, trivial⟩
set_option maxRecDepth 100000 in
theorem gX7_rimOf_15_3 (l1 : Int32) (l2 : Int32) (l3 : Int32) (l4 : Int32) (n : Nat) (B : Nat → Nat → Nat → Bool) (M : pt_M) (h1 : ¬ 10 ≤ l4) (h2 : ¬ ((l2 >>> (l4 &&& 31)) &&& 1) = 1) :
    pt_Go YX7_rimOf (15, [(0, pt_r 7 0), (1, pt_i l1), (2, pt_i l2), (3, pt_i l3), (4, pt_i l4)], [], M)
      (15, [(0, pt_r 7 0), (1, pt_i l1), (2, pt_i l2), (3, pt_i l3), (4, pt_i (l4 + 1))], [], M) :=
  pt_run_ok tX7_rimOf_ok 12 [.inl false, .inl true] (P := (¬ 10 ≤ l4) ∧ (¬ ((l2 >>> (l4 &&& 31)) &&& 1) = 1) ∧ True) (by with_unfolding_all rfl) ⟨h1, h2, trivial⟩
set_option maxRecDepth 100000 in
theorem gX7_rimOf_15_4 (l1 : Int32) (l2 : Int32) (l3 : Int32) (l4 : Int32) (n : Nat) (B : Nat → Nat → Nat → Bool) (M : pt_M) (h1 : 10 ≤ l4) :
    pt_Go YX7_rimOf (15, [(0, pt_r 7 0), (1, pt_i l1), (2, pt_i l2), (3, pt_i l3), (4, pt_i l4)], [], M)
      (57, [(0, pt_r 7 0), (1, pt_i l1), (2, pt_i l2), (3, pt_i l3), (4, pt_i l4)], [pt_i l3], M) :=
  pt_run_ok tX7_rimOf_ok 4 [.inl true] (P := (10 ≤ l4) ∧ True) (by with_unfolding_all rfl) ⟨h1, trivial⟩
theorem pb_more {p : Nat → Bool} {n : Nat} : ∀ e, (∀ k, n ≤ k → p k = false) → pb_s (n + e) p = pb_s n p
  | 0, _ => rfl
  | e + 1, h => by
    rw [← Nat.add_assoc, pb_skip (h (n + e) (by omega)), pb_more e h]
theorem dX7_rimOf {o n m : Nat} {B : Nat → Nat → Nat → Bool} {M : pt_M} (h : ml_P M o n B) (hm : m < 2 ^ n) : pt_Does yX7_rimOf YX7_rimOf [pt_r 7 0, pt_i (nI o), pt_i (nI m)] M (some (pt_i (ri_I n B (nI m)))) M := by
  have hn := h.2.1
  have h2 := pb_p2 hn
  have hst : st_P (nI m) 0 := ⟨m, rfl, by omega⟩
  have em : pt_nt (nI m) = m := pt_nt_nI (by omega)
  have hpc := pc_le m
  rw [ri_nI (by omega)]
  unfold ri_F
  by_cases hc : pc_F m < 3
  · rw [if_pos hc]
    exact rX7_rimOf_9 (Nat.le_of_ble_eq_true rfl) rfl (gX7_rimOf_0_1 (nI o) (nI m) n B M hst (by rw [em]; exact nI_ge (b := 3) hc (by decide)))
  · rw [if_neg hc]
    have K := pt_for0 (Y := YX7_rimOf) (fun k => (15, [(0, pt_r 7 0), (1, pt_i (nI o)), (2, pt_i (nI m)), (3, pt_i (nI (pb_s k fun i => m.testBit i && (nx_F n B m i).isSome))), (4, pt_i (nI k))], [], M)) (n := 10) fun k hk => by
      have h10 := nI_ge (b := 10) hk (by decide)
      have h1 := pt_bit9 (m := m) (k := k) (by omega) (by omega)
      cases c1 : m.testBit k
      · refine (gX7_rimOf_15_3 (nI o) (nI m) _ (nI k) n B M h10 (fun z => by rw [h1, c1] at z; cases z)).to ?_
        rw [nI_1, pb_skip (p := fun i => m.testBit i && (nx_F n B m i).isSome) (by rw [c1]; rfl)]
      · have hkn := tb_lt hm c1
        have hnt : nt_P M (nI o) (nI m) (nI k) n B := ⟨o, m, k, rfl, rfl, rfl, h, hm, hkn⟩
        cases c2 : nx_F n B m k with
        | none =>
          refine (gX7_rimOf_15_2 (nI o) (nI m) _ (nI k) n B M h10 (h1.mpr c1) hnt (nx_n (by omega) (by omega) c2)).to ?_
          rw [nI_1, pb_skip (p := fun i => m.testBit i && (nx_F n B m i).isSome) (by rw [c1, c2]; rfl)]
        | some j =>
          refine (gX7_rimOf_15_1 (nI o) (nI m) _ (nI k) n B M h10 (h1.mpr c1) hnt (nx_y hn (by omega) (by omega) c2).2).to ?_
          rw [nI_1, pb_top (p := fun i => m.testBit i && (nx_F n B m i).isSome) (by omega) (by rw [c1, c2]; rfl)]
    have e : pb_s 10 (fun i => m.testBit i && (nx_F n B m i).isSome) = pb_s n fun i => m.testBit i && (nx_F n B m i).isSome := by
      have := pb_more (p := fun i => m.testBit i && (nx_F n B m i).isSome) (n := n) (10 - n) fun k hk => by
        have : m.testBit k = false := by
          cases c : m.testBit k
          · rfl
          · have := tb_lt hm c
            omega
        rw [this]
        rfl
      rw [show n + (10 - n) = 10 by omega] at this
      exact this
    rw [← e]
    exact rX7_rimOf_57 (Nat.le_of_ble_eq_true rfl) rfl ((gX7_rimOf_0_2 (nI o) (nI m) n B M hst (by rw [em]; exact nI_le (a := 3) (by omega) (by omega))).tr (K.tr (gX7_rimOf_15_4 (nI o) (nI m) _ (nI 10) n B M (Int32.le_refl _))))
def ro_P (M : pt_M) (x s : Int32) (n : Nat) (B : Nat → Nat → Nat → Bool) : Prop := ∃ o m, x = nI o ∧ s = nI m ∧ ml_P M o n B ∧ m < 2 ^ n
theorem dX7_rimOf_t {M : pt_M} {x s : Int32} {n : Nat} {B : Nat → Nat → Nat → Bool} (h : ro_P M x s n B) : pt_Does yX7_rimOf YX7_rimOf [pt_r 7 0, pt_i x, pt_i s] M (some (pt_i (ri_I n B s))) M := by
  obtain ⟨o, m, rfl, rfl, h, hm⟩ := h
  exact dX7_rimOf h hm
/-! isEmpty -/
theorem rX7_isEmpty_87 {vs : List pt_V} {M M' : pt_M} {x : Int32} {L : List (Nat × pt_V)} (hn : narrow .boolean (.int x) = .int x) (hvs : (vs.map pt_w).sum ≤ 7) (hX : M'.2.2.2.2 = M.2.2.2.2) (h : pt_Go YX7_isEmpty (0, pt_en 0 vs, [], M) (87, L, [pt_i x], M')) : pt_Does yX7_isEmpty YX7_isEmpty vs M (some (pt_i x)) M' := pt_does_go tX7_isEmpty_ok nX7_isEmpty hvs hX ⟨_, by with_unfolding_all rfl, rfl, _, rfl, hn⟩ h
theorem rX7_isEmpty_95 {vs : List pt_V} {M M' : pt_M} {x : Int32} {L : List (Nat × pt_V)} (hn : narrow .boolean (.int x) = .int x) (hvs : (vs.map pt_w).sum ≤ 7) (hX : M'.2.2.2.2 = M.2.2.2.2) (h : pt_Go YX7_isEmpty (0, pt_en 0 vs, [], M) (95, L, [pt_i x], M')) : pt_Does yX7_isEmpty YX7_isEmpty vs M (some (pt_i x)) M' := pt_does_go tX7_isEmpty_ok nX7_isEmpty hvs hX ⟨_, by with_unfolding_all rfl, rfl, _, rfl, hn⟩ h
set_option maxRecDepth 100000 in
theorem gX7_isEmpty_0_1 (x1 : Int32) (x2 : Int32) (x3 : Int32) (n : Nat) (B : Nat → Nat → Nat → Bool) (M : pt_M) :
    pt_Go YX7_isEmpty (0, [(0, pt_r 7 0), (1, pt_i x1), (2, pt_i x2), (3, pt_i x3)], [], M)
      (3, [(0, pt_r 7 0), (1, pt_i x1), (2, pt_i x2), (3, pt_i x3), (4, pt_i 0)], [], M) :=
  pt_run_ok tX7_isEmpty_ok 2 [] (P := True) (by with_unfolding_all rfl) trivial
set_option maxRecDepth 100000 in
theorem gX7_isEmpty_3_1 (l1 : Int32) (l2 : Int32) (l3 : Int32) (l4 : Int32) (n : Nat) (B : Nat → Nat → Nat → Bool) (M : pt_M) (h1 : ¬ l2 ≤ l4) (h2 : ((l3 >>> (l4 &&& 31)) &&& 1) = 1) :
    pt_Go YX7_isEmpty (3, [(0, pt_r 7 0), (1, pt_i l1), (2, pt_i l2), (3, pt_i l3), (4, pt_i l4)], [], M)
      (3, [(0, pt_r 7 0), (1, pt_i l1), (2, pt_i l2), (3, pt_i l3), (4, pt_i (l4 + 1))], [], M) :=
  pt_run_ok tX7_isEmpty_ok 13 [.inl false, .inl false] (P := (¬ l2 ≤ l4) ∧ (((l3 >>> (l4 &&& 31)) &&& 1) = 1) ∧ True) (by with_unfolding_all rfl) ⟨h1, h2, trivial⟩
set_option maxRecDepth 100000 in
theorem gX7_isEmpty_3_2 (l1 : Int32) (l2 : Int32) (l3 : Int32) (l4 : Int32) (n : Nat) (B : Nat → Nat → Nat → Bool) (M : pt_M) (h1 : ¬ l2 ≤ l4) (h2 : ¬ ((l3 >>> (l4 &&& 31)) &&& 1) = 1) :
    pt_Go YX7_isEmpty (3, [(0, pt_r 7 0), (1, pt_i l1), (2, pt_i l2), (3, pt_i l3), (4, pt_i l4)], [], M)
      (28, [(0, pt_r 7 0), (1, pt_i l1), (2, pt_i l2), (3, pt_i l3), (4, pt_i l4), (5, pt_i 1), (6, pt_i 0)], [], M) :=
  pt_run_ok tX7_isEmpty_ok 14 [.inl false, .inl true] (P := (¬ l2 ≤ l4) ∧ (¬ ((l3 >>> (l4 &&& 31)) &&& 1) = 1) ∧ True) (by with_unfolding_all rfl) ⟨h1, h2, trivial⟩
set_option maxRecDepth 100000 in
theorem gX7_isEmpty_3_3 (l1 : Int32) (l2 : Int32) (l3 : Int32) (l4 : Int32) (n : Nat) (B : Nat → Nat → Nat → Bool) (M : pt_M) (h1 : l2 ≤ l4) :
    pt_Go YX7_isEmpty (3, [(0, pt_r 7 0), (1, pt_i l1), (2, pt_i l2), (3, pt_i l3), (4, pt_i l4)], [], M)
      (95, [(0, pt_r 7 0), (1, pt_i l1), (2, pt_i l2), (3, pt_i l3), (4, pt_i l4)], [pt_i 1], M) :=
  pt_run_ok tX7_isEmpty_ok 4 [.inl true] (P := (l2 ≤ l4) ∧ True) (by with_unfolding_all rfl) ⟨h1, trivial⟩
set_option maxRecDepth 100000 in
theorem gX7_isEmpty_28_1 (l1 : Int32) (l2 : Int32) (l3 : Int32) (l4 : Int32) (l5 : Int32) (l6 : Int32) (n : Nat) (B : Nat → Nat → Nat → Bool) (M : pt_M) (h1 : ¬ l2 ≤ l6) (h2 : ¬ l5 = 0) (h3 : ¬ ((l3 >>> (l6 &&& 31)) &&& 1) = 0) (h4 : nt_P M l1 l3 l6 n B) (h5 : tq_P M l1 l6 (nx_I n B l3 l6) l4 n B) (h6 : ¬ (tl_I B l6 (nx_I n B l3 l6) l4) = 0) :
    pt_Go YX7_isEmpty (28, [(0, pt_r 7 0), (1, pt_i l1), (2, pt_i l2), (3, pt_i l3), (4, pt_i l4), (5, pt_i l5), (6, pt_i l6)], [], M)
      (28, [(0, pt_r 7 0), (1, pt_i l1), (2, pt_i l2), (3, pt_i l3), (4, pt_i l4), (5, pt_i 1), (6, pt_i (l6 + 1))], [], M) :=
  pt_run_ok tX7_isEmpty_ok 27 [.inl false, .inl false, .inl false, .inr (4, some (pt_i (nx_I n B l3 l6)), M), .inr (5, some (pt_i (tl_I B l6 (nx_I n B l3 l6) l4)), M), .inl false] (P := (¬ l2 ≤ l6) ∧ (¬ l5 = 0) ∧ (¬ ((l3 >>> (l6 &&& 31)) &&& 1) = 0) ∧ pt_Cal YX7_isEmpty (.invokevirtual 144) [pt_r 7 0, pt_i l1, pt_i l3, pt_i l6] M (some (pt_i (nx_I n B l3 l6))) M ∧ pt_Cal YX7_isEmpty (.invokevirtual 118) [pt_r 7 0, pt_i l1, pt_i l6, pt_i (nx_I n B l3 l6), pt_i l4] M (some (pt_i (tl_I B l6 (nx_I n B l3 l6) l4))) M ∧ (¬ (tl_I B l6 (nx_I n B l3 l6) l4) = 0) ∧ True) (by with_unfolding_all rfl) ⟨h1, h2, h3, (pt_callV (i := 0) kX7_isEmpty_144 mX7_nextTo rfl (by decide) rfl (dX7_nextTo_t h4)), (pt_callV (i := 0) kX7_isEmpty_118 mX7_left rfl (by decide) rfl (dX7_left_t h5)), h6, trivial⟩
set_option maxRecDepth 100000 in
theorem gX7_isEmpty_28_2 (l1 : Int32) (l2 : Int32) (l3 : Int32) (l4 : Int32) (l5 : Int32) (l6 : Int32) (n : Nat) (B : Nat → Nat → Nat → Bool) (M : pt_M) (h1 : ¬ l2 ≤ l6) (h2 : ¬ l5 = 0) (h3 : ¬ ((l3 >>> (l6 &&& 31)) &&& 1) = 0) (h4 : nt_P M l1 l3 l6 n B) (h5 : tq_P M l1 l6 (nx_I n B l3 l6) l4 n B) (h6 : (tl_I B l6 (nx_I n B l3 l6) l4) = 0) :
    pt_Go YX7_isEmpty (28, [(0, pt_r 7 0), (1, pt_i l1), (2, pt_i l2), (3, pt_i l3), (4, pt_i l4), (5, pt_i l5), (6, pt_i l6)], [], M)
      (28, [(0, pt_r 7 0), (1, pt_i l1), (2, pt_i l2), (3, pt_i l3), (4, pt_i l4), (5, pt_i 0), (6, pt_i (l6 + 1))], [], M) :=
  pt_run_ok tX7_isEmpty_ok 26 [.inl false, .inl false, .inl false, .inr (4, some (pt_i (nx_I n B l3 l6)), M), .inr (5, some (pt_i (tl_I B l6 (nx_I n B l3 l6) l4)), M), .inl true] (P := (¬ l2 ≤ l6) ∧ (¬ l5 = 0) ∧ (¬ ((l3 >>> (l6 &&& 31)) &&& 1) = 0) ∧ pt_Cal YX7_isEmpty (.invokevirtual 144) [pt_r 7 0, pt_i l1, pt_i l3, pt_i l6] M (some (pt_i (nx_I n B l3 l6))) M ∧ pt_Cal YX7_isEmpty (.invokevirtual 118) [pt_r 7 0, pt_i l1, pt_i l6, pt_i (nx_I n B l3 l6), pt_i l4] M (some (pt_i (tl_I B l6 (nx_I n B l3 l6) l4))) M ∧ ((tl_I B l6 (nx_I n B l3 l6) l4) = 0) ∧ True) (by with_unfolding_all rfl) ⟨h1, h2, h3, (pt_callV (i := 0) kX7_isEmpty_144 mX7_nextTo rfl (by decide) rfl (dX7_nextTo_t h4)), (pt_callV (i := 0) kX7_isEmpty_118 mX7_left rfl (by decide) rfl (dX7_left_t h5)), h6, trivial⟩
set_option maxRecDepth 100000 in
theorem gX7_isEmpty_28_3 (l1 : Int32) (l2 : Int32) (l3 : Int32) (l4 : Int32) (l5 : Int32) (l6 : Int32) (n : Nat) (B : Nat → Nat → Nat → Bool) (M : pt_M) (h1 : ¬ l2 ≤ l6) (h2 : ¬ l5 = 0) (h3 : ((l3 >>> (l6 &&& 31)) &&& 1) = 0) :
    pt_Go YX7_isEmpty (28, [(0, pt_r 7 0), (1, pt_i l1), (2, pt_i l2), (3, pt_i l3), (4, pt_i l4), (5, pt_i l5), (6, pt_i l6)], [], M)
      (28, [(0, pt_r 7 0), (1, pt_i l1), (2, pt_i l2), (3, pt_i l3), (4, pt_i l4), (5, pt_i 1), (6, pt_i (l6 + 1))], [], M) :=
  pt_run_ok tX7_isEmpty_ok 16 [.inl false, .inl false, .inl true] (P := (¬ l2 ≤ l6) ∧ (¬ l5 = 0) ∧ (((l3 >>> (l6 &&& 31)) &&& 1) = 0) ∧ True) (by with_unfolding_all rfl) ⟨h1, h2, h3, trivial⟩
set_option maxRecDepth 100000 in
theorem gX7_isEmpty_28_4 (l1 : Int32) (l2 : Int32) (l3 : Int32) (l4 : Int32) (l5 : Int32) (l6 : Int32) (n : Nat) (B : Nat → Nat → Nat → Bool) (M : pt_M) (h1 : ¬ l2 ≤ l6) (h2 : l5 = 0) :
    pt_Go YX7_isEmpty (28, [(0, pt_r 7 0), (1, pt_i l1), (2, pt_i l2), (3, pt_i l3), (4, pt_i l4), (5, pt_i l5), (6, pt_i l6)], [], M)
      (28, [(0, pt_r 7 0), (1, pt_i l1), (2, pt_i l2), (3, pt_i l3), (4, pt_i l4), (5, pt_i 0), (6, pt_i (l6 + 1))], [], M) :=
  pt_run_ok tX7_isEmpty_ok 9 [.inl false, .inl true] (P := (¬ l2 ≤ l6) ∧ (l5 = 0) ∧ True) (by with_unfolding_all rfl) ⟨h1, h2, trivial⟩
set_option maxRecDepth 100000 in
theorem gX7_isEmpty_28_5 (l1 : Int32) (l2 : Int32) (l3 : Int32) (l4 : Int32) (l5 : Int32) (l6 : Int32) (n : Nat) (B : Nat → Nat → Nat → Bool) (M : pt_M) (h1 : l2 ≤ l6) (h2 : ¬ l5 = 0) :
    pt_Go YX7_isEmpty (28, [(0, pt_r 7 0), (1, pt_i l1), (2, pt_i l2), (3, pt_i l3), (4, pt_i l4), (5, pt_i l5), (6, pt_i l6)], [], M)
      (87, [(0, pt_r 7 0), (1, pt_i l1), (2, pt_i l2), (3, pt_i l3), (4, pt_i l4), (5, pt_i l5), (6, pt_i l6)], [pt_i 0], M) :=
  pt_run_ok tX7_isEmpty_ok 6 [.inl true, .inl false] (P := (l2 ≤ l6) ∧ (¬ l5 = 0) ∧ True) (by with_unfolding_all rfl) ⟨h1, h2, trivial⟩
set_option maxRecDepth 100000 in
theorem gX7_isEmpty_28_6 (l1 : Int32) (l2 : Int32) (l3 : Int32) (l4 : Int32) (l5 : Int32) (l6 : Int32) (n : Nat) (B : Nat → Nat → Nat → Bool) (M : pt_M) (h1 : l2 ≤ l6) (h2 : l5 = 0) :
    pt_Go YX7_isEmpty (28, [(0, pt_r 7 0), (1, pt_i l1), (2, pt_i l2), (3, pt_i l3), (4, pt_i l4), (5, pt_i l5), (6, pt_i l6)], [], M)
      (3, [(0, pt_r 7 0), (1, pt_i l1), (2, pt_i l2), (3, pt_i l3), (4, pt_i (l4 + 1))], [], M) :=
  (pt_run_ok tX7_isEmpty_ok 7 [.inl true, .inl true] (P := (l2 ≤ l6) ∧ (l5 = 0) ∧ True) (by with_unfolding_all rfl) ⟨h1, h2, trivial⟩ : pt_Go YX7_isEmpty _ (3, [(0, pt_r 7 0), (1, pt_i l1), (2, pt_i l2), (3, pt_i l3), (4, pt_i (l4 + 1)), (5, pt_i l5), (6, pt_i l6)], [], M)).tr (pt_pick [0, 1, 2, 3, 4] (by with_unfolding_all rfl))
def ie_F (n : Nat) (B : Nat → Nat → Nat → Bool) (m p i : Nat) : Bool := !m.testBit i || B i ((nx_F n B m i).getD 0) p
def iy_F (n : Nat) (B : Nat → Nat → Nat → Bool) (m : Nat) : Option Unit := fs_F (n - 0) 0 fun p => if !m.testBit p && al_F (ie_F n B m p) n then some () else none
theorem dX7_isEmpty {o n m : Nat} {B : Nat → Nat → Nat → Bool} {M : pt_M} (h : ml_P M o n B) (hm : m < 2 ^ n) (hf : ∀ i, i < n → m.testBit i = true → (nx_F n B m i).isSome = true) : pt_Does yX7_isEmpty YX7_isEmpty [pt_r 7 0, pt_i (nI o), pt_i (nI n), pt_i (nI m)] M (some (pt_i (pt_b (iy_F n B m).isNone))) M := by
  have hn := h.2.1
  have h2 := pb_p2 hn
  have K := pt_nest (α := Unit) (Y := YX7_isEmpty) (σ := (0, [(0, pt_r 7 0), (1, pt_i (nI o)), (2, pt_i (nI n)), (3, pt_i (nI m))], [], M)) (τ := (95, [], [pt_i 1], M)) (R := fun _ => (87, [], [pt_i 0], M)) (n := n) (i := 0)
    (S := fun p => (3, [(0, pt_r 7 0), (1, pt_i (nI o)), (2, pt_i (nI n)), (3, pt_i (nI m)), (4, pt_i (nI p))], [], M)) (f := fun p => if !m.testBit p && al_F (ie_F n B m p) n then some () else none)
    (Nat.zero_le n) (gX7_isEmpty_0_1 (nI o) (nI n) (nI m) n B M) ((gX7_isEmpty_3_3 (nI o) (nI n) (nI m) (nI n) n B M (Int32.le_refl _)).tr pt_dropA) fun p _ hp => by
      have hlt := nI_ge hp (show n < 2 ^ 31 by omega)
      have h1 := pt_bit9 (m := m) (k := p) (by omega) (by omega)
      cases c1 : m.testBit p
      · have g1 := gX7_isEmpty_3_2 (nI o) (nI n) (nI m) (nI p) n B M hlt (fun z => by rw [h1, c1] at z; cases z)
        have g2 := pt_for0 (Y := YX7_isEmpty) (fun i => (28, [(0, pt_r 7 0), (1, pt_i (nI o)), (2, pt_i (nI n)), (3, pt_i (nI m)), (4, pt_i (nI p)), (5, pt_i (pt_b (al_F (ie_F n B m p) i))), (6, pt_i (nI i))], [], M)) (n := n) fun i hi => by
          have hlt := nI_ge hi (show n < 2 ^ 31 by omega)
          cases ha : al_F (ie_F n B m p) i
          · refine (gX7_isEmpty_28_4 (nI o) (nI n) (nI m) (nI p) (pt_b false) (nI i) n B M hlt rfl).to ?_
            rw [nI_1, al_f ha]
            try rfl
          · have e := al_t ha
            have h0 := pt_bit0 (m := m) (k := i) (by omega) (by omega)
            cases c3 : m.testBit i
            · refine (gX7_isEmpty_28_3 (nI o) (nI n) (nI m) (nI p) (pt_b true) (nI i) n B M hlt (by decide) (h0.mpr c3)).to ?_
              rw [nI_1, e, show ie_F n B m p i = true by unfold ie_F; simp [c3]]
              try rfl
            · cases hx : nx_F n B m i with
              | none => have := hf i hi c3; rw [hx] at this; cases this
              | some j =>
                obtain ⟨hj, hq⟩ := nx_lt hx
                rw [nq_al, Bool.and_eq_true, Bool.and_eq_true] at hq
                have hji : j ≠ i := of_decide_eq_true hq.1
                have hjm := hq.2.1
                have ex := (nx_y hn (by omega) (by omega) hx).1
                have hnt : nt_P M (nI o) (nI m) (nI i) n B := ⟨o, m, i, rfl, rfl, rfl, h, hm, hi⟩
                have hz : ¬ ((nI m >>> (nI i &&& 31)) &&& 1) = 0 := fun z => by rw [h0, c3] at z; cases z
                have hpi : i ≠ p := fun z => by rw [z, c1] at c3; cases c3
                have hpj : j ≠ p := fun z => by rw [z, c1] at hjm; cases hjm
                have hq2 : tq_P M (nI o) (nI i) (nx_I n B (nI m) (nI i)) (nI p) n B := by rw [ex]; exact tq_of h hi hj hp (fun z => hji z.symm) hpj hpi
                have hl : tl_I B (nI i) (nx_I n B (nI m) (nI i)) (nI p) = pt_b (B i j p) := by rw [ex]; exact tl_nI (by omega) (by omega) (by omega)
                have hk' : ie_F n B m p i = B i j p := by unfold ie_F; rw [hx, c3]; rfl
                cases c4 : B i j p
                · refine (gX7_isEmpty_28_2 (nI o) (nI n) (nI m) (nI p) (pt_b true) (nI i) n B M hlt (by decide) hz hnt hq2 (by rw [hl, c4]; rfl)).to ?_
                  rw [nI_1, e, hk', c4]
                  try rfl
                · refine (gX7_isEmpty_28_1 (nI o) (nI n) (nI m) (nI p) (pt_b true) (nI i) n B M hlt (by decide) hz hnt hq2 (by rw [hl, c4]; decide)).to ?_
                  rw [nI_1, e, hk', c4]
                  try rfl
        have g3 := g1.tr g2
        cases c3 : al_F (ie_F n B m p) n
        · rw [c3] at g3
          exact ⟨fun v z => (by cases z), fun _ => (g3.tr (gX7_isEmpty_28_6 (nI o) (nI n) (nI m) (nI p) (pt_b false) (nI n) n B M (Int32.le_refl _) rfl)).to (by rw [nI_1])⟩
        · rw [c3] at g3
          exact ⟨fun v _ => (g3.tr (gX7_isEmpty_28_5 (nI o) (nI n) (nI m) (nI p) (pt_b true) (nI n) n B M (Int32.le_refl _) (by decide))).tr pt_dropA, fun z => (by cases z)⟩
      · exact ⟨fun v z => (by cases z), fun _ => (gX7_isEmpty_3_1 (nI o) (nI n) (nI m) (nI p) n B M hlt (h1.mpr c1)).to (by rw [nI_1])⟩
  show pt_Does _ _ _ M (some (pt_i (pt_b (fs_F (n - 0) 0 fun p => if !m.testBit p && al_F (ie_F n B m p) n then some () else none).isNone))) M
  cases hf : fs_F (n - 0) 0 fun p => if !m.testBit p && al_F (ie_F n B m p) n then some () else none with
  | none => exact rX7_isEmpty_95 pt_nar1 (Nat.le_of_ble_eq_true rfl) rfl (K.2 hf)
  | some v => exact rX7_isEmpty_87 pt_nar0 (Nat.le_of_ble_eq_true rfl) rfl (K.1 v hf)
