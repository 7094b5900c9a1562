/-! CALLS ON BOTH SIDES: figures, inside -/
theorem ri_self {n s : Nat} {B : Nat → Nat → Nat → Bool} (hs : s < 2 ^ n) (h3 : 3 ≤ pc_F s) : ri_F n B s = s ↔ fg_B n B s = none := by
  have e : ri_F n B s = pb_s n fun i => s.testBit i && (nx_F n B s i).isSome := if_neg (by omega)
  rw [e]
  unfold fg_B
  rw [fs_none]
  constructor
  · intro h i _ hi
    have h1 : (pb_s n fun i => s.testBit i && (nx_F n B s i).isSome).testBit i = s.testBit i := by rw [h]
    rw [pb_bit, decide_eq_true (show i < n by omega), Bool.true_and] at h1
    cases c : s.testBit i
    · rfl
    · rw [c, Bool.true_and] at h1
      rw [h1]
      rfl
  · intro h
    apply pb_ext (pb_lt _ n) hs
    intro i hi
    rw [pb_bit, decide_eq_true hi, Bool.true_and]
    have h1 := h i (by omega) (by omega)
    cases c : s.testBit i
    · rfl
    · rw [c] at h1
      cases c2 : (nx_F n B s i).isSome
      · rw [c2] at h1
        cases h1
      · rfl
theorem iw_bit {n s p : Nat} {B : Nat → Nat → Nat → Bool} (hp : p < 10) : ∀ i, (iw_F n B s i).testBit p = (decide (p < n) && (!s.testBit p && al_F (ie_F n B s p) i))
  | 0 => by
    show (an_F (2 ^ n - 1) s).testBit p = _
    rw [an_bit _ _ _ (by omega), Nat.testBit_two_pow_sub_one]
    show _ = (decide (p < n) && (!s.testBit p && true))
    rw [Bool.and_true]
  | i + 1 => by
    have ih := iw_bit (n := n) (s := s) (B := B) hp i
    show (if s.testBit i then iw_F n B s i &&& pb_s 10 (fun k => B i ((nx_F n B s i).getD 0) k) else iw_F n B s i).testBit p = (decide (p < n) && (!s.testBit p && (al_F (ie_F n B s p) i && ie_F n B s p i)))
    unfold ie_F at ih ⊢
    cases c : s.testBit i
    · rw [if_neg (by decide), ih]
      simp
    · rw [if_pos rfl, Nat.testBit_and, ih, pb_bit, decide_eq_true hp]
      simp [Bool.and_assoc]
theorem iw_le {n s : Nat} {B : Nat → Nat → Nat → Bool} : ∀ i, iw_F n B s i ≤ 2 ^ n - 1
  | 0 => an_le _ _
  | i + 1 => by
    have ih := iw_le (n := n) (s := s) (B := B) i
    show (if s.testBit i then iw_F n B s i &&& pb_s 10 (fun k => B i ((nx_F n B s i).getD 0) k) else iw_F n B s i) ≤ _
    split
    · exact Nat.le_trans Nat.and_le_left ih
    · exact ih
theorem iw_iy {n s : Nat} {B : Nat → Nat → Nat → Bool} (hn : n ≤ 10) : iw_F n B s n = 0 ↔ iy_F n B s = none := by
  unfold iy_F
  rw [fs_none]
  constructor
  · intro h p _ hp
    have h1 := iw_bit (n := n) (s := s) (B := B) (p := p) (by omega) n
    rw [h, Nat.zero_testBit, decide_eq_true (show p < n by omega), Bool.true_and] at h1
    rw [← h1]
    rfl
  · intro h
    have h2 := pb_p2 hn
    have h3 := Nat.two_pow_pos n
    have h4 := iw_le (n := n) (s := s) (B := B) n
    apply pb_ext (n := 10) (by omega) (by omega)
    intro p hp
    rw [iw_bit hp, Nat.zero_testBit]
    by_cases c : p < n
    · have h1 := h p (by omega) (by omega)
      cases c2 : (!s.testBit p && al_F (ie_F n B s p) n)
      · simp
      · rw [c2] at h1
        cases h1
    · rw [decide_eq_false c]
      rfl
def fm_F (n : Nat) (B : Nat → Nat → Nat → Bool) (m : Nat) (e : Bool) (s : Nat) : Bool := decide (pc_F s = m) && (decide (ri_F n B s = s) && (!e || (iy_F n B s).isNone))
theorem fm_fq {n m s : Nat} {e : Bool} {B : Nat → Nat → Nat → Bool} (hn : n ≤ 10) (hs : s < 2 ^ n) (hm : 3 ≤ m) : fm_F n B m e s = fq_F n B m e s := by
  unfold fm_F fq_F
  by_cases c : pc_F s = m
  · have e1 : decide (ri_F n B s = s) = (fg_B n B s).isNone := by
      have := ri_self (B := B) hs (by omega)
      by_cases c2 : ri_F n B s = s
      · rw [decide_eq_true c2, this.mp c2]
        rfl
      · rw [decide_eq_false c2]
        cases c3 : fg_B n B s with
        | none => exact absurd (this.mpr c3) c2
        | some _ => rfl
    have e2 : (iy_F n B s).isNone = decide (iw_F n B s n = 0) := by
      have := iw_iy (s := s) (B := B) hn
      by_cases c2 : iw_F n B s n = 0
      · rw [decide_eq_true c2, this.mp c2]
        rfl
      · rw [decide_eq_false c2]
        cases c3 : iy_F n B s with
        | none => exact absurd (this.mpr c3) c2
        | some _ => rfl
    rw [e1, e2]
  · rw [decide_eq_false c]
    rfl
theorem rX7_figures_25 {vs : List pt_V} {M M' : pt_M} {x : Int32} {L : List (Nat × pt_V)} (hvs : (vs.map pt_w).sum ≤ 6) (hX : M'.2.2.2.2 = M.2.2.2.2) (h : pt_Go YX7_figures (0, pt_en 0 vs, [], M) (25, L, [pt_i x], M')) : pt_Does yX7_figures YX7_figures vs M (some (pt_i x)) M' := pt_does_go tX7_figures_ok nX7_figures hvs hX ⟨_, by with_unfolding_all rfl, rfl, _, rfl, rfl⟩ h
theorem rX7_figures_113 {vs : List pt_V} {M M' : pt_M} {x : Int32} {L : List (Nat × pt_V)} (hvs : (vs.map pt_w).sum ≤ 6) (hX : M'.2.2.2.2 = M.2.2.2.2) (h : pt_Go YX7_figures (0, pt_en 0 vs, [], M) (113, L, [pt_i x], M')) : pt_Does yX7_figures YX7_figures vs M (some (pt_i x)) M' := pt_does_go tX7_figures_ok nX7_figures hvs hX ⟨_, by with_unfolding_all rfl, rfl, _, rfl, rfl⟩ h
set_option maxRecDepth 100000 in
theorem gX7_figures_0_1 (x1 : Int32) (x2 : Int32) (x3 : Int32) (n : Nat) (B : Nat → Nat → Nat → Bool) (r : Int32) (M2 : pt_M) (M : pt_M) (h1 : pt_Does yX7_isLawful YX7_isLawful [pt_r 7 0, pt_i x1] (pt_wF M 7 0 0 0) (some (pt_i 1)) M2) (h2 : ¬ x2 < 3) (h3 : ¬ x2 ≤ 6) :
    pt_Go YX7_figures (0, [(0, pt_r 7 0), (1, pt_i x1), (2, pt_i x2), (3, pt_i x3)], [], M)
      (25, [(0, pt_r 7 0), (1, pt_i x1), (2, pt_i x2), (3, pt_i x3)], [pt_i (-1)], M2) :=
  pt_run_ok tX7_figures_ok 14 [.inr (2, some (pt_i 1), M2), .inl false, .inl false, .inl false] (P := pt_Cal YX7_figures (.invokevirtual 141) [pt_r 7 0, pt_i x1] (pt_wF M 7 0 0 0) (some (pt_i 1)) M2 ∧ (¬ (1 : Int32) = (0 : Int32)) ∧ (¬ x2 < 3) ∧ (¬ x2 ≤ 6) ∧ True) (by with_unfolding_all rfl) ⟨(pt_callV (i := 0) kX7_figures_141 mX7_isLawful rfl (by decide) rfl h1), (by decide), h2, h3, trivial⟩
set_option maxRecDepth 100000 in
theorem gX7_figures_0_2 (x1 : Int32) (x2 : Int32) (x3 : Int32) (n : Nat) (B : Nat → Nat → Nat → Bool) (r : Int32) (M2 : pt_M) (M : pt_M) (h1 : pt_Does yX7_isLawful YX7_isLawful [pt_r 7 0, pt_i x1] (pt_wF M 7 0 0 0) (some (pt_i 1)) M2) (h2 : ¬ x2 < 3) (h3 : x2 ≤ 6) :
    pt_Go YX7_figures (0, [(0, pt_r 7 0), (1, pt_i x1), (2, pt_i x2), (3, pt_i x3)], [], M)
      (32, [(0, pt_r 7 0), (1, pt_i x1), (2, pt_i x2), (3, pt_i x3), (4, pt_i 0), (5, pt_i 0)], [], M2) :=
  pt_run_ok tX7_figures_ok 17 [.inr (2, some (pt_i 1), M2), .inl false, .inl false, .inl true] (P := pt_Cal YX7_figures (.invokevirtual 141) [pt_r 7 0, pt_i x1] (pt_wF M 7 0 0 0) (some (pt_i 1)) M2 ∧ (¬ (1 : Int32) = (0 : Int32)) ∧ (¬ x2 < 3) ∧ (x2 ≤ 6) ∧ True) (by with_unfolding_all rfl) ⟨(pt_callV (i := 0) kX7_figures_141 mX7_isLawful rfl (by decide) rfl h1), (by decide), h2, h3, trivial⟩
set_option maxRecDepth 100000 in
theorem gX7_figures_0_3 (x1 : Int32) (x2 : Int32) (x3 : Int32) (n : Nat) (B : Nat → Nat → Nat → Bool) (r : Int32) (M2 : pt_M) (M : pt_M) (h1 : pt_Does yX7_isLawful YX7_isLawful [pt_r 7 0, pt_i x1] (pt_wF M 7 0 0 0) (some (pt_i 1)) M2) (h2 : x2 < 3) :
    pt_Go YX7_figures (0, [(0, pt_r 7 0), (1, pt_i x1), (2, pt_i x2), (3, pt_i x3)], [], M)
      (25, [(0, pt_r 7 0), (1, pt_i x1), (2, pt_i x2), (3, pt_i x3)], [pt_i (-1)], M2) :=
  pt_run_ok tX7_figures_ok 11 [.inr (2, some (pt_i 1), M2), .inl false, .inl true] (P := pt_Cal YX7_figures (.invokevirtual 141) [pt_r 7 0, pt_i x1] (pt_wF M 7 0 0 0) (some (pt_i 1)) M2 ∧ (¬ (1 : Int32) = (0 : Int32)) ∧ (x2 < 3) ∧ True) (by with_unfolding_all rfl) ⟨(pt_callV (i := 0) kX7_figures_141 mX7_isLawful rfl (by decide) rfl h1), (by decide), h2, trivial⟩
set_option maxRecDepth 100000 in
theorem gX7_figures_0_4 (x1 : Int32) (x2 : Int32) (x3 : Int32) (n : Nat) (B : Nat → Nat → Nat → Bool) (r : Int32) (M2 : pt_M) (M : pt_M) (h1 : pt_Does yX7_isLawful YX7_isLawful [pt_r 7 0, pt_i x1] (pt_wF M 7 0 0 0) (some (pt_i 0)) M2) :
    pt_Go YX7_figures (0, [(0, pt_r 7 0), (1, pt_i x1), (2, pt_i x2), (3, pt_i x3)], [], M)
      (25, [(0, pt_r 7 0), (1, pt_i x1), (2, pt_i x2), (3, pt_i x3)], [pt_i (-1)], M2) :=
  pt_run_ok tX7_figures_ok 8 [.inr (2, some (pt_i 0), M2), .inl true] (P := pt_Cal YX7_figures (.invokevirtual 141) [pt_r 7 0, pt_i x1] (pt_wF M 7 0 0 0) (some (pt_i 0)) M2 ∧ ((0 : Int32) = (0 : Int32)) ∧ True) (by with_unfolding_all rfl) ⟨(pt_callV (i := 0) kX7_figures_141 mX7_isLawful rfl (by decide) rfl h1), (by decide), trivial⟩
set_option maxRecDepth 100000 in
theorem gX7_figures_32_1 (l1 : Int32) (l2 : Int32) (l3 : Int32) (l4 : Int32) (l5 : Int32) (n : Nat) (B : Nat → Nat → Nat → Bool) (r : Int32) (M2 : pt_M) (M : pt_M) (h1 : pt_in l1 6) (h2 : ¬ ((1 : Int32) <<< ((pt_A M 31 0 (pt_nt l1)) &&& 31)) ≤ l5) (h3 : st_P l5 0) (h4 : (nI (pc_F (pt_nt l5))) = l2) (h5 : ro_P M (120 * l1) l5 n B) (h6 : ¬ (ri_I n B l5) = l5) :
    pt_Go YX7_figures (32, [(0, pt_r 7 0), (1, pt_i l1), (2, pt_i l2), (3, pt_i l3), (4, pt_i l4), (5, pt_i l5)], [], M)
      (32, [(0, pt_r 7 0), (1, pt_i l1), (2, pt_i l2), (3, pt_i l3), (4, pt_i l4), (5, pt_i (l5 + 1))], [], M) :=
  pt_run_ok tX7_figures_ok 23 [.inl false, .inr (1, some (pt_i (nI (pc_F (pt_nt l5)))), M), .inl false, .inr (3, some (pt_i (ri_I n B l5)), M), .inl false] (P := (pt_in l1 6) ∧ (¬ ((1 : Int32) <<< ((pt_A M 31 0 (pt_nt l1)) &&& 31)) ≤ l5) ∧ pt_Cal YX7_figures (.invokestatic 129) [pt_i l5] M (some (pt_i (nI (pc_F (pt_nt l5))))) M ∧ ((nI (pc_F (pt_nt l5))) = l2) ∧ pt_Cal YX7_figures (.invokevirtual 147) [pt_r 7 0, pt_i (120 * l1), pt_i l5] M (some (pt_i (ri_I n B l5))) M ∧ (¬ (ri_I n B l5) = l5) ∧ True) (by with_unfolding_all rfl) ⟨h1, h2, (pt_callS kX7_figures_129 mX7_bits rfl (dX7_bits_t h3)), h4, (pt_callV (i := 0) kX7_figures_147 mX7_rimOf rfl (by decide) rfl (dX7_rimOf_t h5)), h6, trivial⟩
set_option maxRecDepth 100000 in
theorem gX7_figures_32_2 (l1 : Int32) (l2 : Int32) (l3 : Int32) (l4 : Int32) (l5 : Int32) (n : Nat) (B : Nat → Nat → Nat → Bool) (r : Int32) (M2 : pt_M) (M : pt_M) (h1 : pt_in l1 6) (h2 : ¬ ((1 : Int32) <<< ((pt_A M 31 0 (pt_nt l1)) &&& 31)) ≤ l5) (h3 : st_P l5 0) (h4 : (nI (pc_F (pt_nt l5))) = l2) (h5 : ro_P M (120 * l1) l5 n B) (h6 : (ri_I n B l5) = l5) (h7 : ¬ l3 = 0) (h8 : pt_Does yX7_isEmpty YX7_isEmpty [pt_r 7 0, pt_i (120 * l1), pt_i (pt_A M 31 0 (pt_nt l1)), pt_i l5] M (some (pt_i r)) M) (h9 : ¬ r = 0) :
    pt_Go YX7_figures (32, [(0, pt_r 7 0), (1, pt_i l1), (2, pt_i l2), (3, pt_i l3), (4, pt_i l4), (5, pt_i l5)], [], M)
      (32, [(0, pt_r 7 0), (1, pt_i l1), (2, pt_i l2), (3, pt_i l3), (4, pt_i (l4 + 1)), (5, pt_i (l5 + 1))], [], M) :=
  pt_run_ok tX7_figures_ok 40 [.inl false, .inr (1, some (pt_i (nI (pc_F (pt_nt l5)))), M), .inl false, .inr (3, some (pt_i (ri_I n B l5)), M), .inl true, .inl false, .inr (4, some (pt_i r), M), .inl false] (P := (pt_in l1 6) ∧ (¬ ((1 : Int32) <<< ((pt_A M 31 0 (pt_nt l1)) &&& 31)) ≤ l5) ∧ pt_Cal YX7_figures (.invokestatic 129) [pt_i l5] M (some (pt_i (nI (pc_F (pt_nt l5))))) M ∧ ((nI (pc_F (pt_nt l5))) = l2) ∧ pt_Cal YX7_figures (.invokevirtual 147) [pt_r 7 0, pt_i (120 * l1), pt_i l5] M (some (pt_i (ri_I n B l5))) M ∧ ((ri_I n B l5) = l5) ∧ (¬ l3 = 0) ∧ (pt_in l1 6) ∧ pt_Cal YX7_figures (.invokevirtual 193) [pt_r 7 0, pt_i (120 * l1), pt_i (pt_A M 31 0 (pt_nt l1)), pt_i l5] M (some (pt_i r)) M ∧ (¬ r = 0) ∧ True) (by with_unfolding_all rfl) ⟨h1, h2, (pt_callS kX7_figures_129 mX7_bits rfl (dX7_bits_t h3)), h4, (pt_callV (i := 0) kX7_figures_147 mX7_rimOf rfl (by decide) rfl (dX7_rimOf_t h5)), h6, h7, h1, (pt_callV (i := 0) kX7_figures_193 mX7_isEmpty rfl (by decide) rfl h8), h9, trivial⟩
set_option maxRecDepth 100000 in
theorem gX7_figures_32_3 (l1 : Int32) (l2 : Int32) (l3 : Int32) (l4 : Int32) (l5 : Int32) (n : Nat) (B : Nat → Nat → Nat → Bool) (r : Int32) (M2 : pt_M) (M : pt_M) (h1 : pt_in l1 6) (h2 : ¬ ((1 : Int32) <<< ((pt_A M 31 0 (pt_nt l1)) &&& 31)) ≤ l5) (h3 : st_P l5 0) (h4 : (nI (pc_F (pt_nt l5))) = l2) (h5 : ro_P M (120 * l1) l5 n B) (h6 : (ri_I n B l5) = l5) (h7 : ¬ l3 = 0) (h8 : pt_Does yX7_isEmpty YX7_isEmpty [pt_r 7 0, pt_i (120 * l1), pt_i (pt_A M 31 0 (pt_nt l1)), pt_i l5] M (some (pt_i r)) M) (h9 : r = 0) :
    pt_Go YX7_figures (32, [(0, pt_r 7 0), (1, pt_i l1), (2, pt_i l2), (3, pt_i l3), (4, pt_i l4), (5, pt_i l5)], [], M)
      (32, [(0, pt_r 7 0), (1, pt_i l1), (2, pt_i l2), (3, pt_i l3), (4, pt_i (l4 + 0)), (5, pt_i (l5 + 1))], [], M) :=
  pt_run_ok tX7_figures_ok 39 [.inl false, .inr (1, some (pt_i (nI (pc_F (pt_nt l5)))), M), .inl false, .inr (3, some (pt_i (ri_I n B l5)), M), .inl true, .inl false, .inr (4, some (pt_i r), M), .inl true] (P := (pt_in l1 6) ∧ (¬ ((1 : Int32) <<< ((pt_A M 31 0 (pt_nt l1)) &&& 31)) ≤ l5) ∧ pt_Cal YX7_figures (.invokestatic 129) [pt_i l5] M (some (pt_i (nI (pc_F (pt_nt l5))))) M ∧ ((nI (pc_F (pt_nt l5))) = l2) ∧ pt_Cal YX7_figures (.invokevirtual 147) [pt_r 7 0, pt_i (120 * l1), pt_i l5] M (some (pt_i (ri_I n B l5))) M ∧ ((ri_I n B l5) = l5) ∧ (¬ l3 = 0) ∧ (pt_in l1 6) ∧ pt_Cal YX7_figures (.invokevirtual 193) [pt_r 7 0, pt_i (120 * l1), pt_i (pt_A M 31 0 (pt_nt l1)), pt_i l5] M (some (pt_i r)) M ∧ (r = 0) ∧ True) (by with_unfolding_all rfl) ⟨h1, h2, (pt_callS kX7_figures_129 mX7_bits rfl (dX7_bits_t h3)), h4, (pt_callV (i := 0) kX7_figures_147 mX7_rimOf rfl (by decide) rfl (dX7_rimOf_t h5)), h6, h7, h1, (pt_callV (i := 0) kX7_figures_193 mX7_isEmpty rfl (by decide) rfl h8), h9, trivial⟩
set_option maxRecDepth 100000 in
theorem gX7_figures_32_4 (l1 : Int32) (l2 : Int32) (l3 : Int32) (l4 : Int32) (l5 : Int32) (n : Nat) (B : Nat → Nat → Nat → Bool) (r : Int32) (M2 : pt_M) (M : pt_M) (h1 : pt_in l1 6) (h2 : ¬ ((1 : Int32) <<< ((pt_A M 31 0 (pt_nt l1)) &&& 31)) ≤ l5) (h3 : st_P l5 0) (h4 : (nI (pc_F (pt_nt l5))) = l2) (h5 : ro_P M (120 * l1) l5 n B) (h6 : (ri_I n B l5) = l5) (h7 : l3 = 0) :
    pt_Go YX7_figures (32, [(0, pt_r 7 0), (1, pt_i l1), (2, pt_i l2), (3, pt_i l3), (4, pt_i l4), (5, pt_i l5)], [], M)
      (32, [(0, pt_r 7 0), (1, pt_i l1), (2, pt_i l2), (3, pt_i l3), (4, pt_i (l4 + 1)), (5, pt_i (l5 + 1))], [], M) :=
  pt_run_ok tX7_figures_ok 29 [.inl false, .inr (1, some (pt_i (nI (pc_F (pt_nt l5)))), M), .inl false, .inr (3, some (pt_i (ri_I n B l5)), M), .inl true, .inl true] (P := (pt_in l1 6) ∧ (¬ ((1 : Int32) <<< ((pt_A M 31 0 (pt_nt l1)) &&& 31)) ≤ l5) ∧ pt_Cal YX7_figures (.invokestatic 129) [pt_i l5] M (some (pt_i (nI (pc_F (pt_nt l5))))) M ∧ ((nI (pc_F (pt_nt l5))) = l2) ∧ pt_Cal YX7_figures (.invokevirtual 147) [pt_r 7 0, pt_i (120 * l1), pt_i l5] M (some (pt_i (ri_I n B l5))) M ∧ ((ri_I n B l5) = l5) ∧ (l3 = 0) ∧ True) (by with_unfolding_all rfl) ⟨h1, h2, (pt_callS kX7_figures_129 mX7_bits rfl (dX7_bits_t h3)), h4, (pt_callV (i := 0) kX7_figures_147 mX7_rimOf rfl (by decide) rfl (dX7_rimOf_t h5)), h6, h7, trivial⟩
set_option maxRecDepth 100000 in
theorem gX7_figures_32_5 (l1 : Int32) (l2 : Int32) (l3 : Int32) (l4 : Int32) (l5 : Int32) (n : Nat) (B : Nat → Nat → Nat → Bool) (r : Int32) (M2 : pt_M) (M : pt_M) (h1 : pt_in l1 6) (h2 : ¬ ((1 : Int32) <<< ((pt_A M 31 0 (pt_nt l1)) &&& 31)) ≤ l5) (h3 : st_P l5 0) (h4 : ¬ (nI (pc_F (pt_nt l5))) = l2) :
    pt_Go YX7_figures (32, [(0, pt_r 7 0), (1, pt_i l1), (2, pt_i l2), (3, pt_i l3), (4, pt_i l4), (5, pt_i l5)], [], M)
      (32, [(0, pt_r 7 0), (1, pt_i l1), (2, pt_i l2), (3, pt_i l3), (4, pt_i l4), (5, pt_i (l5 + 1))], [], M) :=
  pt_run_ok tX7_figures_ok 14 [.inl false, .inr (1, some (pt_i (nI (pc_F (pt_nt l5)))), M), .inl true] (P := (pt_in l1 6) ∧ (¬ ((1 : Int32) <<< ((pt_A M 31 0 (pt_nt l1)) &&& 31)) ≤ l5) ∧ pt_Cal YX7_figures (.invokestatic 129) [pt_i l5] M (some (pt_i (nI (pc_F (pt_nt l5))))) M ∧ (¬ (nI (pc_F (pt_nt l5))) = l2) ∧ True) (by with_unfolding_all rfl) ⟨h1, h2, (pt_callS kX7_figures_129 mX7_bits rfl (dX7_bits_t h3)), h4, trivial⟩
set_option maxRecDepth 100000 in
theorem gX7_figures_32_6 (l1 : Int32) (l2 : Int32) (l3 : Int32) (l4 : Int32) (l5 : Int32) (n : Nat) (B : Nat → Nat → Nat → Bool) (r : Int32) (M2 : pt_M) (M : pt_M) (h1 : pt_in l1 6) (h2 : ((1 : Int32) <<< ((pt_A M 31 0 (pt_nt l1)) &&& 31)) ≤ l5) :
    pt_Go YX7_figures (32, [(0, pt_r 7 0), (1, pt_i l1), (2, pt_i l2), (3, pt_i l3), (4, pt_i l4), (5, pt_i l5)], [], M)
      (113, [(0, pt_r 7 0), (1, pt_i l1), (2, pt_i l2), (3, pt_i l3), (4, pt_i l4), (5, pt_i l5)], [pt_i l4], M) :=
  pt_run_ok tX7_figures_ok 9 [.inl true] (P := (pt_in l1 6) ∧ (((1 : Int32) <<< ((pt_A M 31 0 (pt_nt l1)) &&& 31)) ≤ l5) ∧ True) (by with_unfolding_all rfl) ⟨h1, h2, trivial⟩
theorem dX7_figures {s n m : Nat} {e : Bool} {B : Nat → Nat → Nat → Bool} {M M2 : pt_M} (hs : s < 6) (hl : pt_Does yX7_isLawful YX7_isLawful [pt_r 7 0, pt_i (nI s)] (pt_wF M 7 0 0 0) (some (pt_i 1)) M2) (hN : pt_A M2 31 0 s = nI n) (h : ml_P M2 (120 * s) n B) (h3 : 3 ≤ m) (h6 : m ≤ 6) : pt_Does yX7_figures YX7_figures [pt_r 7 0, pt_i (nI s), pt_i (nI m), pt_i (pt_b e)] M (some (pt_i (nI (ct_N (fm_F n B m e) (2 ^ n))))) M2 := by
  have hn := h.2.1
  have h2n := pb_p2 hn
  have en : pt_nt (nI s) = s := pt_nt_nI (by omega)
  have hi6 : pt_in (nI s) 6 := pt_in_nI hs (by decide)
  have hN' : pt_A M2 31 0 (pt_nt (nI s)) = nI n := by rw [en]; exact hN
  have hsh : ((1 : Int32) <<< ((pt_A M2 31 0 (pt_nt (nI s))) &&& 31)) = nI (2 ^ n) := by rw [hN']; exact pt_shl1 n (by omega)
  have K := pt_for0 (Y := YX7_figures) (fun q => (32, [(0, pt_r 7 0), (1, pt_i (nI s)), (2, pt_i (nI m)), (3, pt_i (pt_b e)), (4, pt_i (nI (ct_N (fm_F n B m e) q))), (5, pt_i (nI q))], [], M2)) (n := 2 ^ n) fun q hq => by
    have hlt : ¬ ((1 : Int32) <<< ((pt_A M2 31 0 (pt_nt (nI s))) &&& 31)) ≤ nI q := by rw [hsh]; exact nI_ge hq (by omega)
    have hst : st_P (nI q) 0 := ⟨q, rfl, by omega⟩
    have eq1 : pt_nt (nI q) = q := pt_nt_nI (by omega)
    have hro : ro_P M2 (120 * nI s) (nI q) n B := ⟨120 * s, q, m120 s, rfl, h, hq⟩
    have hri := ri_nI (n := n) (B := B) (m := q) (by omega)
    have hrl := ri_lt (B := B) hn (m := q) (by omega)
    by_cases c1 : pc_F q = m
    · have c1' : nI (pc_F (pt_nt (nI q))) = nI m := by rw [eq1, c1]
      by_cases c2 : ri_F n B q = q
      · have c2' : ri_I n B (nI q) = nI q := by rw [hri, c2]
        cases e with
        | false =>
          refine (gX7_figures_32_4 (nI s) (nI m) (pt_b false) _ (nI q) n B 0 M2 M2 hi6 hlt hst c1' hro c2' rfl).to ?_
          rw [nI_1 q, ct_y (f := fm_F n B m false) (by unfold fm_F; simp [c1, c2])]
        | true =>
          have hf := fg_some ((ri_self hq (by omega)).mp c2)
          have hie : pt_Does yX7_isEmpty YX7_isEmpty [pt_r 7 0, pt_i (120 * nI s), pt_i (pt_A M2 31 0 (pt_nt (nI s))), pt_i (nI q)] M2 (some (pt_i (pt_b (iy_F n B q).isNone))) M2 := by
            rw [m120, hN']
            exact dX7_isEmpty h hq hf
          cases c3 : (iy_F n B q).isNone
          · rw [c3] at hie
            refine (gX7_figures_32_3 (nI s) (nI m) (pt_b true) _ (nI q) n B _ M2 M2 hi6 hlt hst c1' hro c2' (by decide) hie rfl).to ?_
            rw [nI_1, Int32.add_zero, ct_n (f := fm_F n B m true) (by unfold fm_F; rw [c3]; simp)]
          · rw [c3] at hie
            refine (gX7_figures_32_2 (nI s) (nI m) (pt_b true) _ (nI q) n B _ M2 M2 hi6 hlt hst c1' hro c2' (by decide) hie (by decide)).to ?_
            rw [nI_1 q, ct_y (f := fm_F n B m true) (by unfold fm_F; rw [c3]; simp [c1, c2])]
      · refine (gX7_figures_32_1 (nI s) (nI m) (pt_b e) _ (nI q) n B 0 M2 M2 hi6 hlt hst c1' hro (by rw [hri]; exact nI_nE c2 (by omega) (by omega))).to ?_
        rw [nI_1, ct_n (f := fm_F n B m e) (by unfold fm_F; simp [c2])]
    · refine (gX7_figures_32_5 (nI s) (nI m) (pt_b e) _ (nI q) n B 0 M2 M2 hi6 hlt hst (by rw [eq1]; exact nI_nE c1 (pc_lt q) (by omega))).to ?_
      rw [nI_1, ct_n (f := fm_F n B m e) (by unfold fm_F; simp [c1])]
  exact rX7_figures_113 (Nat.le_of_ble_eq_true rfl) (show M2.2.2.2.2 = (pt_wF M 7 0 0 0).2.2.2.2 from dX_x5 hl) ((gX7_figures_0_2 (nI s) (nI m) (pt_b e) n B 0 M2 M hl (nI_nlt (b := 3) h3 (by omega)) (nI_le (b := 6) h6 (by decide))).tr (K.tr (gX7_figures_32_6 (nI s) (nI m) (pt_b e) _ (nI (2 ^ n)) n B 0 M2 M2 hi6 (by rw [hsh]; exact Int32.le_refl _))))
theorem op_figures {M : pt_M} (h : IV_P M) (x y : Int32) (e : Bool) : op_P yX6_figures YX6_figures yX7_figures YX7_figures [pt_i x, pt_i y, pt_i (pt_b e)] M := by
  obtain ⟨A, hC, hM⟩ := h
  rcases lw_case hC x with ⟨h1, h2⟩ | ⟨s, hs, rfl, hn⟩
  · exact op_of hC hM (A' := A) (M2 := t0_M M) (dX6_figures_p5 x y _ 0 (fun _ _ _ => false) 0 M h1) mo_P.rf hC fun hM => ⟨rX7_figures_25 (Nat.le_of_ble_eq_true rfl) rfl (gX7_figures_0_4 x y (pt_b e) 0 (fun _ _ _ => false) 0 (t0_M M) M (il_0 (h2 M hM))), t0_ca, hM⟩
  · obtain ⟨q1, q2, q3, q4, q5, q6⟩ := CR_y hC hs hn
    have hM1 := MR_mo hM (mo_wm (x := nI s) (n := iv_N A s) (B := iv_B A s))
    by_cases hz : wy_F (iv_N A s) (iv_B A s) = 0
    · obtain ⟨g, hg⟩ := il_t hM1 hs hn hz
      have hl := CR_lA hC hs hn hz
      have hX : (pt_wA (t0_M (wl_M M (nI s) (iv_N A s) (iv_B A s))) 36 0 g).2.2.2.2 = (wl_M M (nI s) (iv_N A s) (iv_B A s)).2.2.2.2 := rfl
      by_cases c1 : y < 3
      · exact op_of hC hM (A' := A) (dX6_figures_p3 (nI s) y _ (iv_N A s) (iv_B A s) 0 M hl c1) mo_wm (CR_wm hC hs hn) fun hM => ⟨rX7_figures_25 (Nat.le_of_ble_eq_true rfl) hX (gX7_figures_0_3 (nI s) y (pt_b e) 0 (fun _ _ _ => false) 0 _ _ hg c1), ca_t36, MR_36 hM⟩
      by_cases c2 : y ≤ 6
      · obtain ⟨m, hm, rfl⟩ := nI_of (x := y) (fun z => c1 (by
          have z1 := Int32.lt_iff_toInt_lt.mp z
          exact Int32.lt_iff_toInt_lt.mpr (by
            have e0 : (0 : Int32).toInt = 0 := rfl
            have e3 : (3 : Int32).toInt = 3 := rfl
            omega)))
        have h3 : 3 ≤ m := by
          rw [show (3 : Int32) = nI 3 from rfl, nI_ltI hm (by decide)] at c1
          omega
        have h6 : m ≤ 6 := by
          rw [show (6 : Int32) = nI 6 from rfl, nI_leI hm (by decide)] at c2
          exact c2
        have h2 := pb_p2 q2
        have h3' := Nat.two_pow_pos (iv_N A s)
        have d1 := dX6_figures (m := m) (e := e) hl h3 h6 (fun q _ => by have := iw_le (n := iv_N A s) (s := q) (B := iv_B A s) (iv_N A s); omega)
        have ec : ct_N (fm_F (iv_N A s) (iv_B A s) m e) (2 ^ iv_N A s) = ct_N (fq_F (iv_N A s) (iv_B A s) m e) (2 ^ iv_N A s) := ct_cong fun q hq => fm_fq q2 hq h3
        refine op_of hC hM (A' := A) (M2 := pt_wA (t0_M (wl_M M (nI s) (iv_N A s) (iv_B A s))) 36 0 g) d1 mo_wm (CR_wm hC hs hn) fun hM => ⟨?_, ca_t36, MR_36 hM⟩
        rw [← ec]
        obtain ⟨p1, p2, p3⟩ := MR_y (MR_36 (g := g) hM) hs hn
        exact dX7_figures hs hg p2 p3 h3 h6
      · exact op_of hC hM (A' := A) (dX6_figures_p1 (nI s) y _ (iv_N A s) (iv_B A s) 0 M hl c1 c2) mo_wm (CR_wm hC hs hn) fun hM => ⟨rX7_figures_25 (Nat.le_of_ble_eq_true rfl) hX (gX7_figures_0_1 (nI s) y (pt_b e) 0 (fun _ _ _ => false) 0 _ _ hg c1 c2), ca_t36, MR_36 hM⟩
    · obtain ⟨g, hg⟩ := il_f hM1 hs hn hz
      have hX : (pt_wA (t0_M (wl_M M (nI s) (iv_N A s) (iv_B A s))) 36 0 g).2.2.2.2 = (wl_M M (nI s) (iv_N A s) (iv_B A s)).2.2.2.2 := rfl
      exact op_of hC hM (A' := A) (dX6_figures_p4 (nI s) y _ (iv_N A s) (iv_B A s) 0 M (CR_lN hC hs hn hz)) mo_wm (CR_wm hC hs hn) fun hM => ⟨rX7_figures_25 (Nat.le_of_ble_eq_true rfl) hX (gX7_figures_0_4 (nI s) y (pt_b e) 0 (fun _ _ _ => false) 0 _ _ hg), ca_t36, MR_36 hM⟩
/-! inside -/
theorem rX7_inside_37 {vs : List pt_V} {M M' : pt_M} {x : Int32} {L : List (Nat × pt_V)} (hvs : (vs.map pt_w).sum ≤ 8) (hX : M'.2.2.2.2 = M.2.2.2.2) (h : pt_Go YX7_inside (0, pt_en 0 vs, [], M) (37, L, [pt_i x], M')) : pt_Does yX7_inside YX7_inside vs M (some (pt_i x)) M' := pt_does_go tX7_inside_ok nX7_inside hvs hX ⟨_, by with_unfolding_all rfl, rfl, _, rfl, rfl⟩ h
theorem rX7_inside_108 {vs : List pt_V} {M M' : pt_M} {x : Int32} {L : List (Nat × pt_V)} (hvs : (vs.map pt_w).sum ≤ 8) (hX : M'.2.2.2.2 = M.2.2.2.2) (h : pt_Go YX7_inside (0, pt_en 0 vs, [], M) (108, L, [pt_i x], M')) : pt_Does yX7_inside YX7_inside vs M (some (pt_i x)) M' := pt_does_go tX7_inside_ok nX7_inside hvs hX ⟨_, by with_unfolding_all rfl, rfl, _, rfl, rfl⟩ h
set_option maxRecDepth 100000 in
theorem gX7_inside_0_1 (x1 : Int32) (x2 : Int32) (x3 : Int32) (x4 : Int32) (x5 : Int32) (n : Nat) (B : Nat → Nat → Nat → Bool) (M : pt_M) (h1 : aT_P (pt_wF M 7 0 0 0) x1 x2 x3 x4) (h2 : aT_P (pt_wF M 7 0 0 0) x1 x2 x3 x5) (h3 : x5 = x4) :
    pt_Go YX7_inside (0, [(0, pt_r 7 0), (1, pt_i x1), (2, pt_i x2), (3, pt_i x3), (4, pt_i x4), (5, pt_i x5)], [], M)
      (37, [(0, pt_r 7 0), (1, pt_i x1), (2, pt_i x2), (3, pt_i x3), (4, pt_i x4), (5, pt_i x5)], [pt_i (-1)], (pt_wF M 7 0 0 0)) :=
  pt_run_ok tX7_inside_ok 21 [.inr (5, some (pt_i 1), (pt_wF M 7 0 0 0)), .inl false, .inr (5, some (pt_i 1), (pt_wF M 7 0 0 0)), .inl false, .inl false] (P := pt_Cal YX7_inside (.invokevirtual 107) [pt_r 7 0, pt_i x1, pt_i x2, pt_i x3, pt_i x4] (pt_wF M 7 0 0 0) (some (pt_i 1)) (pt_wF M 7 0 0 0) ∧ (¬ (1 : Int32) = (0 : Int32)) ∧ pt_Cal YX7_inside (.invokevirtual 107) [pt_r 7 0, pt_i x1, pt_i x2, pt_i x3, pt_i x5] (pt_wF M 7 0 0 0) (some (pt_i 1)) (pt_wF M 7 0 0 0) ∧ (¬ (1 : Int32) = (0 : Int32)) ∧ (x5 = x4) ∧ True) (by with_unfolding_all rfl) ⟨(pt_callV (i := 0) kX7_inside_107 mX7_areThree rfl (by decide) rfl (dX7_areThree_1 h1)), (by decide), (pt_callV (i := 0) kX7_inside_107 mX7_areThree rfl (by decide) rfl (dX7_areThree_1 h2)), (by decide), h3, trivial⟩
set_option maxRecDepth 100000 in
theorem gX7_inside_0_2 (x1 : Int32) (x2 : Int32) (x3 : Int32) (x4 : Int32) (x5 : Int32) (n : Nat) (B : Nat → Nat → Nat → Bool) (M : pt_M) (h1 : aT_P (pt_wF M 7 0 0 0) x1 x2 x3 x4) (h2 : aT_P (pt_wF M 7 0 0 0) x1 x2 x3 x5) (h3 : ¬ x5 = x4) (h4 : tq_P (pt_wF M 7 0 0 0) (120 * x1) x2 x3 x4 n B) (h5 : tq_P (pt_wF M 7 0 0 0) (120 * x1) x2 x3 x5 n B) (h6 : (ta_I B x2 x3 x5) = (ta_I B x2 x3 x4)) (h7 : tq_P (pt_wF M 7 0 0 0) (120 * x1) x3 x4 x5 n B) (h8 : (ta_I B x3 x4 x5) = (ta_I B x2 x3 x4)) (h9 : tq_P (pt_wF M 7 0 0 0) (120 * x1) x4 x2 x5 n B) (h10 : (ta_I B x4 x2 x5) = (ta_I B x2 x3 x4)) :
    pt_Go YX7_inside (0, [(0, pt_r 7 0), (1, pt_i x1), (2, pt_i x2), (3, pt_i x3), (4, pt_i x4), (5, pt_i x5)], [], M)
      (108, [(0, pt_r 7 0), (1, pt_i x1), (2, pt_i x2), (3, pt_i x3), (4, pt_i x4), (5, pt_i x5), (6, pt_i (120 * x1)), (7, pt_i (ta_I B x2 x3 x4))], [pt_i 1], (pt_wF M 7 0 0 0)) :=
  pt_run_ok tX7_inside_ok 57 [.inr (5, some (pt_i 1), (pt_wF M 7 0 0 0)), .inl false, .inr (5, some (pt_i 1), (pt_wF M 7 0 0 0)), .inl false, .inl true, .inr (5, some (pt_i (ta_I B x2 x3 x4)), (pt_wF M 7 0 0 0)), .inr (5, some (pt_i (ta_I B x2 x3 x5)), (pt_wF M 7 0 0 0)), .inl false, .inr (5, some (pt_i (ta_I B x3 x4 x5)), (pt_wF M 7 0 0 0)), .inl false, .inr (5, some (pt_i (ta_I B x4 x2 x5)), (pt_wF M 7 0 0 0)), .inl false] (P := pt_Cal YX7_inside (.invokevirtual 107) [pt_r 7 0, pt_i x1, pt_i x2, pt_i x3, pt_i x4] (pt_wF M 7 0 0 0) (some (pt_i 1)) (pt_wF M 7 0 0 0) ∧ (¬ (1 : Int32) = (0 : Int32)) ∧ pt_Cal YX7_inside (.invokevirtual 107) [pt_r 7 0, pt_i x1, pt_i x2, pt_i x3, pt_i x5] (pt_wF M 7 0 0 0) (some (pt_i 1)) (pt_wF M 7 0 0 0) ∧ (¬ (1 : Int32) = (0 : Int32)) ∧ (¬ x5 = x4) ∧ pt_Cal YX7_inside (.invokevirtual 81) [pt_r 7 0, pt_i (120 * x1), pt_i x2, pt_i x3, pt_i x4] (pt_wF M 7 0 0 0) (some (pt_i (ta_I B x2 x3 x4))) (pt_wF M 7 0 0 0) ∧ pt_Cal YX7_inside (.invokevirtual 81) [pt_r 7 0, pt_i (120 * x1), pt_i x2, pt_i x3, pt_i x5] (pt_wF M 7 0 0 0) (some (pt_i (ta_I B x2 x3 x5))) (pt_wF M 7 0 0 0) ∧ ((ta_I B x2 x3 x5) = (ta_I B x2 x3 x4)) ∧ pt_Cal YX7_inside (.invokevirtual 81) [pt_r 7 0, pt_i (120 * x1), pt_i x3, pt_i x4, pt_i x5] (pt_wF M 7 0 0 0) (some (pt_i (ta_I B x3 x4 x5))) (pt_wF M 7 0 0 0) ∧ ((ta_I B x3 x4 x5) = (ta_I B x2 x3 x4)) ∧ pt_Cal YX7_inside (.invokevirtual 81) [pt_r 7 0, pt_i (120 * x1), pt_i x4, pt_i x2, pt_i x5] (pt_wF M 7 0 0 0) (some (pt_i (ta_I B x4 x2 x5))) (pt_wF M 7 0 0 0) ∧ ((ta_I B x4 x2 x5) = (ta_I B x2 x3 x4)) ∧ True) (by with_unfolding_all rfl) ⟨(pt_callV (i := 0) kX7_inside_107 mX7_areThree rfl (by decide) rfl (dX7_areThree_1 h1)), (by decide), (pt_callV (i := 0) kX7_inside_107 mX7_areThree rfl (by decide) rfl (dX7_areThree_1 h2)), (by decide), h3, (pt_callV (i := 0) kX7_inside_81 mX7_turnAt rfl (by decide) rfl (dX7_turnAt_t h4)), (pt_callV (i := 0) kX7_inside_81 mX7_turnAt rfl (by decide) rfl (dX7_turnAt_t h5)), h6, (pt_callV (i := 0) kX7_inside_81 mX7_turnAt rfl (by decide) rfl (dX7_turnAt_t h7)), h8, (pt_callV (i := 0) kX7_inside_81 mX7_turnAt rfl (by decide) rfl (dX7_turnAt_t h9)), h10, trivial⟩
set_option maxRecDepth 100000 in
theorem gX7_inside_0_3 (x1 : Int32) (x2 : Int32) (x3 : Int32) (x4 : Int32) (x5 : Int32) (n : Nat) (B : Nat → Nat → Nat → Bool) (M : pt_M) (h1 : aT_P (pt_wF M 7 0 0 0) x1 x2 x3 x4) (h2 : aT_P (pt_wF M 7 0 0 0) x1 x2 x3 x5) (h3 : ¬ x5 = x4) (h4 : tq_P (pt_wF M 7 0 0 0) (120 * x1) x2 x3 x4 n B) (h5 : tq_P (pt_wF M 7 0 0 0) (120 * x1) x2 x3 x5 n B) (h6 : (ta_I B x2 x3 x5) = (ta_I B x2 x3 x4)) (h7 : tq_P (pt_wF M 7 0 0 0) (120 * x1) x3 x4 x5 n B) (h8 : (ta_I B x3 x4 x5) = (ta_I B x2 x3 x4)) (h9 : tq_P (pt_wF M 7 0 0 0) (120 * x1) x4 x2 x5 n B) (h10 : ¬ (ta_I B x4 x2 x5) = (ta_I B x2 x3 x4)) :
    pt_Go YX7_inside (0, [(0, pt_r 7 0), (1, pt_i x1), (2, pt_i x2), (3, pt_i x3), (4, pt_i x4), (5, pt_i x5)], [], M)
      (108, [(0, pt_r 7 0), (1, pt_i x1), (2, pt_i x2), (3, pt_i x3), (4, pt_i x4), (5, pt_i x5), (6, pt_i (120 * x1)), (7, pt_i (ta_I B x2 x3 x4))], [pt_i 0], (pt_wF M 7 0 0 0)) :=
  pt_run_ok tX7_inside_ok 56 [.inr (5, some (pt_i 1), (pt_wF M 7 0 0 0)), .inl false, .inr (5, some (pt_i 1), (pt_wF M 7 0 0 0)), .inl false, .inl true, .inr (5, some (pt_i (ta_I B x2 x3 x4)), (pt_wF M 7 0 0 0)), .inr (5, some (pt_i (ta_I B x2 x3 x5)), (pt_wF M 7 0 0 0)), .inl false, .inr (5, some (pt_i (ta_I B x3 x4 x5)), (pt_wF M 7 0 0 0)), .inl false, .inr (5, some (pt_i (ta_I B x4 x2 x5)), (pt_wF M 7 0 0 0)), .inl true] (P := pt_Cal YX7_inside (.invokevirtual 107) [pt_r 7 0, pt_i x1, pt_i x2, pt_i x3, pt_i x4] (pt_wF M 7 0 0 0) (some (pt_i 1)) (pt_wF M 7 0 0 0) ∧ (¬ (1 : Int32) = (0 : Int32)) ∧ pt_Cal YX7_inside (.invokevirtual 107) [pt_r 7 0, pt_i x1, pt_i x2, pt_i x3, pt_i x5] (pt_wF M 7 0 0 0) (some (pt_i 1)) (pt_wF M 7 0 0 0) ∧ (¬ (1 : Int32) = (0 : Int32)) ∧ (¬ x5 = x4) ∧ pt_Cal YX7_inside (.invokevirtual 81) [pt_r 7 0, pt_i (120 * x1), pt_i x2, pt_i x3, pt_i x4] (pt_wF M 7 0 0 0) (some (pt_i (ta_I B x2 x3 x4))) (pt_wF M 7 0 0 0) ∧ pt_Cal YX7_inside (.invokevirtual 81) [pt_r 7 0, pt_i (120 * x1), pt_i x2, pt_i x3, pt_i x5] (pt_wF M 7 0 0 0) (some (pt_i (ta_I B x2 x3 x5))) (pt_wF M 7 0 0 0) ∧ ((ta_I B x2 x3 x5) = (ta_I B x2 x3 x4)) ∧ pt_Cal YX7_inside (.invokevirtual 81) [pt_r 7 0, pt_i (120 * x1), pt_i x3, pt_i x4, pt_i x5] (pt_wF M 7 0 0 0) (some (pt_i (ta_I B x3 x4 x5))) (pt_wF M 7 0 0 0) ∧ ((ta_I B x3 x4 x5) = (ta_I B x2 x3 x4)) ∧ pt_Cal YX7_inside (.invokevirtual 81) [pt_r 7 0, pt_i (120 * x1), pt_i x4, pt_i x2, pt_i x5] (pt_wF M 7 0 0 0) (some (pt_i (ta_I B x4 x2 x5))) (pt_wF M 7 0 0 0) ∧ (¬ (ta_I B x4 x2 x5) = (ta_I B x2 x3 x4)) ∧ True) (by with_unfolding_all rfl) ⟨(pt_callV (i := 0) kX7_inside_107 mX7_areThree rfl (by decide) rfl (dX7_areThree_1 h1)), (by decide), (pt_callV (i := 0) kX7_inside_107 mX7_areThree rfl (by decide) rfl (dX7_areThree_1 h2)), (by decide), h3, (pt_callV (i := 0) kX7_inside_81 mX7_turnAt rfl (by decide) rfl (dX7_turnAt_t h4)), (pt_callV (i := 0) kX7_inside_81 mX7_turnAt rfl (by decide) rfl (dX7_turnAt_t h5)), h6, (pt_callV (i := 0) kX7_inside_81 mX7_turnAt rfl (by decide) rfl (dX7_turnAt_t h7)), h8, (pt_callV (i := 0) kX7_inside_81 mX7_turnAt rfl (by decide) rfl (dX7_turnAt_t h9)), h10, trivial⟩
set_option maxRecDepth 100000 in
theorem gX7_inside_0_4 (x1 : Int32) (x2 : Int32) (x3 : Int32) (x4 : Int32) (x5 : Int32) (n : Nat) (B : Nat → Nat → Nat → Bool) (M : pt_M) (h1 : aT_P (pt_wF M 7 0 0 0) x1 x2 x3 x4) (h2 : aT_P (pt_wF M 7 0 0 0) x1 x2 x3 x5) (h3 : ¬ x5 = x4) (h4 : tq_P (pt_wF M 7 0 0 0) (120 * x1) x2 x3 x4 n B) (h5 : tq_P (pt_wF M 7 0 0 0) (120 * x1) x2 x3 x5 n B) (h6 : (ta_I B x2 x3 x5) = (ta_I B x2 x3 x4)) (h7 : tq_P (pt_wF M 7 0 0 0) (120 * x1) x3 x4 x5 n B) (h8 : ¬ (ta_I B x3 x4 x5) = (ta_I B x2 x3 x4)) :
    pt_Go YX7_inside (0, [(0, pt_r 7 0), (1, pt_i x1), (2, pt_i x2), (3, pt_i x3), (4, pt_i x4), (5, pt_i x5)], [], M)
      (108, [(0, pt_r 7 0), (1, pt_i x1), (2, pt_i x2), (3, pt_i x3), (4, pt_i x4), (5, pt_i x5), (6, pt_i (120 * x1)), (7, pt_i (ta_I B x2 x3 x4))], [pt_i 0], (pt_wF M 7 0 0 0)) :=
  pt_run_ok tX7_inside_ok 48 [.inr (5, some (pt_i 1), (pt_wF M 7 0 0 0)), .inl false, .inr (5, some (pt_i 1), (pt_wF M 7 0 0 0)), .inl false, .inl true, .inr (5, some (pt_i (ta_I B x2 x3 x4)), (pt_wF M 7 0 0 0)), .inr (5, some (pt_i (ta_I B x2 x3 x5)), (pt_wF M 7 0 0 0)), .inl false, .inr (5, some (pt_i (ta_I B x3 x4 x5)), (pt_wF M 7 0 0 0)), .inl true] (P := pt_Cal YX7_inside (.invokevirtual 107) [pt_r 7 0, pt_i x1, pt_i x2, pt_i x3, pt_i x4] (pt_wF M 7 0 0 0) (some (pt_i 1)) (pt_wF M 7 0 0 0) ∧ (¬ (1 : Int32) = (0 : Int32)) ∧ pt_Cal YX7_inside (.invokevirtual 107) [pt_r 7 0, pt_i x1, pt_i x2, pt_i x3, pt_i x5] (pt_wF M 7 0 0 0) (some (pt_i 1)) (pt_wF M 7 0 0 0) ∧ (¬ (1 : Int32) = (0 : Int32)) ∧ (¬ x5 = x4) ∧ pt_Cal YX7_inside (.invokevirtual 81) [pt_r 7 0, pt_i (120 * x1), pt_i x2, pt_i x3, pt_i x4] (pt_wF M 7 0 0 0) (some (pt_i (ta_I B x2 x3 x4))) (pt_wF M 7 0 0 0) ∧ pt_Cal YX7_inside (.invokevirtual 81) [pt_r 7 0, pt_i (120 * x1), pt_i x2, pt_i x3, pt_i x5] (pt_wF M 7 0 0 0) (some (pt_i (ta_I B x2 x3 x5))) (pt_wF M 7 0 0 0) ∧ ((ta_I B x2 x3 x5) = (ta_I B x2 x3 x4)) ∧ pt_Cal YX7_inside (.invokevirtual 81) [pt_r 7 0, pt_i (120 * x1), pt_i x3, pt_i x4, pt_i x5] (pt_wF M 7 0 0 0) (some (pt_i (ta_I B x3 x4 x5))) (pt_wF M 7 0 0 0) ∧ (¬ (ta_I B x3 x4 x5) = (ta_I B x2 x3 x4)) ∧ True) (by with_unfolding_all rfl) ⟨(pt_callV (i := 0) kX7_inside_107 mX7_areThree rfl (by decide) rfl (dX7_areThree_1 h1)), (by decide), (pt_callV (i := 0) kX7_inside_107 mX7_areThree rfl (by decide) rfl (dX7_areThree_1 h2)), (by decide), h3, (pt_callV (i := 0) kX7_inside_81 mX7_turnAt rfl (by decide) rfl (dX7_turnAt_t h4)), (pt_callV (i := 0) kX7_inside_81 mX7_turnAt rfl (by decide) rfl (dX7_turnAt_t h5)), h6, (pt_callV (i := 0) kX7_inside_81 mX7_turnAt rfl (by decide) rfl (dX7_turnAt_t h7)), h8, trivial⟩
set_option maxRecDepth 100000 in
theorem gX7_inside_0_5 (x1 : Int32) (x2 : Int32) (x3 : Int32) (x4 : Int32) (x5 : Int32) (n : Nat) (B : Nat → Nat → Nat → Bool) (M : pt_M) (h1 : aT_P (pt_wF M 7 0 0 0) x1 x2 x3 x4) (h2 : aT_P (pt_wF M 7 0 0 0) x1 x2 x3 x5) (h3 : ¬ x5 = x4) (h4 : tq_P (pt_wF M 7 0 0 0) (120 * x1) x2 x3 x4 n B) (h5 : tq_P (pt_wF M 7 0 0 0) (120 * x1) x2 x3 x5 n B) (h6 : ¬ (ta_I B x2 x3 x5) = (ta_I B x2 x3 x4)) :
    pt_Go YX7_inside (0, [(0, pt_r 7 0), (1, pt_i x1), (2, pt_i x2), (3, pt_i x3), (4, pt_i x4), (5, pt_i x5)], [], M)
      (108, [(0, pt_r 7 0), (1, pt_i x1), (2, pt_i x2), (3, pt_i x3), (4, pt_i x4), (5, pt_i x5), (6, pt_i (120 * x1)), (7, pt_i (ta_I B x2 x3 x4))], [pt_i 0], (pt_wF M 7 0 0 0)) :=
  pt_run_ok tX7_inside_ok 40 [.inr (5, some (pt_i 1), (pt_wF M 7 0 0 0)), .inl false, .inr (5, some (pt_i 1), (pt_wF M 7 0 0 0)), .inl false, .inl true, .inr (5, some (pt_i (ta_I B x2 x3 x4)), (pt_wF M 7 0 0 0)), .inr (5, some (pt_i (ta_I B x2 x3 x5)), (pt_wF M 7 0 0 0)), .inl true] (P := pt_Cal YX7_inside (.invokevirtual 107) [pt_r 7 0, pt_i x1, pt_i x2, pt_i x3, pt_i x4] (pt_wF M 7 0 0 0) (some (pt_i 1)) (pt_wF M 7 0 0 0) ∧ (¬ (1 : Int32) = (0 : Int32)) ∧ pt_Cal YX7_inside (.invokevirtual 107) [pt_r 7 0, pt_i x1, pt_i x2, pt_i x3, pt_i x5] (pt_wF M 7 0 0 0) (some (pt_i 1)) (pt_wF M 7 0 0 0) ∧ (¬ (1 : Int32) = (0 : Int32)) ∧ (¬ x5 = x4) ∧ pt_Cal YX7_inside (.invokevirtual 81) [pt_r 7 0, pt_i (120 * x1), pt_i x2, pt_i x3, pt_i x4] (pt_wF M 7 0 0 0) (some (pt_i (ta_I B x2 x3 x4))) (pt_wF M 7 0 0 0) ∧ pt_Cal YX7_inside (.invokevirtual 81) [pt_r 7 0, pt_i (120 * x1), pt_i x2, pt_i x3, pt_i x5] (pt_wF M 7 0 0 0) (some (pt_i (ta_I B x2 x3 x5))) (pt_wF M 7 0 0 0) ∧ (¬ (ta_I B x2 x3 x5) = (ta_I B x2 x3 x4)) ∧ True) (by with_unfolding_all rfl) ⟨(pt_callV (i := 0) kX7_inside_107 mX7_areThree rfl (by decide) rfl (dX7_areThree_1 h1)), (by decide), (pt_callV (i := 0) kX7_inside_107 mX7_areThree rfl (by decide) rfl (dX7_areThree_1 h2)), (by decide), h3, (pt_callV (i := 0) kX7_inside_81 mX7_turnAt rfl (by decide) rfl (dX7_turnAt_t h4)), (pt_callV (i := 0) kX7_inside_81 mX7_turnAt rfl (by decide) rfl (dX7_turnAt_t h5)), h6, trivial⟩
set_option maxRecDepth 100000 in
theorem gX7_inside_0_6 (x1 : Int32) (x2 : Int32) (x3 : Int32) (x4 : Int32) (x5 : Int32) (n : Nat) (B : Nat → Nat → Nat → Bool) (M : pt_M) (h1 : aT_P (pt_wF M 7 0 0 0) x1 x2 x3 x4) (h2 : aN_P (pt_wF M 7 0 0 0) x1 x2 x3 x5) :
    pt_Go YX7_inside (0, [(0, pt_r 7 0), (1, pt_i x1), (2, pt_i x2), (3, pt_i x3), (4, pt_i x4), (5, pt_i x5)], [], M)
      (37, [(0, pt_r 7 0), (1, pt_i x1), (2, pt_i x2), (3, pt_i x3), (4, pt_i x4), (5, pt_i x5)], [pt_i (-1)], (pt_wF M 7 0 0 0)) :=
  pt_run_ok tX7_inside_ok 18 [.inr (5, some (pt_i 1), (pt_wF M 7 0 0 0)), .inl false, .inr (5, some (pt_i 0), (pt_wF M 7 0 0 0)), .inl true] (P := pt_Cal YX7_inside (.invokevirtual 107) [pt_r 7 0, pt_i x1, pt_i x2, pt_i x3, pt_i x4] (pt_wF M 7 0 0 0) (some (pt_i 1)) (pt_wF M 7 0 0 0) ∧ (¬ (1 : Int32) = (0 : Int32)) ∧ pt_Cal YX7_inside (.invokevirtual 107) [pt_r 7 0, pt_i x1, pt_i x2, pt_i x3, pt_i x5] (pt_wF M 7 0 0 0) (some (pt_i 0)) (pt_wF M 7 0 0 0) ∧ ((0 : Int32) = (0 : Int32)) ∧ True) (by with_unfolding_all rfl) ⟨(pt_callV (i := 0) kX7_inside_107 mX7_areThree rfl (by decide) rfl (dX7_areThree_1 h1)), (by decide), (pt_callV (i := 0) kX7_inside_107 mX7_areThree rfl (by decide) rfl (dX7_areThree_0 h2)), (by decide), trivial⟩
set_option maxRecDepth 100000 in
theorem gX7_inside_0_7 (x1 : Int32) (x2 : Int32) (x3 : Int32) (x4 : Int32) (x5 : Int32) (n : Nat) (B : Nat → Nat → Nat → Bool) (M : pt_M) (h1 : aN_P (pt_wF M 7 0 0 0) x1 x2 x3 x4) :
    pt_Go YX7_inside (0, [(0, pt_r 7 0), (1, pt_i x1), (2, pt_i x2), (3, pt_i x3), (4, pt_i x4), (5, pt_i x5)], [], M)
      (37, [(0, pt_r 7 0), (1, pt_i x1), (2, pt_i x2), (3, pt_i x3), (4, pt_i x4), (5, pt_i x5)], [pt_i (-1)], (pt_wF M 7 0 0 0)) :=
  pt_run_ok tX7_inside_ok 11 [.inr (5, some (pt_i 0), (pt_wF M 7 0 0 0)), .inl true] (P := pt_Cal YX7_inside (.invokevirtual 107) [pt_r 7 0, pt_i x1, pt_i x2, pt_i x3, pt_i x4] (pt_wF M 7 0 0 0) (some (pt_i 0)) (pt_wF M 7 0 0 0) ∧ ((0 : Int32) = (0 : Int32)) ∧ True) (by with_unfolding_all rfl) ⟨(pt_callV (i := 0) kX7_inside_107 mX7_areThree rfl (by decide) rfl (dX7_areThree_0 h1)), (by decide), trivial⟩
theorem dX7_inside_p1 (x1 : Int32) (x2 : Int32) (x3 : Int32) (x4 : Int32) (x5 : Int32) (n : Nat) (B : Nat → Nat → Nat → Bool) (M : pt_M) (h1 : aT_P (pt_wF M 7 0 0 0) x1 x2 x3 x4) (h2 : aT_P (pt_wF M 7 0 0 0) x1 x2 x3 x5) (h3 : x5 = x4) : pt_Does yX7_inside YX7_inside [pt_r 7 0, pt_i x1, pt_i x2, pt_i x3, pt_i x4, pt_i x5] M (some (pt_i (-1))) (pt_wF M 7 0 0 0) :=
  rX7_inside_37 (Nat.le_of_ble_eq_true rfl) rfl (gX7_inside_0_1 x1 x2 x3 x4 x5 n B M h1 h2 h3)
theorem dX7_inside_p2 (x1 : Int32) (x2 : Int32) (x3 : Int32) (x4 : Int32) (x5 : Int32) (n : Nat) (B : Nat → Nat → Nat → Bool) (M : pt_M) (h1 : aT_P (pt_wF M 7 0 0 0) x1 x2 x3 x4) (h2 : aT_P (pt_wF M 7 0 0 0) x1 x2 x3 x5) (h3 : ¬ x5 = x4) (h4 : tq_P (pt_wF M 7 0 0 0) (120 * x1) x2 x3 x4 n B) (h5 : tq_P (pt_wF M 7 0 0 0) (120 * x1) x2 x3 x5 n B) (h6 : (ta_I B x2 x3 x5) = (ta_I B x2 x3 x4)) (h7 : tq_P (pt_wF M 7 0 0 0) (120 * x1) x3 x4 x5 n B) (h8 : (ta_I B x3 x4 x5) = (ta_I B x2 x3 x4)) (h9 : tq_P (pt_wF M 7 0 0 0) (120 * x1) x4 x2 x5 n B) (h10 : (ta_I B x4 x2 x5) = (ta_I B x2 x3 x4)) : pt_Does yX7_inside YX7_inside [pt_r 7 0, pt_i x1, pt_i x2, pt_i x3, pt_i x4, pt_i x5] M (some (pt_i 1)) (pt_wF M 7 0 0 0) :=
  rX7_inside_108 (Nat.le_of_ble_eq_true rfl) rfl (gX7_inside_0_2 x1 x2 x3 x4 x5 n B M h1 h2 h3 h4 h5 h6 h7 h8 h9 h10)
theorem dX7_inside_p3 (x1 : Int32) (x2 : Int32) (x3 : Int32) (x4 : Int32) (x5 : Int32) (n : Nat) (B : Nat → Nat → Nat → Bool) (M : pt_M) (h1 : aT_P (pt_wF M 7 0 0 0) x1 x2 x3 x4) (h2 : aT_P (pt_wF M 7 0 0 0) x1 x2 x3 x5) (h3 : ¬ x5 = x4) (h4 : tq_P (pt_wF M 7 0 0 0) (120 * x1) x2 x3 x4 n B) (h5 : tq_P (pt_wF M 7 0 0 0) (120 * x1) x2 x3 x5 n B) (h6 : (ta_I B x2 x3 x5) = (ta_I B x2 x3 x4)) (h7 : tq_P (pt_wF M 7 0 0 0) (120 * x1) x3 x4 x5 n B) (h8 : (ta_I B x3 x4 x5) = (ta_I B x2 x3 x4)) (h9 : tq_P (pt_wF M 7 0 0 0) (120 * x1) x4 x2 x5 n B) (h10 : ¬ (ta_I B x4 x2 x5) = (ta_I B x2 x3 x4)) : pt_Does yX7_inside YX7_inside [pt_r 7 0, pt_i x1, pt_i x2, pt_i x3, pt_i x4, pt_i x5] M (some (pt_i 0)) (pt_wF M 7 0 0 0) :=
  rX7_inside_108 (Nat.le_of_ble_eq_true rfl) rfl (gX7_inside_0_3 x1 x2 x3 x4 x5 n B M h1 h2 h3 h4 h5 h6 h7 h8 h9 h10)
theorem dX7_inside_p4 (x1 : Int32) (x2 : Int32) (x3 : Int32) (x4 : Int32) (x5 : Int32) (n : Nat) (B : Nat → Nat → Nat → Bool) (M : pt_M) (h1 : aT_P (pt_wF M 7 0 0 0) x1 x2 x3 x4) (h2 : aT_P (pt_wF M 7 0 0 0) x1 x2 x3 x5) (h3 : ¬ x5 = x4) (h4 : tq_P (pt_wF M 7 0 0 0) (120 * x1) x2 x3 x4 n B) (h5 : tq_P (pt_wF M 7 0 0 0) (120 * x1) x2 x3 x5 n B) (h6 : (ta_I B x2 x3 x5) = (ta_I B x2 x3 x4)) (h7 : tq_P (pt_wF M 7 0 0 0) (120 * x1) x3 x4 x5 n B) (h8 : ¬ (ta_I B x3 x4 x5) = (ta_I B x2 x3 x4)) : pt_Does yX7_inside YX7_inside [pt_r 7 0, pt_i x1, pt_i x2, pt_i x3, pt_i x4, pt_i x5] M (some (pt_i 0)) (pt_wF M 7 0 0 0) :=
  rX7_inside_108 (Nat.le_of_ble_eq_true rfl) rfl (gX7_inside_0_4 x1 x2 x3 x4 x5 n B M h1 h2 h3 h4 h5 h6 h7 h8)
theorem dX7_inside_p5 (x1 : Int32) (x2 : Int32) (x3 : Int32) (x4 : Int32) (x5 : Int32) (n : Nat) (B : Nat → Nat → Nat → Bool) (M : pt_M) (h1 : aT_P (pt_wF M 7 0 0 0) x1 x2 x3 x4) (h2 : aT_P (pt_wF M 7 0 0 0) x1 x2 x3 x5) (h3 : ¬ x5 = x4) (h4 : tq_P (pt_wF M 7 0 0 0) (120 * x1) x2 x3 x4 n B) (h5 : tq_P (pt_wF M 7 0 0 0) (120 * x1) x2 x3 x5 n B) (h6 : ¬ (ta_I B x2 x3 x5) = (ta_I B x2 x3 x4)) : pt_Does yX7_inside YX7_inside [pt_r 7 0, pt_i x1, pt_i x2, pt_i x3, pt_i x4, pt_i x5] M (some (pt_i 0)) (pt_wF M 7 0 0 0) :=
  rX7_inside_108 (Nat.le_of_ble_eq_true rfl) rfl (gX7_inside_0_5 x1 x2 x3 x4 x5 n B M h1 h2 h3 h4 h5 h6)
theorem dX7_inside_p6 (x1 : Int32) (x2 : Int32) (x3 : Int32) (x4 : Int32) (x5 : Int32) (n : Nat) (B : Nat → Nat → Nat → Bool) (M : pt_M) (h1 : aT_P (pt_wF M 7 0 0 0) x1 x2 x3 x4) (h2 : aN_P (pt_wF M 7 0 0 0) x1 x2 x3 x5) : pt_Does yX7_inside YX7_inside [pt_r 7 0, pt_i x1, pt_i x2, pt_i x3, pt_i x4, pt_i x5] M (some (pt_i (-1))) (pt_wF M 7 0 0 0) :=
  rX7_inside_37 (Nat.le_of_ble_eq_true rfl) rfl (gX7_inside_0_6 x1 x2 x3 x4 x5 n B M h1 h2)
theorem dX7_inside_p7 (x1 : Int32) (x2 : Int32) (x3 : Int32) (x4 : Int32) (x5 : Int32) (n : Nat) (B : Nat → Nat → Nat → Bool) (M : pt_M) (h1 : aN_P (pt_wF M 7 0 0 0) x1 x2 x3 x4) : pt_Does yX7_inside YX7_inside [pt_r 7 0, pt_i x1, pt_i x2, pt_i x3, pt_i x4, pt_i x5] M (some (pt_i (-1))) (pt_wF M 7 0 0 0) :=
  rX7_inside_37 (Nat.le_of_ble_eq_true rfl) rfl (gX7_inside_0_7 x1 x2 x3 x4 x5 n B M h1)
theorem op_inside {M : pt_M} (h : IV_P M) (x i j k p : Int32) : op_P yX6_inside YX6_inside yX7_inside YX7_inside [pt_i x, pt_i i, pt_i j, pt_i k, pt_i p] M := by
  obtain ⟨A, hC, hM⟩ := h
  have zB : Nat → Nat → Nat → Bool := fun _ _ _ => false
  rcases lw_case hC x with ⟨h1, h2⟩ | ⟨s, hs, rfl, hn⟩
  · exact op_of hC hM (A' := A) (M2 := t0_M M) (dX6_inside_p10 x i j k p M h1) mo_P.rf hC fun hM => ⟨dX7_inside_p7 x i j k p 0 zB M (Or.inl (h2 M hM)), t0_ca, hM⟩
  obtain ⟨q1, q2, q3, q4, q5, q6⟩ := CR_y hC hs hn
  have e : pt_nt (nI s) = s := pt_nt_nI (by omega)
  have hr : pt_R M (pt_nt (nI s) + 1) < 7 := by rw [e]; exact hC.2.1 _ (by omega)
  have hsz : pt_F M 3 0 (pt_R M (pt_nt (nI s) + 1)) = nI (iv_N A s) := by rw [e]; exact q4.2.2.1
  by_cases hg : g3_P (iv_N A s) i j k
  case neg => exact op_of hC hM (A' := A) (M2 := t0_M M) (dX6_inside_p9 (nI s) i j k p M q3 hr (fun z => hg ((ht_g3 q2 hsz).mp z))) mo_P.rf hC fun hM => ⟨dX7_inside_p7 (nI s) i j k p 0 zB M (MR_F hM hs hn hg), t0_ca, hM⟩
  have hht := (ht_g3 (t := pt_R M (pt_nt (nI s) + 1)) q2 hsz).mpr hg
  have hg0 := hg
  by_cases hp : hp_P M (pt_R M (pt_nt (nI s) + 1)) p
  case neg =>
    refine op_of hC hM (A' := A) (M2 := t0_M M) (dX6_inside_p8 (nI s) i j k p M q3 hr hht hp) mo_P.rf hC fun hM => ⟨dX7_inside_p6 (nI s) i j k p 0 zB M (MR_T hM hs hn hg) (MR_F hM hs hn fun z => hp ?_), t0_ca, hM⟩
    exact ((ht_g3 q2 hsz).mpr z).2.2.1
  have hp0 := hp
  unfold hp_P at hp
  rw [hsz] at hp
  obtain ⟨d, hd, rfl⟩ := hp_of q2 hp.1 hp.2
  obtain ⟨a, b, c, rfl, rfl, rfl, ha, hb, hc, d1, d2, d3⟩ := hg
  by_cases ea : d = a
  · exact op_of hC hM (A' := A) (M2 := t0_M M) (dX6_inside_p7 (nI s) (nI a) (nI b) (nI c) (nI d) M q3 hr hht hp0 (by rw [ea])) mo_P.rf hC fun hM => ⟨dX7_inside_p6 (nI s) (nI a) (nI b) (nI c) (nI d) 0 zB M (MR_T hM hs hn hg0) (MR_F hM hs hn fun z => by
      obtain ⟨a', b', c', r1, r2, r3, l1, l2, l3, w1, w2, w3⟩ := z
      rw [nI_eq (by omega) (by omega)] at r1 r2 r3
      omega), t0_ca, hM⟩
  have ea' := nI_nE ea (show d < 2 ^ 31 by omega) (show a < 2 ^ 31 by omega)
  by_cases eb : d = b
  · exact op_of hC hM (A' := A) (M2 := t0_M M) (dX6_inside_p6 (nI s) (nI a) (nI b) (nI c) (nI d) M q3 hr hht hp0 ea' (by rw [eb])) mo_P.rf hC fun hM => ⟨dX7_inside_p6 (nI s) (nI a) (nI b) (nI c) (nI d) 0 zB M (MR_T hM hs hn hg0) (MR_F hM hs hn fun z => by
      obtain ⟨a', b', c', r1, r2, r3, l1, l2, l3, w1, w2, w3⟩ := z
      rw [nI_eq (by omega) (by omega)] at r1 r2 r3
      omega), t0_ca, hM⟩
  have eb' := nI_nE eb (show d < 2 ^ 31 by omega) (show b < 2 ^ 31 by omega)
  have hgp : g3_P (iv_N A s) (nI a) (nI b) (nI d) := ⟨a, b, d, rfl, rfl, rfl, ha, hb, hd, d1, fun z => eb z.symm, fun z => ea z.symm⟩
  by_cases ec : d = c
  · exact op_of hC hM (A' := A) (M2 := t0_M M) (dX6_inside_p1 (nI s) (nI a) (nI b) (nI c) (nI d) M q3 hr hht hp0 ea' eb' (by rw [ec])) mo_P.rf hC fun hM => ⟨dX7_inside_p1 (nI s) (nI a) (nI b) (nI c) (nI d) 0 zB M (MR_T hM hs hn hg0) (MR_T hM hs hn hgp) (by rw [ec]), t0_ca, hM⟩
  have ec' := nI_nE ec (show d < 2 ^ 31 by omega) (show c < 2 ^ 31 by omega)
  have i10 : ∀ u, u < iv_N A s → pt_in (nI u) 10 := fun u hu => pt_in_nI (by omega) (by decide)
  have lb : ∀ u v w, u < iv_N A s → v < iv_N A s → w < iv_N A s → lb_F M (pt_R M (pt_nt (nI s) + 1)) (nI u) (nI v) (nI w) = pt_b (iv_B A s u v w) := fun u v w hu hv hw => by
    rw [e]
    exact lb_B q4.2.2.2 (by omega) (by omega) (by omega)
  have b0 := lb a b c ha hb hc
  have b1 := lb a b d ha hb hd
  have b2 := lb b c d hb hc hd
  have b3 := lb c a d hc ha hd
  have ta : ∀ u v w, u < iv_N A s → v < iv_N A s → w < iv_N A s → ta_I (iv_B A s) (nI u) (nI v) (nI w) = tv_F (iv_B A s u v w) := fun u v w hu hv hw => ta_nI (by omega) (by omega) (by omega)
  have t0 := ta a b c ha hb hc
  have t1 := ta a b d ha hb hd
  have t2 := ta b c d hb hc hd
  have t3 := ta c a d hc ha hd
  have tq : MR_P M A → ∀ u v w, u < iv_N A s → v < iv_N A s → w < iv_N A s → u ≠ v → v ≠ w → u ≠ w → tq_P (pt_wF M 7 0 0 0) (120 * nI s) (nI u) (nI v) (nI w) (iv_N A s) (iv_B A s) := fun hM u v w hu hv hw g1 g2 g3 => by
    rw [m120]
    exact tq_of (ml_A (MR_y hM hs hn).2.2 rfl) hu hv hw g1 g2 g3
  have k0 : MR_P M A → tq_P (pt_wF M 7 0 0 0) (120 * nI s) (nI a) (nI b) (nI c) (iv_N A s) (iv_B A s) := fun hM => tq hM a b c ha hb hc d1 d2 d3
  have k1 : MR_P M A → tq_P (pt_wF M 7 0 0 0) (120 * nI s) (nI a) (nI b) (nI d) (iv_N A s) (iv_B A s) := fun hM => tq hM a b d ha hb hd d1 (fun z => eb z.symm) (fun z => ea z.symm)
  have k2 : MR_P M A → tq_P (pt_wF M 7 0 0 0) (120 * nI s) (nI b) (nI c) (nI d) (iv_N A s) (iv_B A s) := fun hM => tq hM b c d hb hc hd d2 (fun z => ec z.symm) (fun z => eb z.symm)
  have k3 : MR_P M A → tq_P (pt_wF M 7 0 0 0) (120 * nI s) (nI c) (nI a) (nI d) (iv_N A s) (iv_B A s) := fun hM => tq hM c a d hc ha hd (fun z => d3 z.symm) (fun z => ea z.symm) (fun z => ec z.symm)
  by_cases v1 : iv_B A s a b d = iv_B A s a b c
  case neg => exact op_of hC hM (A' := A) (M2 := t0_M M) (dX6_inside_p5 (nI s) (nI a) (nI b) (nI c) (nI d) M q3 hr hht hp0 ea' eb' ec' (i10 a ha) (i10 b hb) (by rw [b1, b0, pt_b_eq]; exact v1)) mo_P.rf hC fun hM => ⟨dX7_inside_p5 (nI s) (nI a) (nI b) (nI c) (nI d) (iv_N A s) (iv_B A s) M (MR_T hM hs hn hg0) (MR_T hM hs hn hgp) ec' (k0 hM) (k1 hM) (by rw [t1, t0, tv_eq]; exact v1), t0_ca, hM⟩
  by_cases v2 : iv_B A s b c d = iv_B A s a b c
  case neg => exact op_of hC hM (A' := A) (M2 := t0_M M) (dX6_inside_p4 (nI s) (nI a) (nI b) (nI c) (nI d) M q3 hr hht hp0 ea' eb' ec' (i10 a ha) (i10 b hb) (by rw [b1, b0, v1]) (i10 c hc) (by rw [b2, b0, pt_b_eq]; exact v2)) mo_P.rf hC fun hM => ⟨dX7_inside_p4 (nI s) (nI a) (nI b) (nI c) (nI d) (iv_N A s) (iv_B A s) M (MR_T hM hs hn hg0) (MR_T hM hs hn hgp) ec' (k0 hM) (k1 hM) (by rw [t1, t0, v1]) (k2 hM) (by rw [t2, t0, tv_eq]; exact v2), t0_ca, hM⟩
  by_cases v3 : iv_B A s c a d = iv_B A s a b c
  · exact op_of hC hM (A' := A) (M2 := t0_M M) (dX6_inside_p2 (nI s) (nI a) (nI b) (nI c) (nI d) M q3 hr hht hp0 ea' eb' ec' (i10 a ha) (i10 b hb) (by rw [b1, b0, v1]) (i10 c hc) (by rw [b2, b0, v2]) (by rw [b3, b0, v3])) mo_P.rf hC fun hM => ⟨dX7_inside_p2 (nI s) (nI a) (nI b) (nI c) (nI d) (iv_N A s) (iv_B A s) M (MR_T hM hs hn hg0) (MR_T hM hs hn hgp) ec' (k0 hM) (k1 hM) (by rw [t1, t0, v1]) (k2 hM) (by rw [t2, t0, v2]) (k3 hM) (by rw [t3, t0, v3]), t0_ca, hM⟩
  · exact op_of hC hM (A' := A) (M2 := t0_M M) (dX6_inside_p3 (nI s) (nI a) (nI b) (nI c) (nI d) M q3 hr hht hp0 ea' eb' ec' (i10 a ha) (i10 b hb) (by rw [b1, b0, v1]) (i10 c hc) (by rw [b2, b0, v2]) (by rw [b3, b0, pt_b_eq]; exact v3)) mo_P.rf hC fun hM => ⟨dX7_inside_p3 (nI s) (nI a) (nI b) (nI c) (nI d) (iv_N A s) (iv_B A s) M (MR_T hM hs hn hg0) (MR_T hM hs hn hgp) ec' (k0 hM) (k1 hM) (by rw [t1, t0, v1]) (k2 hM) (by rw [t2, t0, v2]) (k3 hM) (by rw [t3, t0, tv_eq]; exact v3), t0_ca, hM⟩
