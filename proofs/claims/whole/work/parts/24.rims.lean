/-! Rims: sets of points as bits -/
def pc_F (m : Nat) : Nat := ((List.range 10).filter fun k => m.testBit k).length
set_option maxRecDepth 100000 in
theorem bc_tab : ((List.range 1024).all fun m => decide (bc_F (nI m) = nI (pc_F m))) = true := by decide +kernel
theorem bc_nI {m : Nat} (h : m < 1024) : bc_F (nI m) = nI (pc_F m) := of_decide_eq_true (pt_all bc_tab h)
theorem pc_le (m : Nat) : pc_F m ≤ 10 := by
  unfold pc_F
  exact Nat.le_trans (List.length_filter_le _ _) (by simp)
def an_F (a b : Nat) : Nat := a &&& (b ^^^ (2 ^ 32 - 1))
theorem an_bit (a b k : Nat) (hk : k < 32) : (an_F a b).testBit k = (a.testBit k && !b.testBit k) := by
  unfold an_F
  rw [Nat.testBit_and, Nat.testBit_xor, Nat.testBit_two_pow_sub_one]
  simp [hk]
theorem an_le (a b : Nat) : an_F a b ≤ a := Nat.and_le_left
theorem an_nI (a b : Nat) : nI a &&& (nI b ^^^ (-1)) = nI (an_F a b) := by
  rw [show (-1 : Int32) = nI (2 ^ 32 - 1) from rfl, pt_xor, pt_and]
  rfl
theorem in_nI {m i : Nat} (hm : m < 1024) (hi : i < 10) : in_P (nI m) (nI i) ↔ m.testBit i = true := pt_bit1 (by omega) (by omega)
theorem nI_m1 {j : Nat} (h : j < 2 ^ 31) : ¬ nI j = -1 := fun z => nI_pos h (by rw [z]; decide)
/-- whether j is NEXT to i among the set m -/
def nq_F (B : Nat → Nat → Nat → Bool) (m i j : Nat) : Bool := decide (j ≠ i) && (m.testBit j && (List.range 10).all fun k => decide (k = i) || (decide (k = j) || (!m.testBit k || B i j k)))
def nx_F (n : Nat) (B : Nat → Nat → Nat → Bool) (m i : Nat) : Option Nat := fs_F (n - 0) 0 fun j => if nq_F B m i j then some j else none
def nx_I (n : Nat) (B : Nat → Nat → Nat → Bool) (s i : Int32) : Int32 := match nx_F n B (pt_nt s) (pt_nt i) with
  | some j => nI j
  | none => -1
def sn_P (s i : Int32) (n : Nat) : Prop := ∃ m a, s = nI m ∧ i = nI a ∧ m < 1024 ∧ a < n
def st_P (s : Int32) (n : Nat) : Prop := ∃ m, s = nI m ∧ m < 1024
theorem nx_lt {n : Nat} {B : Nat → Nat → Nat → Bool} {m i j : Nat} (h : nx_F n B m i = some j) : j < n ∧ nq_F B m i j = true := by
  refine fs_lt (P := fun j => j < n ∧ nq_F B m i j = true) (fun a w h1 h2 h3 => ?_) h
  split at h3
  · rename_i hq
    cases h3
    exact ⟨by omega, hq⟩
  · cases h3
theorem nx_nI {n m i : Nat} {B : Nat → Nat → Nat → Bool} (hm : m < 1024) (hi : i < 2 ^ 31) : nx_I n B (nI m) (nI i) = match nx_F n B m i with
  | some j => nI j
  | none => -1 := by
  unfold nx_I
  rw [pt_nt_nI (by omega), pt_nt_nI hi]
theorem nx_eq {n m i : Nat} {B : Nat → Nat → Nat → Bool} (hn : n ≤ 10) (hm : m < 1024) (hi : i < 2 ^ 31) : nx_I n B (nI m) (nI i) = -1 ↔ (nx_F n B m i).isSome = false := by
  rw [nx_nI hm hi]
  cases h : nx_F n B m i with
  | none => simp
  | some j =>
    have := (nx_lt h).1
    simp only [Option.isSome_some, Bool.true_eq_false, iff_false]
    exact nI_m1 (by omega)
theorem nx_c {m i j : Nat} {p : Nat → Bool} (hm : m < 1024) (hi : i < 10) (hj : j < 10) : ((nI m &&& ((((1 : Int32) <<< (nI i &&& 31)) ||| ((1 : Int32) <<< (nI j &&& 31))) ^^^ (-1))) &&& ((nI (pb_s 10 p)) ^^^ (-1))) = 0 ↔ ((List.range 10).all fun k => decide (k = i) || (decide (k = j) || (!m.testBit k || p k))) = true := by
  rw [pt_shl1 i (by omega), pt_shl1 j (by omega), pt_or, an_nI, an_nI]
  have h1 : an_F (an_F m (2 ^ i ||| 2 ^ j)) (pb_s 10 p) < 1024 := Nat.lt_of_le_of_lt (an_le _ _) (Nat.lt_of_le_of_lt (an_le _ _) hm)
  rw [nI_0' (by omega), List.all_eq_true]
  constructor
  · intro h k hk
    have hk' : k < 10 := List.mem_range.mp hk
    have h2 : (an_F (an_F m (2 ^ i ||| 2 ^ j)) (pb_s 10 p)).testBit k = false := by rw [h]; simp
    rw [an_bit _ _ _ (by omega), an_bit _ _ _ (by omega), Nat.testBit_or, Nat.testBit_two_pow, Nat.testBit_two_pow, pb_bit] at h2
    by_cases e1 : k = i
    · simp [e1]
    by_cases e2 : k = j
    · simp [e2]
    have e3 : ¬ i = k := fun z => e1 z.symm
    have e4 : ¬ j = k := fun z => e2 z.symm
    simp only [e3, e4, hk', decide_false, decide_true, Bool.or_false, Bool.not_false, Bool.and_true, Bool.true_and] at h2
    simp only [e1, e2, decide_false, Bool.false_or]
    cases hmk : m.testBit k <;> cases hpk : p k <;> simp_all
  · intro h
    apply pb_ext (n := 10) h1 (by decide)
    intro k hk
    have h2 := h k (List.mem_range.mpr hk)
    rw [an_bit _ _ _ (by omega), an_bit _ _ _ (by omega), Nat.testBit_or, Nat.testBit_two_pow, Nat.testBit_two_pow, pb_bit]
    by_cases e1 : k = i
    · subst e1
      simp
    by_cases e2 : k = j
    · subst e2
      simp
    simp only [e1, e2, decide_false, Bool.false_or] at h2
    cases hmk : m.testBit k <;> cases hpk : p k <;> simp_all
theorem rX2_leastOf_19 {vs : List pt_V} {M M' : pt_M} {x : Int32} {L : List (Nat × pt_V)} (hvs : (vs.map pt_w).sum ≤ 3) (hX : M'.2.2.2.2 = M.2.2.2.2) (h : pt_Go YX2_leastOf (0, pt_en 0 vs, [], M) (19, L, [pt_i x], M')) : pt_Does yX2_leastOf YX2_leastOf vs M (some (pt_i x)) M' := pt_does_go tX2_leastOf_ok nX2_leastOf hvs hX ⟨_, by with_unfolding_all rfl, rfl, _, rfl, rfl⟩ h
theorem rX2_leastOf_27 {vs : List pt_V} {M M' : pt_M} {x : Int32} {L : List (Nat × pt_V)} (hvs : (vs.map pt_w).sum ≤ 3) (hX : M'.2.2.2.2 = M.2.2.2.2) (h : pt_Go YX2_leastOf (0, pt_en 0 vs, [], M) (27, L, [pt_i x], M')) : pt_Does yX2_leastOf YX2_leastOf vs M (some (pt_i x)) M' := pt_does_go tX2_leastOf_ok nX2_leastOf hvs hX ⟨_, by with_unfolding_all rfl, rfl, _, rfl, rfl⟩ h
set_option maxRecDepth 100000 in
theorem gX2_leastOf_0_1 (t : Nat) (x2 : Int32)  (M : pt_M) :
    pt_Go YX2_leastOf (0, [(0, pt_r 3 t), (1, pt_i x2)], [], M)
      (2, [(0, pt_r 3 t), (1, pt_i x2), (2, pt_i 0)], [], M) :=
  pt_run_ok tX2_leastOf_ok 2 [] (P := True) (by with_unfolding_all rfl) trivial
set_option maxRecDepth 100000 in
theorem gX2_leastOf_2_1 (t : Nat) (l1 : Int32) (l2 : Int32)  (M : pt_M) (h1 : t < 7) (h2 : ¬ (pt_F M 3 0 t) ≤ l2) (h3 : in_P l1 l2) :
    pt_Go YX2_leastOf (2, [(0, pt_r 3 t), (1, pt_i l1), (2, pt_i l2)], [], M)
      (19, [(0, pt_r 3 t), (1, pt_i l1), (2, pt_i l2)], [pt_i l2], M) :=
  pt_run_ok tX2_leastOf_ok 9 [.inl false, .inr (2, some (pt_i 1), M), .inl false] (P := (t < 7) ∧ (¬ (pt_F M 3 0 t) ≤ l2) ∧ pt_Cal YX2_leastOf (.invokestatic 15) [pt_i l1, pt_i l2] M (some (pt_i 1)) M ∧ (¬ (1 : Int32) = (0 : Int32)) ∧ True) (by with_unfolding_all rfl) ⟨h1, h2, (pt_callS kX2_leastOf_15 mX2_isIn rfl (dX2_isIn_1 h3)), (by decide), trivial⟩
set_option maxRecDepth 100000 in
theorem gX2_leastOf_2_2 (t : Nat) (l1 : Int32) (l2 : Int32)  (M : pt_M) (h1 : t < 7) (h2 : ¬ (pt_F M 3 0 t) ≤ l2) (h3 : ¬ in_P l1 l2) :
    pt_Go YX2_leastOf (2, [(0, pt_r 3 t), (1, pt_i l1), (2, pt_i l2)], [], M)
      (2, [(0, pt_r 3 t), (1, pt_i l1), (2, pt_i (l2 + 1))], [], M) :=
  pt_run_ok tX2_leastOf_ok 10 [.inl false, .inr (2, some (pt_i 0), M), .inl true] (P := (t < 7) ∧ (¬ (pt_F M 3 0 t) ≤ l2) ∧ pt_Cal YX2_leastOf (.invokestatic 15) [pt_i l1, pt_i l2] M (some (pt_i 0)) M ∧ ((0 : Int32) = (0 : Int32)) ∧ True) (by with_unfolding_all rfl) ⟨h1, h2, (pt_callS kX2_leastOf_15 mX2_isIn rfl (dX2_isIn_0 h3)), (by decide), trivial⟩
set_option maxRecDepth 100000 in
theorem gX2_leastOf_2_3 (t : Nat) (l1 : Int32) (l2 : Int32)  (M : pt_M) (h1 : t < 7) (h2 : (pt_F M 3 0 t) ≤ l2) :
    pt_Go YX2_leastOf (2, [(0, pt_r 3 t), (1, pt_i l1), (2, pt_i l2)], [], M)
      (27, [(0, pt_r 3 t), (1, pt_i l1), (2, pt_i l2)], [pt_i (-1)], M) :=
  pt_run_ok tX2_leastOf_ok 5 [.inl true] (P := (t < 7) ∧ ((pt_F M 3 0 t) ≤ l2) ∧ True) (by with_unfolding_all rfl) ⟨h1, h2, trivial⟩
def le_F (n m : Nat) : Option Nat := fs_F (n - 0) 0 fun p => if m.testBit p then some p else none
theorem dX2_leastOf {t n m : Nat} {B : Nat → Nat → Nat → Bool} {M : pt_M} (h : tb_P M t n B) (hm : m < 1024) : (∀ p, le_F n m = some p → pt_Does yX2_leastOf YX2_leastOf [pt_r 3 t, pt_i (nI m)] M (some (pt_i (nI p))) M) ∧ (le_F n m = none → pt_Does yX2_leastOf YX2_leastOf [pt_r 3 t, pt_i (nI m)] M (some (pt_i (-1))) M) := by
  obtain ⟨ht, hn, hs, hB⟩ := h
  have hlt : ∀ i, i < n → ¬ pt_F M 3 0 t ≤ nI i := fun i hi => by rw [hs]; exact nI_ge hi (by omega)
  have hle : pt_F M 3 0 t ≤ nI n := by rw [hs]; exact Int32.le_refl _
  have K := pt_nest (Y := YX2_leastOf) (σ := (0, [(0, pt_r 3 t), (1, pt_i (nI m))], [], M)) (τ := (27, [], [pt_i (-1)], M)) (R := fun v => (19, [], [pt_i (nI v)], M)) (n := n) (i := 0)
    (S := fun a => (2, [(0, pt_r 3 t), (1, pt_i (nI m)), (2, pt_i (nI a))], [], M)) (f := fun p => if m.testBit p then some p else none)
    (Nat.zero_le n) (gX2_leastOf_0_1 t (nI m) M) ((gX2_leastOf_2_3 t (nI m) (nI n) M ht hle).tr pt_dropA) fun a _ ha => by
      have hin := in_nI (i := a) hm (by omega)
      cases hv : m.testBit a
      · exact ⟨fun v z => by simp at z, fun _ => (gX2_leastOf_2_2 t (nI m) (nI a) M ht (hlt a ha) (fun z => by rw [hin, hv] at z; cases z)).to (by rw [nI_1])⟩
      · refine ⟨fun v z => ?_, fun z => by simp at z⟩
        simp only [if_true, Option.some.injEq] at z
        subst z
        exact (gX2_leastOf_2_1 t (nI m) (nI a) M ht (hlt a ha) (hin.mpr hv)).tr pt_dropA
  exact ⟨fun p hp => rX2_leastOf_19 (Nat.le_of_ble_eq_true rfl) rfl (K.1 p hp), fun hp => rX2_leastOf_27 (Nat.le_of_ble_eq_true rfl) rfl (K.2 hp)⟩
theorem rX2_nextTo_51 {vs : List pt_V} {M M' : pt_M} {x : Int32} {L : List (Nat × pt_V)} (hvs : (vs.map pt_w).sum ≤ 5) (hX : M'.2.2.2.2 = M.2.2.2.2) (h : pt_Go YX2_nextTo (0, pt_en 0 vs, [], M) (51, L, [pt_i x], M')) : pt_Does yX2_nextTo YX2_nextTo vs M (some (pt_i x)) M' := pt_does_go tX2_nextTo_ok nX2_nextTo hvs hX ⟨_, by with_unfolding_all rfl, rfl, _, rfl, rfl⟩ h
theorem rX2_nextTo_59 {vs : List pt_V} {M M' : pt_M} {x : Int32} {L : List (Nat × pt_V)} (hvs : (vs.map pt_w).sum ≤ 5) (hX : M'.2.2.2.2 = M.2.2.2.2) (h : pt_Go YX2_nextTo (0, pt_en 0 vs, [], M) (59, L, [pt_i x], M')) : pt_Does yX2_nextTo YX2_nextTo vs M (some (pt_i x)) M' := pt_does_go tX2_nextTo_ok nX2_nextTo hvs hX ⟨_, by with_unfolding_all rfl, rfl, _, rfl, rfl⟩ h
set_option maxRecDepth 100000 in
theorem gX2_nextTo_0_1 (t : Nat) (x2 : Int32) (x3 : Int32)  (M : pt_M) :
    pt_Go YX2_nextTo (0, [(0, pt_r 3 t), (1, pt_i x2), (2, pt_i x3)], [], M)
      (2, [(0, pt_r 3 t), (1, pt_i x2), (2, pt_i x3), (3, pt_i 0)], [], M) :=
  pt_run_ok tX2_nextTo_ok 2 [] (P := True) (by with_unfolding_all rfl) trivial
set_option maxRecDepth 100000 in
theorem gX2_nextTo_2_1 (t : Nat) (l1 : Int32) (l2 : Int32) (l3 : Int32)  (M : pt_M) (h1 : t < 7) (h2 : ¬ (pt_F M 3 0 t) ≤ l3) (h3 : ¬ l3 = l2) (h4 : in_P l1 l3) (h5 : pt_in l2 10) (h6 : pt_in l3 10) (h7 : ((l1 &&& ((((1 : Int32) <<< (l2 &&& 31)) ||| ((1 : Int32) <<< (l3 &&& 31))) ^^^ (-1))) &&& ((lo_F M t l2 l3) ^^^ (-1))) = 0) :
    pt_Go YX2_nextTo (2, [(0, pt_r 3 t), (1, pt_i l1), (2, pt_i l2), (3, pt_i l3)], [], M)
      (51, [(0, pt_r 3 t), (1, pt_i l1), (2, pt_i l2), (3, pt_i l3), (4, pt_i (l1 &&& ((((1 : Int32) <<< (l2 &&& 31)) ||| ((1 : Int32) <<< (l3 &&& 31))) ^^^ (-1))))], [pt_i l3], M) :=
  pt_run_ok tX2_nextTo_ok 33 [.inl false, .inl false, .inr (2, some (pt_i 1), M), .inl false, .inr (3, some (pt_i (lo_F M t l2 l3)), M), .inl false] (P := (t < 7) ∧ (¬ (pt_F M 3 0 t) ≤ l3) ∧ (¬ l3 = l2) ∧ pt_Cal YX2_nextTo (.invokestatic 15) [pt_i l1, pt_i l3] M (some (pt_i 1)) M ∧ (¬ (1 : Int32) = (0 : Int32)) ∧ pt_Cal YX2_nextTo (.invokevirtual 21) [pt_r 3 t, pt_i l2, pt_i l3] M (some (pt_i (lo_F M t l2 l3))) M ∧ (((l1 &&& ((((1 : Int32) <<< (l2 &&& 31)) ||| ((1 : Int32) <<< (l3 &&& 31))) ^^^ (-1))) &&& ((lo_F M t l2 l3) ^^^ (-1))) = 0) ∧ True) (by with_unfolding_all rfl) ⟨h1, h2, h3, (pt_callS kX2_nextTo_15 mX2_isIn rfl (dX2_isIn_1 h4)), (by decide), (pt_callV (i := t) kX2_nextTo_21 mX4_leftOf rfl h1 rfl (dX4_leftOf_v h1 h5 h6)), h7, trivial⟩
set_option maxRecDepth 100000 in
theorem gX2_nextTo_2_2 (t : Nat) (l1 : Int32) (l2 : Int32) (l3 : Int32)  (M : pt_M) (h1 : t < 7) (h2 : ¬ (pt_F M 3 0 t) ≤ l3) (h3 : ¬ l3 = l2) (h4 : in_P l1 l3) (h5 : pt_in l2 10) (h6 : pt_in l3 10) (h7 : ¬ ((l1 &&& ((((1 : Int32) <<< (l2 &&& 31)) ||| ((1 : Int32) <<< (l3 &&& 31))) ^^^ (-1))) &&& ((lo_F M t l2 l3) ^^^ (-1))) = 0) :
    pt_Go YX2_nextTo (2, [(0, pt_r 3 t), (1, pt_i l1), (2, pt_i l2), (3, pt_i l3)], [], M)
      (2, [(0, pt_r 3 t), (1, pt_i l1), (2, pt_i l2), (3, pt_i (l3 + 1))], [], M) :=
  (pt_run_ok tX2_nextTo_ok 34 [.inl false, .inl false, .inr (2, some (pt_i 1), M), .inl false, .inr (3, some (pt_i (lo_F M t l2 l3)), M), .inl true] (P := (t < 7) ∧ (¬ (pt_F M 3 0 t) ≤ l3) ∧ (¬ l3 = l2) ∧ pt_Cal YX2_nextTo (.invokestatic 15) [pt_i l1, pt_i l3] M (some (pt_i 1)) M ∧ (¬ (1 : Int32) = (0 : Int32)) ∧ pt_Cal YX2_nextTo (.invokevirtual 21) [pt_r 3 t, pt_i l2, pt_i l3] M (some (pt_i (lo_F M t l2 l3))) M ∧ (¬ ((l1 &&& ((((1 : Int32) <<< (l2 &&& 31)) ||| ((1 : Int32) <<< (l3 &&& 31))) ^^^ (-1))) &&& ((lo_F M t l2 l3) ^^^ (-1))) = 0) ∧ True) (by with_unfolding_all rfl) ⟨h1, h2, h3, (pt_callS kX2_nextTo_15 mX2_isIn rfl (dX2_isIn_1 h4)), (by decide), (pt_callV (i := t) kX2_nextTo_21 mX4_leftOf rfl h1 rfl (dX4_leftOf_v h1 h5 h6)), h7, trivial⟩ : pt_Go YX2_nextTo _ (2, [(0, pt_r 3 t), (1, pt_i l1), (2, pt_i l2), (3, pt_i (l3 + 1)), (4, pt_i (l1 &&& ((((1 : Int32) <<< (l2 &&& 31)) ||| ((1 : Int32) <<< (l3 &&& 31))) ^^^ (-1))))], [], M)).tr (pt_pick [0, 1, 2, 3] (by with_unfolding_all rfl))
set_option maxRecDepth 100000 in
theorem gX2_nextTo_2_3 (t : Nat) (l1 : Int32) (l2 : Int32) (l3 : Int32)  (M : pt_M) (h1 : t < 7) (h2 : ¬ (pt_F M 3 0 t) ≤ l3) (h3 : ¬ l3 = l2) (h4 : ¬ in_P l1 l3) :
    pt_Go YX2_nextTo (2, [(0, pt_r 3 t), (1, pt_i l1), (2, pt_i l2), (3, pt_i l3)], [], M)
      (2, [(0, pt_r 3 t), (1, pt_i l1), (2, pt_i l2), (3, pt_i (l3 + 1))], [], M) :=
  pt_run_ok tX2_nextTo_ok 13 [.inl false, .inl false, .inr (2, some (pt_i 0), M), .inl true] (P := (t < 7) ∧ (¬ (pt_F M 3 0 t) ≤ l3) ∧ (¬ l3 = l2) ∧ pt_Cal YX2_nextTo (.invokestatic 15) [pt_i l1, pt_i l3] M (some (pt_i 0)) M ∧ ((0 : Int32) = (0 : Int32)) ∧ True) (by with_unfolding_all rfl) ⟨h1, h2, h3, (pt_callS kX2_nextTo_15 mX2_isIn rfl (dX2_isIn_0 h4)), (by decide), trivial⟩
set_option maxRecDepth 100000 in
theorem gX2_nextTo_2_4 (t : Nat) (l1 : Int32) (l2 : Int32) (l3 : Int32)  (M : pt_M) (h1 : t < 7) (h2 : ¬ (pt_F M 3 0 t) ≤ l3) (h3 : l3 = l2) :
    pt_Go YX2_nextTo (2, [(0, pt_r 3 t), (1, pt_i l1), (2, pt_i l2), (3, pt_i l3)], [], M)
      (2, [(0, pt_r 3 t), (1, pt_i l1), (2, pt_i l2), (3, pt_i (l3 + 1))], [], M) :=
  pt_run_ok tX2_nextTo_ok 9 [.inl false, .inl true] (P := (t < 7) ∧ (¬ (pt_F M 3 0 t) ≤ l3) ∧ (l3 = l2) ∧ True) (by with_unfolding_all rfl) ⟨h1, h2, h3, trivial⟩
set_option maxRecDepth 100000 in
theorem gX2_nextTo_2_5 (t : Nat) (l1 : Int32) (l2 : Int32) (l3 : Int32)  (M : pt_M) (h1 : t < 7) (h2 : (pt_F M 3 0 t) ≤ l3) :
    pt_Go YX2_nextTo (2, [(0, pt_r 3 t), (1, pt_i l1), (2, pt_i l2), (3, pt_i l3)], [], M)
      (59, [(0, pt_r 3 t), (1, pt_i l1), (2, pt_i l2), (3, pt_i l3)], [pt_i (-1)], M) :=
  pt_run_ok tX2_nextTo_ok 5 [.inl true] (P := (t < 7) ∧ ((pt_F M 3 0 t) ≤ l3) ∧ True) (by with_unfolding_all rfl) ⟨h1, h2, trivial⟩
theorem dX2_nextTo {t n : Nat} {s i : Int32} {B : Nat → Nat → Nat → Bool} {M : pt_M} (h : tb_P M t n B) (hsn : sn_P s i n) : pt_Does yX2_nextTo YX2_nextTo [pt_r 3 t, pt_i s, pt_i i] M (some (pt_i (nx_I n B s i))) M := by
  obtain ⟨m, i, rfl, rfl, hm, hi⟩ := hsn
  obtain ⟨ht, hn, hs, hB⟩ := h
  have hlt : ∀ i, i < n → ¬ pt_F M 3 0 t ≤ nI i := fun i hi => by rw [hs]; exact nI_ge hi (by omega)
  have hle : pt_F M 3 0 t ≤ nI n := by rw [hs]; exact Int32.le_refl _
  have hp : ∀ i, i < n → pt_in (nI i) 10 := fun i hi => pt_in_nI (by omega) (by decide)
  have K := pt_nest (Y := YX2_nextTo) (σ := (0, [(0, pt_r 3 t), (1, pt_i (nI m)), (2, pt_i (nI i))], [], M)) (τ := (59, [], [pt_i (-1)], M)) (R := fun v => (51, [], [pt_i (nI v)], M)) (n := n) (i := 0)
    (S := fun j => (2, [(0, pt_r 3 t), (1, pt_i (nI m)), (2, pt_i (nI i)), (3, pt_i (nI j))], [], M)) (f := fun j => if nq_F B m i j then some j else none)
    (Nat.zero_le n) (gX2_nextTo_0_1 t (nI m) (nI i) M) ((gX2_nextTo_2_5 t (nI m) (nI i) (nI n) M ht hle).tr pt_dropA) fun j _ hj => by
      have hin := in_nI (i := j) hm (by omega)
      have hc := nx_c (p := fun k => B i j k) hm (show i < 10 by omega) (show j < 10 by omega)
      have hlo := lo_B hB (show i < 10 by omega) (show j < 10 by omega)
      have hij := nI_eq (show j < 2 ^ 31 by omega) (show i < 2 ^ 31 by omega)
      by_cases e1 : j = i
      · have hq : nq_F B m i j = false := by simp [nq_F, e1]
        rw [hq]
        exact ⟨fun v z => by simp at z, fun _ => (gX2_nextTo_2_4 t (nI m) (nI i) (nI j) M ht (hlt j hj) (by rw [e1])).to (by rw [nI_1])⟩
      · cases hv : m.testBit j
        · have hq : nq_F B m i j = false := by simp [nq_F, hv]
          rw [hq]
          exact ⟨fun v z => by simp at z, fun _ => (gX2_nextTo_2_3 t (nI m) (nI i) (nI j) M ht (hlt j hj) (fun z => e1 (hij.mp z)) (fun z => by rw [hin, hv] at z; cases z)).to (by rw [nI_1])⟩
        · have hq : nq_F B m i j = ((List.range 10).all fun k => decide (k = i) || (decide (k = j) || (!m.testBit k || B i j k))) := by simp [nq_F, e1, hv]
          rw [← hlo] at hc
          cases hw : nq_F B m i j
          · refine ⟨fun v z => by simp at z, fun _ => ?_⟩
            exact (gX2_nextTo_2_2 t (nI m) (nI i) (nI j) M ht (hlt j hj) (fun z => e1 (hij.mp z)) (hin.mpr hv) (hp i hi) (hp j hj) (fun z => by rw [hc, ← hq, hw] at z; cases z)).to (by rw [nI_1])
          · refine ⟨fun v z => ?_, fun z => by simp at z⟩
            simp only [if_true, Option.some.injEq] at z
            subst z
            exact (gX2_nextTo_2_1 t (nI m) (nI i) (nI j) M ht (hlt j hj) (fun z => e1 (hij.mp z)) (hin.mpr hv) (hp i hi) (hp j hj) (hc.mpr (by rw [← hq, hw]))).tr pt_dropA
  rw [nx_nI hm (by omega)]
  cases hf : nx_F n B m i with
  | none => exact rX2_nextTo_59 (Nat.le_of_ble_eq_true rfl) rfl (K.2 hf)
  | some v => exact rX2_nextTo_51 (Nat.le_of_ble_eq_true rfl) rfl (K.1 v hf)
/-! the rim -/
def ri_F (n : Nat) (B : Nat → Nat → Nat → Bool) (m : Nat) : Nat := if pc_F m < 3 then m else pb_s n fun i => m.testBit i && (nx_F n B m i).isSome
def ri_I (n : Nat) (B : Nat → Nat → Nat → Bool) (s : Int32) : Int32 := nI (ri_F n B (pt_nt s))
theorem ri_lt {n m : Nat} {B : Nat → Nat → Nat → Bool} (hn : n ≤ 10) (hm : m < 1024) : ri_F n B m < 1024 := by
  unfold ri_F
  split
  · exact hm
  · exact Nat.lt_of_lt_of_le (pb_lt _ n) (pb_p2 hn)
theorem pb_top {p : Nat → Bool} {i : Nat} (hi : i < 31) (h : p i = true) : nI (pb_s i p) ||| ((1 : Int32) <<< (nI i &&& 31)) = nI (pb_s (i + 1) p) := by
  rw [pt_shl1 i hi, pt_or]
  congr 1
  show _ = pb_s i p + if p i then 2 ^ i else 0
  rw [if_pos h, Nat.or_comm, Nat.add_comm]
  have := Nat.two_pow_add_eq_or_of_lt (pb_lt p i) 1
  rw [Nat.mul_one] at this
  exact this.symm
theorem pb_skip {p : Nat → Bool} {i : Nat} (h : p i = false) : pb_s (i + 1) p = pb_s i p := by
  show pb_s i p + (if p i then 2 ^ i else 0) = _
  rw [h]
  rfl
theorem rX2_rimOf_9 {vs : List pt_V} {M M' : pt_M} {x : Int32} {L : List (Nat × pt_V)} (hvs : (vs.map pt_w).sum ≤ 4) (hX : M'.2.2.2.2 = M.2.2.2.2) (h : pt_Go YX2_rimOf (0, pt_en 0 vs, [], M) (9, L, [pt_i x], M')) : pt_Does yX2_rimOf YX2_rimOf vs M (some (pt_i x)) M' := pt_does_go tX2_rimOf_ok nX2_rimOf hvs hX ⟨_, by with_unfolding_all rfl, rfl, _, rfl, rfl⟩ h
theorem rX2_rimOf_53 {vs : List pt_V} {M M' : pt_M} {x : Int32} {L : List (Nat × pt_V)} (hvs : (vs.map pt_w).sum ≤ 4) (hX : M'.2.2.2.2 = M.2.2.2.2) (h : pt_Go YX2_rimOf (0, pt_en 0 vs, [], M) (53, L, [pt_i x], M')) : pt_Does yX2_rimOf YX2_rimOf vs M (some (pt_i x)) M' := pt_does_go tX2_rimOf_ok nX2_rimOf hvs hX ⟨_, by with_unfolding_all rfl, rfl, _, rfl, rfl⟩ h
set_option maxRecDepth 100000 in
theorem gX2_rimOf_0_1 (t : Nat) (x2 : Int32) (n : Nat) (B : Nat → Nat → Nat → Bool) (M : pt_M) (h1 : ¬ 3 ≤ (bc_F x2)) :
    pt_Go YX2_rimOf (0, [(0, pt_r 3 t), (1, pt_i x2)], [], M)
      (9, [(0, pt_r 3 t), (1, pt_i x2)], [pt_i x2], M) :=
  pt_run_ok tX2_rimOf_ok 5 [.inr (1, some (pt_i (bc_F x2)), M), .inl false] (P := pt_Cal YX2_rimOf (.invokestatic 25) [pt_i x2] M (some (pt_i (bc_F x2))) M ∧ (¬ 3 ≤ (bc_F x2)) ∧ True) (by with_unfolding_all rfl) ⟨(pt_callS kX2_rimOf_25 mJ6_bitCount_0f7a4 rfl (dJ6_bitCount x2 M)), h1, trivial⟩
set_option maxRecDepth 100000 in
theorem gX2_rimOf_0_2 (t : Nat) (x2 : Int32) (n : Nat) (B : Nat → Nat → Nat → Bool) (M : pt_M) (h1 : 3 ≤ (bc_F x2)) :
    pt_Go YX2_rimOf (0, [(0, pt_r 3 t), (1, pt_i x2)], [], M)
      (14, [(0, pt_r 3 t), (1, pt_i x2), (2, pt_i 0), (3, pt_i 0)], [], M) :=
  pt_run_ok tX2_rimOf_ok 8 [.inr (1, some (pt_i (bc_F x2)), M), .inl true] (P := pt_Cal YX2_rimOf (.invokestatic 25) [pt_i x2] M (some (pt_i (bc_F x2))) M ∧ (3 ≤ (bc_F x2)) ∧ True) (by with_unfolding_all rfl) ⟨(pt_callS kX2_rimOf_25 mJ6_bitCount_0f7a4 rfl (dJ6_bitCount x2 M)), h1, trivial⟩
set_option maxRecDepth 100000 in
theorem gX2_rimOf_14_1 (t : Nat) (l1 : Int32) (l2 : Int32) (l3 : Int32) (n : Nat) (B : Nat → Nat → Nat → Bool) (M : pt_M) (h1 : t < 7) (h2 : ¬ (pt_F M 3 0 t) ≤ l3) (h3 : in_P l1 l3) (h4 : tb_P M t n B) (h5 : sn_P l1 l3 n) (h6 : ¬ (nx_I n B l1 l3) = (-1)) :
    pt_Go YX2_rimOf (14, [(0, pt_r 3 t), (1, pt_i l1), (2, pt_i l2), (3, pt_i l3)], [], M)
      (14, [(0, pt_r 3 t), (1, pt_i l1), (2, pt_i (l2 ||| ((1 : Int32) <<< (l3 &&& 31)))), (3, pt_i (l3 + 1))], [], M) :=
  pt_run_ok tX2_rimOf_ok 22 [.inl false, .inr (2, some (pt_i 1), M), .inl false, .inr (3, some (pt_i (nx_I n B l1 l3)), M), .inl false] (P := (t < 7) ∧ (¬ (pt_F M 3 0 t) ≤ l3) ∧ pt_Cal YX2_rimOf (.invokestatic 15) [pt_i l1, pt_i l3] M (some (pt_i 1)) M ∧ (¬ (1 : Int32) = (0 : Int32)) ∧ pt_Cal YX2_rimOf (.invokestatic 31) [pt_r 3 t, pt_i l1, pt_i l3] M (some (pt_i (nx_I n B l1 l3))) M ∧ (¬ (nx_I n B l1 l3) = (-1)) ∧ True) (by with_unfolding_all rfl) ⟨h1, h2, (pt_callS kX2_rimOf_15 mX2_isIn rfl (dX2_isIn_1 h3)), (by decide), (pt_callS kX2_rimOf_31 mX2_nextTo rfl (dX2_nextTo h4 h5)), h6, trivial⟩
set_option maxRecDepth 100000 in
theorem gX2_rimOf_14_2 (t : Nat) (l1 : Int32) (l2 : Int32) (l3 : Int32) (n : Nat) (B : Nat → Nat → Nat → Bool) (M : pt_M) (h1 : t < 7) (h2 : ¬ (pt_F M 3 0 t) ≤ l3) (h3 : in_P l1 l3) (h4 : tb_P M t n B) (h5 : sn_P l1 l3 n) (h6 : (nx_I n B l1 l3) = (-1)) :
    pt_Go YX2_rimOf (14, [(0, pt_r 3 t), (1, pt_i l1), (2, pt_i l2), (3, pt_i l3)], [], M)
      (14, [(0, pt_r 3 t), (1, pt_i l1), (2, pt_i l2), (3, pt_i (l3 + 1))], [], M) :=
  pt_run_ok tX2_rimOf_ok 16 [.inl false, .inr (2, some (pt_i 1), M), .inl false, .inr (3, some (pt_i (nx_I n B l1 l3)), M), .inl true] (P := (t < 7) ∧ (¬ (pt_F M 3 0 t) ≤ l3) ∧ pt_Cal YX2_rimOf (.invokestatic 15) [pt_i l1, pt_i l3] M (some (pt_i 1)) M ∧ (¬ (1 : Int32) = (0 : Int32)) ∧ pt_Cal YX2_rimOf (.invokestatic 31) [pt_r 3 t, pt_i l1, pt_i l3] M (some (pt_i (nx_I n B l1 l3))) M ∧ ((nx_I n B l1 l3) = (-1)) ∧ True) (by with_unfolding_all rfl) ⟨h1, h2, (pt_callS kX2_rimOf_15 mX2_isIn rfl (dX2_isIn_1 h3)), (by decide), (pt_callS kX2_rimOf_31 mX2_nextTo rfl (dX2_nextTo h4 h5)), h6, trivial⟩
set_option maxRecDepth 100000 in
theorem gX2_rimOf_14_3 (t : Nat) (l1 : Int32) (l2 : Int32) (l3 : Int32) (n : Nat) (B : Nat → Nat → Nat → Bool) (M : pt_M) (h1 : t < 7) (h2 : ¬ (pt_F M 3 0 t) ≤ l3) (h3 : ¬ in_P l1 l3) :
    pt_Go YX2_rimOf (14, [(0, pt_r 3 t), (1, pt_i l1), (2, pt_i l2), (3, pt_i l3)], [], M)
      (14, [(0, pt_r 3 t), (1, pt_i l1), (2, pt_i l2), (3, pt_i (l3 + 1))], [], M) :=
  pt_run_ok tX2_rimOf_ok 10 [.inl false, .inr (2, some (pt_i 0), M), .inl true] (P := (t < 7) ∧ (¬ (pt_F M 3 0 t) ≤ l3) ∧ pt_Cal YX2_rimOf (.invokestatic 15) [pt_i l1, pt_i l3] M (some (pt_i 0)) M ∧ ((0 : Int32) = (0 : Int32)) ∧ True) (by with_unfolding_all rfl) ⟨h1, h2, (pt_callS kX2_rimOf_15 mX2_isIn rfl (dX2_isIn_0 h3)), (by decide), trivial⟩
set_option maxRecDepth 100000 in
theorem gX2_rimOf_14_4 (t : Nat) (l1 : Int32) (l2 : Int32) (l3 : Int32) (n : Nat) (B : Nat → Nat → Nat → Bool) (M : pt_M) (h1 : t < 7) (h2 : (pt_F M 3 0 t) ≤ l3) :
    pt_Go YX2_rimOf (14, [(0, pt_r 3 t), (1, pt_i l1), (2, pt_i l2), (3, pt_i l3)], [], M)
      (53, [(0, pt_r 3 t), (1, pt_i l1), (2, pt_i l2), (3, pt_i l3)], [pt_i l2], M) :=
  pt_run_ok tX2_rimOf_ok 5 [.inl true] (P := (t < 7) ∧ ((pt_F M 3 0 t) ≤ l3) ∧ True) (by with_unfolding_all rfl) ⟨h1, h2, trivial⟩
theorem dX2_rimOf {t n : Nat} {s : Int32} {B : Nat → Nat → Nat → Bool} {M : pt_M} (h : tb_P M t n B) (hst : st_P s n) : pt_Does yX2_rimOf YX2_rimOf [pt_r 3 t, pt_i s] M (some (pt_i (ri_I n B s))) M := by
  obtain ⟨m, rfl, hm⟩ := hst
  have hb := h
  obtain ⟨ht, hn, hs, hB⟩ := h
  have hlt : ∀ i, i < n → ¬ pt_F M 3 0 t ≤ nI i := fun i hi => by rw [hs]; exact nI_ge hi (by omega)
  have hle : pt_F M 3 0 t ≤ nI n := by rw [hs]; exact Int32.le_refl _
  have hbc := bc_nI hm
  have hpc := pc_le m
  unfold ri_I
  rw [pt_nt_nI (by omega)]
  unfold ri_F
  by_cases h3 : pc_F m < 3
  · rw [if_pos h3]
    refine rX2_rimOf_9 (Nat.le_of_ble_eq_true rfl) rfl (gX2_rimOf_0_1 t (nI m) n B M ?_)
    rw [hbc]
    exact nI_ge h3 (by decide)
  · rw [if_neg h3]
    have K := pt_for0 (Y := YX2_rimOf) (fun i => (14, [(0, pt_r 3 t), (1, pt_i (nI m)), (2, pt_i (nI (pb_s i fun i => m.testBit i && (nx_F n B m i).isSome))), (3, pt_i (nI i))], [], M)) (n := n) fun i hi => by
      have hin := in_nI (i := i) hm (by omega)
      have hnx := nx_eq (B := B) hn hm (show i < 2 ^ 31 by omega)
      cases hv : m.testBit i
      · refine (gX2_rimOf_14_3 t (nI m) _ (nI i) n B M ht (hlt i hi) (fun z => by rw [hin, hv] at z; cases z)).to ?_
        rw [nI_1, pb_skip (i := i) (by simp [hv])]
      · cases hw : (nx_F n B m i).isSome
        · refine (gX2_rimOf_14_2 t (nI m) _ (nI i) n B M ht (hlt i hi) (hin.mpr hv) hb ⟨m, i, rfl, rfl, hm, hi⟩ (hnx.mpr hw)).to ?_
          rw [nI_1, pb_skip (i := i) (by simp [hw])]
        · refine (gX2_rimOf_14_1 t (nI m) _ (nI i) n B M ht (hlt i hi) (hin.mpr hv) hb ⟨m, i, rfl, rfl, hm, hi⟩ (fun z => by rw [hnx, hw] at z; cases z)).to ?_
          rw [nI_1, pb_top (i := i) (by omega) (by simp [hv, hw])]
    refine rX2_rimOf_53 (Nat.le_of_ble_eq_true rfl) rfl ((gX2_rimOf_0_2 t (nI m) n B M ?_).tr (K.tr (gX2_rimOf_14_4 t (nI m) _ (nI n) n B M ht hle)))
    rw [hbc]
    exact nI_le (a := 3) (by omega) (by omega)
theorem ep_nI {M : pt_M} {t n : Nat} (hn : n ≤ 10) (hs : pt_F M 3 0 t = nI n) : ep_F M t = nI (2 ^ n - 1) := by
  unfold ep_F
  rw [hs, pt_shl1 n (by omega), show (1 : Int32) = nI 1 from rfl, pk_sub (Nat.one_le_two_pow)]
/-! layers -/
def rs_F (n : Nat) (B : Nat → Nat → Nat → Bool) : Nat → Nat
  | 0 => 2 ^ n - 1
  | l + 1 => an_F (rs_F n B l) (ri_F n B (rs_F n B l))
theorem rs_lt {n : Nat} {B : Nat → Nat → Nat → Bool} (hn : n ≤ 10) : ∀ l, rs_F n B l < 1024
  | 0 => by
    have := pb_p2 hn
    show 2 ^ n - 1 < 1024
    omega
  | l + 1 => Nat.lt_of_le_of_lt (an_le _ _) (rs_lt hn l)
def ly_F (n : Nat) (B : Nat → Nat → Nat → Bool) (p : Nat) : Option Nat := fs_F (n - 0) 0 fun l => if (ri_F n B (rs_F n B l)).testBit p then some l else none
theorem rX2_layerOf_32 {vs : List pt_V} {M M' : pt_M} {x : Int32} {L : List (Nat × pt_V)} (hvs : (vs.map pt_w).sum ≤ 5) (hX : M'.2.2.2.2 = M.2.2.2.2) (h : pt_Go YX2_layerOf (0, pt_en 0 vs, [], M) (32, L, [pt_i x], M')) : pt_Does yX2_layerOf YX2_layerOf vs M (some (pt_i x)) M' := pt_does_go tX2_layerOf_ok nX2_layerOf hvs hX ⟨_, by with_unfolding_all rfl, rfl, _, rfl, rfl⟩ h
theorem rX2_layerOf_47 {vs : List pt_V} {M M' : pt_M} {x : Int32} {L : List (Nat × pt_V)} (hvs : (vs.map pt_w).sum ≤ 5) (hX : M'.2.2.2.2 = M.2.2.2.2) (h : pt_Go YX2_layerOf (0, pt_en 0 vs, [], M) (47, L, [pt_i x], M')) : pt_Does yX2_layerOf YX2_layerOf vs M (some (pt_i x)) M' := pt_does_go tX2_layerOf_ok nX2_layerOf hvs hX ⟨_, by with_unfolding_all rfl, rfl, _, rfl, rfl⟩ h
set_option maxRecDepth 100000 in
theorem gX2_layerOf_0_1 (t : Nat) (x2 : Int32) (n : Nat) (B : Nat → Nat → Nat → Bool) (M : pt_M) (h1 : t < 7) :
    pt_Go YX2_layerOf (0, [(0, pt_r 3 t), (1, pt_i x2)], [], M)
      (7, [(0, pt_r 3 t), (1, pt_i x2), (2, pt_i (ep_F M t)), (3, pt_i 0)], [], M) :=
  pt_run_ok tX2_layerOf_ok 5 [.inr (1, some (pt_i (ep_F M t)), M)] (P := pt_Cal YX2_layerOf (.invokevirtual 35) [pt_r 3 t] M (some (pt_i (ep_F M t))) M ∧ True) (by with_unfolding_all rfl) ⟨(pt_callV (i := t) kX2_layerOf_35 mX4_everyPoint rfl h1 rfl (dX4_everyPoint h1)), trivial⟩
set_option maxRecDepth 100000 in
theorem gX2_layerOf_7_1 (t : Nat) (l1 : Int32) (l2 : Int32) (l3 : Int32) (n : Nat) (B : Nat → Nat → Nat → Bool) (M : pt_M) (h1 : t < 7) (h2 : ¬ (pt_F M 3 0 t) ≤ l3) (h3 : tb_P M t n B) (h4 : st_P l2 n) (h5 : in_P (ri_I n B l2) l1) :
    pt_Go YX2_layerOf (7, [(0, pt_r 3 t), (1, pt_i l1), (2, pt_i l2), (3, pt_i l3)], [], M)
      (32, [(0, pt_r 3 t), (1, pt_i l1), (2, pt_i l2), (3, pt_i l3), (4, pt_i (ri_I n B l2))], [pt_i l3], M) :=
  pt_run_ok tX2_layerOf_ok 13 [.inl false, .inr (2, some (pt_i (ri_I n B l2)), M), .inr (2, some (pt_i 1), M), .inl false] (P := (t < 7) ∧ (¬ (pt_F M 3 0 t) ≤ l3) ∧ pt_Cal YX2_layerOf (.invokestatic 39) [pt_r 3 t, pt_i l2] M (some (pt_i (ri_I n B l2))) M ∧ pt_Cal YX2_layerOf (.invokestatic 15) [pt_i (ri_I n B l2), pt_i l1] M (some (pt_i 1)) M ∧ (¬ (1 : Int32) = (0 : Int32)) ∧ True) (by with_unfolding_all rfl) ⟨h1, h2, (pt_callS kX2_layerOf_39 mX2_rimOf rfl (dX2_rimOf h3 h4)), (pt_callS kX2_layerOf_15 mX2_isIn rfl (dX2_isIn_1 h5)), (by decide), trivial⟩
set_option maxRecDepth 100000 in
theorem gX2_layerOf_7_2 (t : Nat) (l1 : Int32) (l2 : Int32) (l3 : Int32) (n : Nat) (B : Nat → Nat → Nat → Bool) (M : pt_M) (h1 : t < 7) (h2 : ¬ (pt_F M 3 0 t) ≤ l3) (h3 : tb_P M t n B) (h4 : st_P l2 n) (h5 : ¬ in_P (ri_I n B l2) l1) :
    pt_Go YX2_layerOf (7, [(0, pt_r 3 t), (1, pt_i l1), (2, pt_i l2), (3, pt_i l3)], [], M)
      (7, [(0, pt_r 3 t), (1, pt_i l1), (2, pt_i (l2 &&& ((ri_I n B l2) ^^^ (-1)))), (3, pt_i (l3 + 1))], [], M) :=
  (pt_run_ok tX2_layerOf_ok 20 [.inl false, .inr (2, some (pt_i (ri_I n B l2)), M), .inr (2, some (pt_i 0), M), .inl true] (P := (t < 7) ∧ (¬ (pt_F M 3 0 t) ≤ l3) ∧ pt_Cal YX2_layerOf (.invokestatic 39) [pt_r 3 t, pt_i l2] M (some (pt_i (ri_I n B l2))) M ∧ pt_Cal YX2_layerOf (.invokestatic 15) [pt_i (ri_I n B l2), pt_i l1] M (some (pt_i 0)) M ∧ ((0 : Int32) = (0 : Int32)) ∧ True) (by with_unfolding_all rfl) ⟨h1, h2, (pt_callS kX2_layerOf_39 mX2_rimOf rfl (dX2_rimOf h3 h4)), (pt_callS kX2_layerOf_15 mX2_isIn rfl (dX2_isIn_0 h5)), (by decide), trivial⟩ : pt_Go YX2_layerOf _ (7, [(0, pt_r 3 t), (1, pt_i l1), (2, pt_i (l2 &&& ((ri_I n B l2) ^^^ (-1)))), (3, pt_i (l3 + 1)), (4, pt_i (ri_I n B l2))], [], M)).tr (pt_pick [0, 1, 2, 3] (by with_unfolding_all rfl))
set_option maxRecDepth 100000 in
theorem gX2_layerOf_7_3 (t : Nat) (l1 : Int32) (l2 : Int32) (l3 : Int32) (n : Nat) (B : Nat → Nat → Nat → Bool) (M : pt_M) (h1 : t < 7) (h2 : (pt_F M 3 0 t) ≤ l3) :
    pt_Go YX2_layerOf (7, [(0, pt_r 3 t), (1, pt_i l1), (2, pt_i l2), (3, pt_i l3)], [], M)
      (47, [(0, pt_r 3 t), (1, pt_i l1), (2, pt_i l2), (3, pt_i l3)], [pt_i (-1)], M) :=
  pt_run_ok tX2_layerOf_ok 5 [.inl true] (P := (t < 7) ∧ ((pt_F M 3 0 t) ≤ l3) ∧ True) (by with_unfolding_all rfl) ⟨h1, h2, trivial⟩
theorem ri_nI {n m : Nat} {B : Nat → Nat → Nat → Bool} (hm : m < 1024) : ri_I n B (nI m) = nI (ri_F n B m) := by
  unfold ri_I
  rw [pt_nt_nI (by omega)]
theorem dX2_layerOf {t n p : Nat} {B : Nat → Nat → Nat → Bool} {M : pt_M} (h : tb_P M t n B) (hp : p < n) : (∀ l, ly_F n B p = some l → pt_Does yX2_layerOf YX2_layerOf [pt_r 3 t, pt_i (nI p)] M (some (pt_i (nI l))) M) ∧ (ly_F n B p = none → pt_Does yX2_layerOf YX2_layerOf [pt_r 3 t, pt_i (nI p)] M (some (pt_i (-1))) M) := by
  have hb := h
  obtain ⟨ht, hn, hs, hB⟩ := h
  have hlt : ∀ i, i < n → ¬ pt_F M 3 0 t ≤ nI i := fun i hi => by rw [hs]; exact nI_ge hi (by omega)
  have hle : pt_F M 3 0 t ≤ nI n := by rw [hs]; exact Int32.le_refl _
  have K := pt_nest (Y := YX2_layerOf) (σ := (0, [(0, pt_r 3 t), (1, pt_i (nI p))], [], M)) (τ := (47, [], [pt_i (-1)], M)) (R := fun v => (32, [], [pt_i (nI v)], M)) (n := n) (i := 0)
    (S := fun l => (7, [(0, pt_r 3 t), (1, pt_i (nI p)), (2, pt_i (nI (rs_F n B l))), (3, pt_i (nI l))], [], M)) (f := fun l => if (ri_F n B (rs_F n B l)).testBit p then some l else none)
    (Nat.zero_le n) ((gX2_layerOf_0_1 t (nI p) n B M ht).to (by rw [ep_nI hn hs]; rfl)) ((gX2_layerOf_7_3 t (nI p) _ (nI n) n B M ht hle).tr pt_dropA) fun l _ hl => by
      have hm := rs_lt (B := B) hn l
      have hr := ri_lt (B := B) hn hm
      have hin := in_nI (i := p) hr (by omega)
      have e := ri_nI (n := n) (B := B) hm
      cases hv : (ri_F n B (rs_F n B l)).testBit p
      · refine ⟨fun v z => by simp at z, fun _ => (gX2_layerOf_7_2 t (nI p) _ (nI l) n B M ht (hlt l hl) hb ⟨_, rfl, hm⟩ (fun z => by rw [e, hin, hv] at z; cases z)).to ?_⟩
        rw [nI_1, e, an_nI]
        rfl
      · refine ⟨fun v z => ?_, fun z => by simp at z⟩
        simp only [if_true, Option.some.injEq] at z
        subst z
        exact (gX2_layerOf_7_1 t (nI p) _ (nI l) n B M ht (hlt l hl) hb ⟨_, rfl, hm⟩ (by rw [e, hin, hv])).tr pt_dropA
  exact ⟨fun p hp => rX2_layerOf_32 (Nat.le_of_ble_eq_true rfl) rfl (K.1 p hp), fun hp => rX2_layerOf_47 (Nat.le_of_ble_eq_true rfl) rfl (K.2 hp)⟩
/-! figures -/
def fg_B (n : Nat) (B : Nat → Nat → Nat → Bool) (m : Nat) : Option Unit := fs_F (n - 0) 0 fun i => if m.testBit i && !(nx_F n B m i).isSome then some () else none
theorem rX2_isFigure_29 {vs : List pt_V} {M M' : pt_M} {x : Int32} {L : List (Nat × pt_V)} (hn : narrow .boolean (.int x) = .int x) (hvs : (vs.map pt_w).sum ≤ 3) (hX : M'.2.2.2.2 = M.2.2.2.2) (h : pt_Go YX2_isFigure (0, pt_en 0 vs, [], M) (29, L, [pt_i x], M')) : pt_Does yX2_isFigure YX2_isFigure vs M (some (pt_i x)) M' := pt_does_go tX2_isFigure_ok nX2_isFigure hvs hX ⟨_, by with_unfolding_all rfl, rfl, _, rfl, hn⟩ h
theorem rX2_isFigure_37 {vs : List pt_V} {M M' : pt_M} {x : Int32} {L : List (Nat × pt_V)} (hn : narrow .boolean (.int x) = .int x) (hvs : (vs.map pt_w).sum ≤ 3) (hX : M'.2.2.2.2 = M.2.2.2.2) (h : pt_Go YX2_isFigure (0, pt_en 0 vs, [], M) (37, L, [pt_i x], M')) : pt_Does yX2_isFigure YX2_isFigure vs M (some (pt_i x)) M' := pt_does_go tX2_isFigure_ok nX2_isFigure hvs hX ⟨_, by with_unfolding_all rfl, rfl, _, rfl, hn⟩ h
set_option maxRecDepth 100000 in
theorem gX2_isFigure_0_1 (t : Nat) (x2 : Int32) (n : Nat) (B : Nat → Nat → Nat → Bool) (M : pt_M) :
    pt_Go YX2_isFigure (0, [(0, pt_r 3 t), (1, pt_i x2)], [], M)
      (2, [(0, pt_r 3 t), (1, pt_i x2), (2, pt_i 0)], [], M) :=
  pt_run_ok tX2_isFigure_ok 2 [] (P := True) (by with_unfolding_all rfl) trivial
set_option maxRecDepth 100000 in
theorem gX2_isFigure_2_1 (t : Nat) (l1 : Int32) (l2 : Int32) (n : Nat) (B : Nat → Nat → Nat → Bool) (M : pt_M) (h1 : t < 7) (h2 : ¬ (pt_F M 3 0 t) ≤ l2) (h3 : in_P l1 l2) (h4 : tb_P M t n B) (h5 : sn_P l1 l2 n) (h6 : (nx_I n B l1 l2) = (-1)) :
    pt_Go YX2_isFigure (2, [(0, pt_r 3 t), (1, pt_i l1), (2, pt_i l2)], [], M)
      (29, [(0, pt_r 3 t), (1, pt_i l1), (2, pt_i l2)], [pt_i 0], M) :=
  pt_run_ok tX2_isFigure_ok 15 [.inl false, .inr (2, some (pt_i 1), M), .inl false, .inr (3, some (pt_i (nx_I n B l1 l2)), M), .inl false] (P := (t < 7) ∧ (¬ (pt_F M 3 0 t) ≤ l2) ∧ pt_Cal YX2_isFigure (.invokestatic 15) [pt_i l1, pt_i l2] M (some (pt_i 1)) M ∧ (¬ (1 : Int32) = (0 : Int32)) ∧ pt_Cal YX2_isFigure (.invokestatic 31) [pt_r 3 t, pt_i l1, pt_i l2] M (some (pt_i (nx_I n B l1 l2))) M ∧ ((nx_I n B l1 l2) = (-1)) ∧ True) (by with_unfolding_all rfl) ⟨h1, h2, (pt_callS kX2_isFigure_15 mX2_isIn rfl (dX2_isIn_1 h3)), (by decide), (pt_callS kX2_isFigure_31 mX2_nextTo rfl (dX2_nextTo h4 h5)), h6, trivial⟩
set_option maxRecDepth 100000 in
theorem gX2_isFigure_2_2 (t : Nat) (l1 : Int32) (l2 : Int32) (n : Nat) (B : Nat → Nat → Nat → Bool) (M : pt_M) (h1 : t < 7) (h2 : ¬ (pt_F M 3 0 t) ≤ l2) (h3 : in_P l1 l2) (h4 : tb_P M t n B) (h5 : sn_P l1 l2 n) (h6 : ¬ (nx_I n B l1 l2) = (-1)) :
    pt_Go YX2_isFigure (2, [(0, pt_r 3 t), (1, pt_i l1), (2, pt_i l2)], [], M)
      (2, [(0, pt_r 3 t), (1, pt_i l1), (2, pt_i (l2 + 1))], [], M) :=
  pt_run_ok tX2_isFigure_ok 16 [.inl false, .inr (2, some (pt_i 1), M), .inl false, .inr (3, some (pt_i (nx_I n B l1 l2)), M), .inl true] (P := (t < 7) ∧ (¬ (pt_F M 3 0 t) ≤ l2) ∧ pt_Cal YX2_isFigure (.invokestatic 15) [pt_i l1, pt_i l2] M (some (pt_i 1)) M ∧ (¬ (1 : Int32) = (0 : Int32)) ∧ pt_Cal YX2_isFigure (.invokestatic 31) [pt_r 3 t, pt_i l1, pt_i l2] M (some (pt_i (nx_I n B l1 l2))) M ∧ (¬ (nx_I n B l1 l2) = (-1)) ∧ True) (by with_unfolding_all rfl) ⟨h1, h2, (pt_callS kX2_isFigure_15 mX2_isIn rfl (dX2_isIn_1 h3)), (by decide), (pt_callS kX2_isFigure_31 mX2_nextTo rfl (dX2_nextTo h4 h5)), h6, trivial⟩
set_option maxRecDepth 100000 in
theorem gX2_isFigure_2_3 (t : Nat) (l1 : Int32) (l2 : Int32) (n : Nat) (B : Nat → Nat → Nat → Bool) (M : pt_M) (h1 : t < 7) (h2 : ¬ (pt_F M 3 0 t) ≤ l2) (h3 : ¬ in_P l1 l2) :
    pt_Go YX2_isFigure (2, [(0, pt_r 3 t), (1, pt_i l1), (2, pt_i l2)], [], M)
      (2, [(0, pt_r 3 t), (1, pt_i l1), (2, pt_i (l2 + 1))], [], M) :=
  pt_run_ok tX2_isFigure_ok 10 [.inl false, .inr (2, some (pt_i 0), M), .inl true] (P := (t < 7) ∧ (¬ (pt_F M 3 0 t) ≤ l2) ∧ pt_Cal YX2_isFigure (.invokestatic 15) [pt_i l1, pt_i l2] M (some (pt_i 0)) M ∧ ((0 : Int32) = (0 : Int32)) ∧ True) (by with_unfolding_all rfl) ⟨h1, h2, (pt_callS kX2_isFigure_15 mX2_isIn rfl (dX2_isIn_0 h3)), (by decide), trivial⟩
set_option maxRecDepth 100000 in
theorem gX2_isFigure_2_4 (t : Nat) (l1 : Int32) (l2 : Int32) (n : Nat) (B : Nat → Nat → Nat → Bool) (M : pt_M) (h1 : t < 7) (h2 : (pt_F M 3 0 t) ≤ l2) :
    pt_Go YX2_isFigure (2, [(0, pt_r 3 t), (1, pt_i l1), (2, pt_i l2)], [], M)
      (37, [(0, pt_r 3 t), (1, pt_i l1), (2, pt_i l2)], [pt_i 1], M) :=
  pt_run_ok tX2_isFigure_ok 5 [.inl true] (P := (t < 7) ∧ ((pt_F M 3 0 t) ≤ l2) ∧ True) (by with_unfolding_all rfl) ⟨h1, h2, trivial⟩
theorem dX2_isFigure {t n m : Nat} {B : Nat → Nat → Nat → Bool} {M : pt_M} (h : tb_P M t n B) (hm : m < 1024) : (fg_B n B m = some () → pt_Does yX2_isFigure YX2_isFigure [pt_r 3 t, pt_i (nI m)] M (some (pt_i 0)) M) ∧ (fg_B n B m = none → pt_Does yX2_isFigure YX2_isFigure [pt_r 3 t, pt_i (nI m)] M (some (pt_i 1)) M) := by
  have hb := h
  obtain ⟨ht, hn, hs, hB⟩ := h
  have hlt : ∀ i, i < n → ¬ pt_F M 3 0 t ≤ nI i := fun i hi => by rw [hs]; exact nI_ge hi (by omega)
  have hle : pt_F M 3 0 t ≤ nI n := by rw [hs]; exact Int32.le_refl _
  have K := pt_nest (Y := YX2_isFigure) (σ := (0, [(0, pt_r 3 t), (1, pt_i (nI m))], [], M)) (τ := (37, [], [pt_i 1], M)) (R := fun _ : Unit => (29, [], [pt_i 0], M)) (n := n) (i := 0)
    (S := fun i => (2, [(0, pt_r 3 t), (1, pt_i (nI m)), (2, pt_i (nI i))], [], M)) (f := fun i => if m.testBit i && !(nx_F n B m i).isSome then some () else none)
    (Nat.zero_le n) (gX2_isFigure_0_1 t (nI m) n B M) ((gX2_isFigure_2_4 t (nI m) (nI n) n B M ht hle).tr pt_dropA) fun i _ hi => by
      have hin := in_nI (i := i) hm (by omega)
      have hnx := nx_eq (B := B) hn hm (show i < 2 ^ 31 by omega)
      cases hv : m.testBit i
      · exact ⟨fun v z => by simp at z, fun _ => (gX2_isFigure_2_3 t (nI m) (nI i) n B M ht (hlt i hi) (fun z => by rw [hin, hv] at z; cases z)).to (by rw [nI_1])⟩
      · cases hw : (nx_F n B m i).isSome
        · exact ⟨fun v z => (gX2_isFigure_2_1 t (nI m) (nI i) n B M ht (hlt i hi) (hin.mpr hv) hb ⟨m, i, rfl, rfl, hm, hi⟩ (hnx.mpr hw)).tr pt_dropA, fun z => by simp at z⟩
        · exact ⟨fun v z => by simp at z, fun _ => (gX2_isFigure_2_2 t (nI m) (nI i) n B M ht (hlt i hi) (hin.mpr hv) hb ⟨m, i, rfl, rfl, hm, hi⟩ (fun z => by rw [hnx, hw] at z; cases z)).to (by rw [nI_1])⟩
  exact ⟨fun hp => rX2_isFigure_29 rfl (Nat.le_of_ble_eq_true rfl) rfl (K.1 () hp), fun hp => rX2_isFigure_37 rfl (Nat.le_of_ble_eq_true rfl) rfl (K.2 hp)⟩
def iw_F (n : Nat) (B : Nat → Nat → Nat → Bool) (m : Nat) : Nat → Nat
  | 0 => an_F (2 ^ n - 1) m
  | i + 1 => if m.testBit i then iw_F n B m i &&& pb_s 10 (fun k => B i ((nx_F n B m i).getD 0) k) else iw_F n B m i
theorem rX2_insideOf_48 {vs : List pt_V} {M M' : pt_M} {x : Int32} {L : List (Nat × pt_V)} (hvs : (vs.map pt_w).sum ≤ 4) (hX : M'.2.2.2.2 = M.2.2.2.2) (h : pt_Go YX2_insideOf (0, pt_en 0 vs, [], M) (48, L, [pt_i x], M')) : pt_Does yX2_insideOf YX2_insideOf vs M (some (pt_i x)) M' := pt_does_go tX2_insideOf_ok nX2_insideOf hvs hX ⟨_, by with_unfolding_all rfl, rfl, _, rfl, rfl⟩ h
set_option maxRecDepth 100000 in
theorem gX2_insideOf_0_1 (t : Nat) (x2 : Int32) (n : Nat) (B : Nat → Nat → Nat → Bool) (M : pt_M) (h1 : t < 7) :
    pt_Go YX2_insideOf (0, [(0, pt_r 3 t), (1, pt_i x2)], [], M)
      (11, [(0, pt_r 3 t), (1, pt_i x2), (2, pt_i ((ep_F M t) &&& (x2 ^^^ (-1)))), (3, pt_i 0)], [], M) :=
  pt_run_ok tX2_insideOf_ok 9 [.inr (1, some (pt_i (ep_F M t)), M)] (P := pt_Cal YX2_insideOf (.invokevirtual 35) [pt_r 3 t] M (some (pt_i (ep_F M t))) M ∧ True) (by with_unfolding_all rfl) ⟨(pt_callV (i := t) kX2_insideOf_35 mX4_everyPoint rfl h1 rfl (dX4_everyPoint h1)), trivial⟩
set_option maxRecDepth 100000 in
theorem gX2_insideOf_11_1 (t : Nat) (l1 : Int32) (l2 : Int32) (l3 : Int32) (n : Nat) (B : Nat → Nat → Nat → Bool) (M : pt_M) (h1 : t < 7) (h2 : ¬ (pt_F M 3 0 t) ≤ l3) (h3 : in_P l1 l3) (h4 : tb_P M t n B) (h5 : sn_P l1 l3 n) (h6 : pt_in l3 10) (h7 : pt_in (nx_I n B l1 l3) 10) :
    pt_Go YX2_insideOf (11, [(0, pt_r 3 t), (1, pt_i l1), (2, pt_i l2), (3, pt_i l3)], [], M)
      (11, [(0, pt_r 3 t), (1, pt_i l1), (2, pt_i (l2 &&& (lo_F M t l3 (nx_I n B l1 l3)))), (3, pt_i (l3 + 1))], [], M) :=
  pt_run_ok tX2_insideOf_ok 20 [.inl false, .inr (2, some (pt_i 1), M), .inl false, .inr (3, some (pt_i (nx_I n B l1 l3)), M), .inr (3, some (pt_i (lo_F M t l3 (nx_I n B l1 l3))), M)] (P := (t < 7) ∧ (¬ (pt_F M 3 0 t) ≤ l3) ∧ pt_Cal YX2_insideOf (.invokestatic 15) [pt_i l1, pt_i l3] M (some (pt_i 1)) M ∧ (¬ (1 : Int32) = (0 : Int32)) ∧ pt_Cal YX2_insideOf (.invokestatic 31) [pt_r 3 t, pt_i l1, pt_i l3] M (some (pt_i (nx_I n B l1 l3))) M ∧ pt_Cal YX2_insideOf (.invokevirtual 21) [pt_r 3 t, pt_i l3, pt_i (nx_I n B l1 l3)] M (some (pt_i (lo_F M t l3 (nx_I n B l1 l3)))) M ∧ True) (by with_unfolding_all rfl) ⟨h1, h2, (pt_callS kX2_insideOf_15 mX2_isIn rfl (dX2_isIn_1 h3)), (by decide), (pt_callS kX2_insideOf_31 mX2_nextTo rfl (dX2_nextTo h4 h5)), (pt_callV (i := t) kX2_insideOf_21 mX4_leftOf rfl h1 rfl (dX4_leftOf_v h1 h6 h7)), trivial⟩
set_option maxRecDepth 100000 in
theorem gX2_insideOf_11_2 (t : Nat) (l1 : Int32) (l2 : Int32) (l3 : Int32) (n : Nat) (B : Nat → Nat → Nat → Bool) (M : pt_M) (h1 : t < 7) (h2 : ¬ (pt_F M 3 0 t) ≤ l3) (h3 : ¬ in_P l1 l3) :
    pt_Go YX2_insideOf (11, [(0, pt_r 3 t), (1, pt_i l1), (2, pt_i l2), (3, pt_i l3)], [], M)
      (11, [(0, pt_r 3 t), (1, pt_i l1), (2, pt_i l2), (3, pt_i (l3 + 1))], [], M) :=
  pt_run_ok tX2_insideOf_ok 10 [.inl false, .inr (2, some (pt_i 0), M), .inl true] (P := (t < 7) ∧ (¬ (pt_F M 3 0 t) ≤ l3) ∧ pt_Cal YX2_insideOf (.invokestatic 15) [pt_i l1, pt_i l3] M (some (pt_i 0)) M ∧ ((0 : Int32) = (0 : Int32)) ∧ True) (by with_unfolding_all rfl) ⟨h1, h2, (pt_callS kX2_insideOf_15 mX2_isIn rfl (dX2_isIn_0 h3)), (by decide), trivial⟩
set_option maxRecDepth 100000 in
theorem gX2_insideOf_11_3 (t : Nat) (l1 : Int32) (l2 : Int32) (l3 : Int32) (n : Nat) (B : Nat → Nat → Nat → Bool) (M : pt_M) (h1 : t < 7) (h2 : (pt_F M 3 0 t) ≤ l3) :
    pt_Go YX2_insideOf (11, [(0, pt_r 3 t), (1, pt_i l1), (2, pt_i l2), (3, pt_i l3)], [], M)
      (48, [(0, pt_r 3 t), (1, pt_i l1), (2, pt_i l2), (3, pt_i l3)], [pt_i l2], M) :=
  pt_run_ok tX2_insideOf_ok 5 [.inl true] (P := (t < 7) ∧ ((pt_F M 3 0 t) ≤ l3) ∧ True) (by with_unfolding_all rfl) ⟨h1, h2, trivial⟩
theorem dX2_insideOf {t n m : Nat} {B : Nat → Nat → Nat → Bool} {M : pt_M} (h : tb_P M t n B) (hm : m < 1024) (hf : ∀ i, i < n → m.testBit i = true → (nx_F n B m i).isSome = true) : pt_Does yX2_insideOf YX2_insideOf [pt_r 3 t, pt_i (nI m)] M (some (pt_i (nI (iw_F n B m n)))) M := by
  have hb := h
  obtain ⟨ht, hn, hs, hB⟩ := h
  have hlt : ∀ i, i < n → ¬ pt_F M 3 0 t ≤ nI i := fun i hi => by rw [hs]; exact nI_ge hi (by omega)
  have hle : pt_F M 3 0 t ≤ nI n := by rw [hs]; exact Int32.le_refl _
  have hp : ∀ i, i < n → pt_in (nI i) 10 := fun i hi => pt_in_nI (by omega) (by decide)
  have K := pt_for0 (Y := YX2_insideOf) (fun i => (11, [(0, pt_r 3 t), (1, pt_i (nI m)), (2, pt_i (nI (iw_F n B m i))), (3, pt_i (nI i))], [], M)) (n := n) fun i hi => by
    have hin := in_nI (i := i) hm (by omega)
    cases hv : m.testBit i
    · refine (gX2_insideOf_11_2 t (nI m) _ (nI i) n B M ht (hlt i hi) (fun z => by rw [hin, hv] at z; cases z)).to ?_
      show _ = (11, [(0, pt_r 3 t), (1, pt_i (nI m)), (2, pt_i (nI (if m.testBit i then _ else _))), (3, pt_i (nI (i + 1)))], [], M)
      rw [nI_1, hv]
      rfl
    · cases hw : nx_F n B m i with
      | none => have := hf i hi hv; rw [hw] at this; cases this
      | some j =>
        have hj := (nx_lt hw).1
        have e : nx_I n B (nI m) (nI i) = nI j := by rw [nx_nI hm (by omega), hw]
        refine (gX2_insideOf_11_1 t (nI m) _ (nI i) n B M ht (hlt i hi) (hin.mpr hv) hb ⟨m, i, rfl, rfl, hm, hi⟩ (hp i hi) (by rw [e]; exact hp j hj)).to ?_
        show _ = (11, [(0, pt_r 3 t), (1, pt_i (nI m)), (2, pt_i (nI (if m.testBit i then _ else _))), (3, pt_i (nI (i + 1)))], [], M)
        rw [nI_1, e, lo_B hB (by omega) (by omega), pt_and, hv, hw]
        rfl
  refine rX2_insideOf_48 (Nat.le_of_ble_eq_true rfl) rfl (((gX2_insideOf_0_1 t (nI m) n B M ht).to ?_).tr (K.tr (gX2_insideOf_11_3 t (nI m) _ (nI n) n B M ht hle)))
  rw [ep_nI hn hs, an_nI]
  rfl
