/-! byBits -/
theorem kq_pt : ((List.range 7).all fun n => decide (n < 3) || (decide (nI n - 1 = nI (n - 1)) && (decide (rk_0 (n - 1) (n - 1) = rk_0 n n - rk_0 n 1) && (List.range n).all fun k => (List.range k).all fun j => (List.range j).all fun i => decide (rk_F n i j k + kq_pos n i j k + 1 = rk_0 n n) && (decide (i ≠ 0) || decide (kq_n n ≤ 2 ^ kq_pos n i j k))))) = true := by decide +kernel
theorem kq_p {n : Nat} (h3 : 3 ≤ n) (h6 : n ≤ 6) : nI n - 1 = nI (n - 1) ∧ rk_0 (n - 1) (n - 1) = rk_0 n n - rk_0 n 1 ∧ ∀ i j k, i < j → j < k → k < n → rk_F n i j k + kq_pos n i j k + 1 = rk_0 n n ∧ (i = 0 → kq_n n ≤ 2 ^ kq_pos n i j k) := by
  have h := pt_all kq_pt (i := n) (by omega)
  rw [Bool.or_eq_true, Bool.and_eq_true, Bool.and_eq_true] at h
  rcases h with h | ⟨e1, e2, h⟩
  · exact absurd (of_decide_eq_true h) (by omega)
  refine ⟨of_decide_eq_true e1, of_decide_eq_true e2, fun i j k h1 h2 h4 => ?_⟩
  have h := pt_all (pt_all (pt_all h h4) h2) h1
  rw [Bool.and_eq_true, Bool.or_eq_true] at h
  refine ⟨of_decide_eq_true h.1, fun z => ?_⟩
  rcases h.2 with y | y
  · exact absurd z (of_decide_eq_true y)
  · exact of_decide_eq_true y
def kq_a (n i j k : Nat) : Nat := if i = 0 then rk_0 n n - rk_0 n 1 else rk_0 n n - rk_F n i j k
theorem kq_ak {n i j k : Nat} (hi : i ≠ 0) (h : j < k) : kq_a n i j (k + 1) = kq_a n i j k - 1 := by
  unfold kq_a
  rw [if_neg hi, if_neg hi, rk_k h]
  omega
theorem kq_az {n j k j' k' : Nat} : kq_a n 0 j k = kq_a n 0 j' k' := rfl
theorem kq_aj {n i j : Nat} (h : i < j) (hj : j < n) : kq_a n i (j + 1) (j + 2) = kq_a n i j n := by
  unfold kq_a
  split
  · rfl
  · rw [rk_j h hj]
theorem kq_ai {n i : Nat} : kq_a n (i + 1) (i + 2) (i + 3) = kq_a n i n (n + 1) := by
  by_cases c : i = 0
  · subst c
    have e : rk_F n 1 2 3 = rk_0 n 1 := rfl
    show (if 0 + 1 = 0 then _ else rk_0 n n - rk_F n 1 2 3) = _
    rw [e]
    rfl
  · unfold kq_a
    rw [if_neg (by omega), if_neg c, rk_i (n + 1) (Nat.le_refl _)]
theorem rX7_byBits_98 {vs : List pt_V} {M M' : pt_M} {L : List (Nat × pt_V)} (hvs : (vs.map pt_w).sum ≤ 7) (hX : M'.2.2.2.2 = M.2.2.2.2) (h : pt_Go YX7_byBits (0, pt_en 0 vs, [], M) (98, L, [], M')) : pt_Does yX7_byBits YX7_byBits vs M none M' := pt_does_go tX7_byBits_ok nX7_byBits hvs hX ⟨_, by with_unfolding_all rfl, rfl, rfl⟩ h
set_option maxRecDepth 100000 in
theorem gX7_byBits_0_1 (x1 : Int32) (x2 : Int32)  (M : pt_M) :
    pt_Go YX7_byBits (0, [(0, pt_r 7 0), (1, pt_i x1), (2, pt_i x2)], [], M)
      (10, [(0, pt_r 7 0), (1, pt_i x1), (2, pt_i x2), (3, pt_i (to_F (x1 - 1))), (4, pt_i 0)], [], M) :=
  pt_run_ok tX7_byBits_ok 7 [.inr (1, some (pt_i (to_F (x1 - 1))), M)] (P := pt_Cal YX7_byBits (.invokestatic 161) [pt_i (x1 - 1)] M (some (pt_i (to_F (x1 - 1)))) M ∧ True) (by with_unfolding_all rfl) ⟨(pt_callS kX7_byBits_161 mX7_threesOf rfl (dX7_threesOf (x1 - 1) M)), trivial⟩
set_option maxRecDepth 100000 in
theorem gX7_byBits_10_1 (l1 : Int32) (l2 : Int32) (l3 : Int32) (l4 : Int32)  (M : pt_M) (h1 : ¬ l1 ≤ l4) :
    pt_Go YX7_byBits (10, [(0, pt_r 7 0), (1, pt_i l1), (2, pt_i l2), (3, pt_i l3), (4, pt_i l4)], [], M)
      (22, [(0, pt_r 7 0), (1, pt_i l1), (2, pt_i l2), (3, pt_i l3), (4, pt_i l4), (5, pt_i (l4 + 1))], [], M) :=
  pt_run_ok tX7_byBits_ok 7 [.inl false] (P := (¬ l1 ≤ l4) ∧ True) (by with_unfolding_all rfl) ⟨h1, trivial⟩
set_option maxRecDepth 100000 in
theorem gX7_byBits_10_2 (l1 : Int32) (l2 : Int32) (l3 : Int32) (l4 : Int32)  (M : pt_M) (h1 : l1 ≤ l4) :
    pt_Go YX7_byBits (10, [(0, pt_r 7 0), (1, pt_i l1), (2, pt_i l2), (3, pt_i l3), (4, pt_i l4)], [], M)
      (98, [(0, pt_r 7 0), (1, pt_i l1), (2, pt_i l2), (3, pt_i l3), (4, pt_i l4)], [], M) :=
  pt_run_ok tX7_byBits_ok 3 [.inl true] (P := (l1 ≤ l4) ∧ True) (by with_unfolding_all rfl) ⟨h1, trivial⟩
set_option maxRecDepth 100000 in
theorem gX7_byBits_22_1 (l1 : Int32) (l2 : Int32) (l3 : Int32) (l4 : Int32) (l5 : Int32)  (M : pt_M) (h1 : ¬ l1 ≤ l5) :
    pt_Go YX7_byBits (22, [(0, pt_r 7 0), (1, pt_i l1), (2, pt_i l2), (3, pt_i l3), (4, pt_i l4), (5, pt_i l5)], [], M)
      (34, [(0, pt_r 7 0), (1, pt_i l1), (2, pt_i l2), (3, pt_i l3), (4, pt_i l4), (5, pt_i l5), (6, pt_i (l5 + 1))], [], M) :=
  pt_run_ok tX7_byBits_ok 7 [.inl false] (P := (¬ l1 ≤ l5) ∧ True) (by with_unfolding_all rfl) ⟨h1, trivial⟩
set_option maxRecDepth 100000 in
theorem gX7_byBits_22_2 (l1 : Int32) (l2 : Int32) (l3 : Int32) (l4 : Int32) (l5 : Int32)  (M : pt_M) (h1 : l1 ≤ l5) :
    pt_Go YX7_byBits (22, [(0, pt_r 7 0), (1, pt_i l1), (2, pt_i l2), (3, pt_i l3), (4, pt_i l4), (5, pt_i l5)], [], M)
      (10, [(0, pt_r 7 0), (1, pt_i l1), (2, pt_i l2), (3, pt_i l3), (4, pt_i (l4 + 1))], [], M) :=
  (pt_run_ok tX7_byBits_ok 5 [.inl true] (P := (l1 ≤ l5) ∧ True) (by with_unfolding_all rfl) ⟨h1, trivial⟩ : pt_Go YX7_byBits _ (10, [(0, pt_r 7 0), (1, pt_i l1), (2, pt_i l2), (3, pt_i l3), (4, pt_i (l4 + 1)), (5, pt_i l5)], [], M)).tr (pt_pick [0, 1, 2, 3, 4] (by with_unfolding_all rfl))
set_option maxRecDepth 100000 in
theorem gX7_byBits_34_1 (l1 : Int32) (l2 : Int32) (l3 : Int32) (l4 : Int32) (l5 : Int32) (l6 : Int32)  (M : pt_M) (h1 : ¬ l1 ≤ l6) (h2 : ¬ l4 ≤ 0) (h3 : ((l2 >>> ((l3 + (-1)) &&& 31)) &&& 1) = 1) (h4 : pt_in (720 + (th_I l4 l5 l6)) 960) :
    pt_Go YX7_byBits (34, [(0, pt_r 7 0), (1, pt_i l1), (2, pt_i l2), (3, pt_i l3), (4, pt_i l4), (5, pt_i l5), (6, pt_i l6)], [], M)
      (34, [(0, pt_r 7 0), (1, pt_i l1), (2, pt_i l2), (3, pt_i (l3 + (-1))), (4, pt_i l4), (5, pt_i l5), (6, pt_i (l6 + 1))], [], (se_M M 720 l4 l5 l6 (-1))) :=
  pt_run_ok tX7_byBits_ok 25 [.inl false, .inl false, .inl false, .inl false, .inr (6, none, (se_M M 720 l4 l5 l6 (-1)))] (P := (¬ l1 ≤ l6) ∧ (¬ l4 ≤ 0) ∧ (¬ l4 ≤ 0) ∧ (((l2 >>> ((l3 + (-1)) &&& 31)) &&& 1) = 1) ∧ pt_Cal YX7_byBits (.invokevirtual 99) [pt_r 7 0, pt_i 720, pt_i l4, pt_i l5, pt_i l6, pt_i (-1)] M none (se_M M 720 l4 l5 l6 (-1)) ∧ True) (by with_unfolding_all rfl) ⟨h1, h2, h2, h3, (pt_callV (i := 0) kX7_byBits_99 mX7_set rfl (by decide) rfl (dX7_set h4)), trivial⟩
set_option maxRecDepth 100000 in
theorem gX7_byBits_34_2 (l1 : Int32) (l2 : Int32) (l3 : Int32) (l4 : Int32) (l5 : Int32) (l6 : Int32)  (M : pt_M) (h1 : ¬ l1 ≤ l6) (h2 : ¬ l4 ≤ 0) (h3 : ¬ ((l2 >>> ((l3 + (-1)) &&& 31)) &&& 1) = 1) (h4 : pt_in (720 + (th_I l4 l5 l6)) 960) :
    pt_Go YX7_byBits (34, [(0, pt_r 7 0), (1, pt_i l1), (2, pt_i l2), (3, pt_i l3), (4, pt_i l4), (5, pt_i l5), (6, pt_i l6)], [], M)
      (34, [(0, pt_r 7 0), (1, pt_i l1), (2, pt_i l2), (3, pt_i (l3 + (-1))), (4, pt_i l4), (5, pt_i l5), (6, pt_i (l6 + 1))], [], (se_M M 720 l4 l5 l6 1)) :=
  pt_run_ok tX7_byBits_ok 24 [.inl false, .inl false, .inl false, .inl true, .inr (6, none, (se_M M 720 l4 l5 l6 1))] (P := (¬ l1 ≤ l6) ∧ (¬ l4 ≤ 0) ∧ (¬ l4 ≤ 0) ∧ (¬ ((l2 >>> ((l3 + (-1)) &&& 31)) &&& 1) = 1) ∧ pt_Cal YX7_byBits (.invokevirtual 99) [pt_r 7 0, pt_i 720, pt_i l4, pt_i l5, pt_i l6, pt_i 1] M none (se_M M 720 l4 l5 l6 1) ∧ True) (by with_unfolding_all rfl) ⟨h1, h2, h2, h3, (pt_callV (i := 0) kX7_byBits_99 mX7_set rfl (by decide) rfl (dX7_set h4)), trivial⟩
set_option maxRecDepth 100000 in
theorem gX7_byBits_34_3 (l1 : Int32) (l2 : Int32) (l3 : Int32) (l4 : Int32) (l5 : Int32) (l6 : Int32)  (M : pt_M) (h1 : ¬ l1 ≤ l6) (h2 : l4 ≤ 0) (h3 : pt_in (720 + (th_I l4 l5 l6)) 960) :
    pt_Go YX7_byBits (34, [(0, pt_r 7 0), (1, pt_i l1), (2, pt_i l2), (3, pt_i l3), (4, pt_i l4), (5, pt_i l5), (6, pt_i l6)], [], M)
      (34, [(0, pt_r 7 0), (1, pt_i l1), (2, pt_i l2), (3, pt_i l3), (4, pt_i l4), (5, pt_i l5), (6, pt_i (l6 + 1))], [], (se_M M 720 l4 l5 l6 1)) :=
  pt_run_ok tX7_byBits_ok 16 [.inl false, .inl true, .inl true, .inr (6, none, (se_M M 720 l4 l5 l6 1))] (P := (¬ l1 ≤ l6) ∧ (l4 ≤ 0) ∧ (l4 ≤ 0) ∧ pt_Cal YX7_byBits (.invokevirtual 99) [pt_r 7 0, pt_i 720, pt_i l4, pt_i l5, pt_i l6, pt_i 1] M none (se_M M 720 l4 l5 l6 1) ∧ True) (by with_unfolding_all rfl) ⟨h1, h2, h2, (pt_callV (i := 0) kX7_byBits_99 mX7_set rfl (by decide) rfl (dX7_set h3)), trivial⟩
set_option maxRecDepth 100000 in
theorem gX7_byBits_34_4 (l1 : Int32) (l2 : Int32) (l3 : Int32) (l4 : Int32) (l5 : Int32) (l6 : Int32)  (M : pt_M) (h1 : l1 ≤ l6) :
    pt_Go YX7_byBits (34, [(0, pt_r 7 0), (1, pt_i l1), (2, pt_i l2), (3, pt_i l3), (4, pt_i l4), (5, pt_i l5), (6, pt_i l6)], [], M)
      (22, [(0, pt_r 7 0), (1, pt_i l1), (2, pt_i l2), (3, pt_i l3), (4, pt_i l4), (5, pt_i (l5 + 1))], [], M) :=
  (pt_run_ok tX7_byBits_ok 5 [.inl true] (P := (l1 ≤ l6) ∧ True) (by with_unfolding_all rfl) ⟨h1, trivial⟩ : pt_Go YX7_byBits _ (22, [(0, pt_r 7 0), (1, pt_i l1), (2, pt_i l2), (3, pt_i l3), (4, pt_i l4), (5, pt_i (l5 + 1)), (6, pt_i l6)], [], M)).tr (pt_pick [0, 1, 2, 3, 4, 5] (by with_unfolding_all rfl))
theorem dX7_byBits {n x : Nat} {M : pt_M} (h3 : 3 ≤ n) (h6 : n ≤ 6) (hx : x < kq_n n) : pt_Does yX7_byBits YX7_byBits [pt_r 7 0, pt_i (nI n), pt_i (nI x)] M none (st_M M 720 n fun i j k => !x.testBit (kq_pos n i j k)) := by
  generalize hS : (fun i j k => !x.testBit (kq_pos n i j k)) = S
  obtain ⟨p1, p2, p3⟩ := kq_p h3 h6
  have hk1 : kq_n n ≤ 1024 := by
    have c : n = 3 ∨ n = 4 ∨ n = 5 ∨ n = 6 := by omega
    rcases c with rfl | rfl | rfl | rfl <;> decide
  have hN : rk_0 n n ≤ 120 := (to_nI (show n ≤ 10 by omega)).2
  have e720 : (720 : Int32) = nI 720 := rfl
  have K := pt_three (Y := YX7_byBits) (n := n)
    (fun i => (10, [(0, pt_r 7 0), (1, pt_i (nI n)), (2, pt_i (nI x)), (3, pt_i (nI (kq_a n i (i + 1) (i + 2)))), (4, pt_i (nI i))], [], sp_M M 720 n S i (i + 1) (i + 2)))
    (fun i j => (22, [(0, pt_r 7 0), (1, pt_i (nI n)), (2, pt_i (nI x)), (3, pt_i (nI (kq_a n i j (j + 1)))), (4, pt_i (nI i)), (5, pt_i (nI j))], [], sp_M M 720 n S i j (j + 1)))
    (fun i j k => (34, [(0, pt_r 7 0), (1, pt_i (nI n)), (2, pt_i (nI x)), (3, pt_i (nI (kq_a n i j k))), (4, pt_i (nI i)), (5, pt_i (nI j)), (6, pt_i (nI k))], [], sp_M M 720 n S i j k))
    (fun i hi => (gX7_byBits_10_1 (nI n) (nI x) _ (nI i) _ (nI_ge hi (by omega))).to (by rw [nI_1]))
    (fun i j hij hj => (gX7_byBits_22_1 (nI n) (nI x) _ (nI i) (nI j) _ (nI_ge hj (by omega))).to (by rw [nI_1]))
    (fun i hi => (gX7_byBits_22_2 (nI n) (nI x) _ (nI i) (nI n) _ (Int32.le_refl _)).to (by rw [nI_1, sp_i (Nat.le_refl n), kq_ai]))
    (fun i j k hij hjk hk => by
      obtain ⟨q1, q2⟩ := p3 i j k hij hjk hk
      have hin := si_in (show 720 + 120 ≤ 960 by decide) hij hjk (show k < 10 by omega)
      have hSv : S i j k = !x.testBit (kq_pos n i j k) := by rw [← hS]
      by_cases c : i = 0
      · refine (gX7_byBits_34_3 (nI n) (nI x) (nI (kq_a n i j k)) (nI i) (nI j) (nI k) _ (nI_ge hk (by omega)) (by rw [c]; decide) (by rw [e720]; exact hin)).to ?_
        have hb : x.testBit (kq_pos n i j k) = false := Nat.testBit_lt_two_pow (Nat.lt_of_lt_of_le hx (q2 c))
        have ea : kq_a n i j k = kq_a n i j (k + 1) := by rw [c]; rfl
        rw [nI_1, e720, sp_k (by decide) (by omega) hij hjk hk (by rw [hSv, hb]; rfl), ea]
      · have ha : kq_a n i j k = kq_pos n i j k + 1 := by
          unfold kq_a
          rw [if_neg c]
          omega
        have h0 : ¬ nI i ≤ 0 := fun z => nI_ge (a := 0) (b := i) (by omega) (by omega) z
        have em : nI (kq_a n i j k) + (-1) = nI (kq_pos n i j k) := by rw [nI_m (by omega), ha]; rfl
        have eb : ((nI x >>> ((nI (kq_a n i j k) + (-1)) &&& 31)) &&& 1) = 1 ↔ x.testBit (kq_pos n i j k) = true := by
          rw [em]
          by_cases y : kq_pos n i j k < 32
          · exact pt_bit1 (by omega) y
          · exfalso
            have : rk_0 n n ≤ 20 := (by decide +kernel : ∀ n : Fin 7, rk_0 n.1 n.1 ≤ 20) ⟨n, by omega⟩
            omega
        have ea : nI (kq_a n i j k) + (-1) = nI (kq_a n i j (k + 1)) := by rw [nI_m (by omega), kq_ak c hjk]
        by_cases hv : x.testBit (kq_pos n i j k) = true
        · refine (gX7_byBits_34_1 (nI n) (nI x) (nI (kq_a n i j k)) (nI i) (nI j) (nI k) _ (nI_ge hk (by omega)) h0 (eb.mpr hv) (by rw [e720]; exact hin)).to ?_
          rw [nI_1, e720, sp_k (by decide) (by omega) hij hjk hk (by rw [hSv, hv]; rfl), ea]
        · refine (gX7_byBits_34_2 (nI n) (nI x) (nI (kq_a n i j k)) (nI i) (nI j) (nI k) _ (nI_ge hk (by omega)) h0 (fun z => hv (eb.mp z)) (by rw [e720]; exact hin)).to ?_
          rw [nI_1, e720, sp_k (by decide) (by omega) hij hjk hk (by rw [hSv, Bool.eq_false_iff.mpr hv]; rfl), ea])
    (fun i j hij hj => (gX7_byBits_34_4 (nI n) (nI x) _ (nI i) (nI j) (nI n) _ (Int32.le_refl _)).to (by rw [nI_1, sp_j, kq_aj hij hj]))
  refine rX7_byBits_98 (Nat.le_of_ble_eq_true rfl) rfl (((gX7_byBits_0_1 (nI n) (nI x) M).to ?_).tr (K.tr ((gX7_byBits_10_2 (nI n) (nI x) _ (nI n) _ (Int32.le_refl _)).toM ?_)))
  · show _ = (10, [(0, pt_r 7 0), (1, pt_i (nI n)), (2, pt_i (nI x)), (3, pt_i (nI (kq_a n 0 1 2))), (4, pt_i (nI 0))], [], sp_M M 720 n S 0 1 2)
    rw [sp_0, p1, (to_nI (show n - 1 ≤ 10 by omega)).1, p2]
    rfl
  · rw [sp_n]
