/-! THE MODEL: whyNot -/
def pn_F (m i : Nat) : Nat := ((List.range 10).filter fun k => m.testBit k).getD i 0
set_option maxRecDepth 100000 in
theorem m4_tab : ((List.range 11).all fun n => (l4_L n).all fun q => decide (m4_F q < 2 ^ n) && (decide (ct_N (fun k => (m4_F q).testBit k) n = 4) && (((m4_F q).testBit q.1 && (decide (ct_N (fun k => (m4_F q).testBit k) q.1 = 0) && decide (pn_F (m4_F q) 0 = q.1))) && (((m4_F q).testBit q.2.1 && (decide (ct_N (fun k => (m4_F q).testBit k) q.2.1 = 1) && decide (pn_F (m4_F q) 1 = q.2.1))) && (((m4_F q).testBit q.2.2.1 && (decide (ct_N (fun k => (m4_F q).testBit k) q.2.2.1 = 2) && decide (pn_F (m4_F q) 2 = q.2.2.1))) && ((m4_F q).testBit q.2.2.2 && (decide (ct_N (fun k => (m4_F q).testBit k) q.2.2.2 = 3) && decide (pn_F (m4_F q) 3 = q.2.2.2)))))))) = true := by decide +kernel
set_option maxRecDepth 100000 in
theorem m5_tab : ((List.range 11).all fun n => (l5_L n).all fun q => decide (m5_F q < 2 ^ n) && (decide (ct_N (fun k => (m5_F q).testBit k) n = 5) && (((m5_F q).testBit q.1 && (decide (ct_N (fun k => (m5_F q).testBit k) q.1 = 0) && decide (pn_F (m5_F q) 0 = q.1))) && (((m5_F q).testBit q.2.1 && (decide (ct_N (fun k => (m5_F q).testBit k) q.2.1 = 1) && decide (pn_F (m5_F q) 1 = q.2.1))) && (((m5_F q).testBit q.2.2.1 && (decide (ct_N (fun k => (m5_F q).testBit k) q.2.2.1 = 2) && decide (pn_F (m5_F q) 2 = q.2.2.1))) && (((m5_F q).testBit q.2.2.2.1 && (decide (ct_N (fun k => (m5_F q).testBit k) q.2.2.2.1 = 3) && decide (pn_F (m5_F q) 3 = q.2.2.2.1))) && ((m5_F q).testBit q.2.2.2.2 && (decide (ct_N (fun k => (m5_F q).testBit k) q.2.2.2.2 = 4) && decide (pn_F (m5_F q) 4 = q.2.2.2.2))))))))) = true := by decide +kernel
theorem dX7_bk4 {o n : Nat} {q : Nat × Nat × Nat × Nat} {B : Nat → Nat → Nat → Bool} {M : pt_M} (h : ml_P M o n B) (hq : q ∈ l4_L n) : pt_Does yX7_breaks YX7_breaks [pt_r 7 0, pt_i (nI o), pt_i (nI n), pt_i (nI (m4_F q))] M (some (pt_i (pt_b (b4_F B (pn_F (m4_F q) 0) (pn_F (m4_F q) 1) (pn_F (m4_F q) 2) (pn_F (m4_F q) 3))))) (pt_wA M 36 0 (so_A (pt_A M 36 0) (m4_F q) n)) ∧ b4_F B (pn_F (m4_F q) 0) (pn_F (m4_F q) 1) (pn_F (m4_F q) 2) (pn_F (m4_F q) 3) = b4_F B q.1 q.2.1 q.2.2.1 q.2.2.2 := by
  obtain ⟨l1, l2, l3, l4⟩ := l4_mem hq
  have hn := h.2.1
  have t := List.all_eq_true.mp (pt_all m4_tab (i := n) (by omega)) q hq
  simp only [Bool.and_eq_true, decide_eq_true_eq] at t
  obtain ⟨t1, t2, ⟨a1, a2, a3⟩, ⟨b1, b2, b3⟩, ⟨c1, c2, c3⟩, d1, d2, d3⟩ := t
  have hp : ∀ i, i < 4 → so_A (pt_A M 36 0) (m4_F q) n i = nI (pn_F (m4_F q) i) ∧ pn_F (m4_F q) i < n := fun i hi => by
    match i, hi with
    | 0, _ => rw [a3, ← a2]; exact ⟨so_at a1 (by omega), by omega⟩
    | 1, _ => rw [b3, ← b2]; exact ⟨so_at b1 (by omega), by omega⟩
    | 2, _ => rw [c3, ← c2]; exact ⟨so_at c1 (by omega), by omega⟩
    | 3, _ => rw [d3, ← d2]; exact ⟨so_at d1 (by omega), by omega⟩
  have hj : ∀ i j, i < 4 → j < 4 → pn_F (m4_F q) i = pn_F (m4_F q) j → i = j := fun i j hi hj => by
    match i, hi with
    | 0, _ => match j, hj with
      | 0, _ => exact fun _ => rfl
      | 1, _ => rw [a3, b3]; omega
      | 2, _ => rw [a3, c3]; omega
      | 3, _ => rw [a3, d3]; omega
    | 1, _ => match j, hj with
      | 0, _ => rw [a3, b3]; omega
      | 1, _ => exact fun _ => rfl
      | 2, _ => rw [b3, c3]; omega
      | 3, _ => rw [b3, d3]; omega
    | 2, _ => match j, hj with
      | 0, _ => rw [a3, c3]; omega
      | 1, _ => rw [b3, c3]; omega
      | 2, _ => exact fun _ => rfl
      | 3, _ => rw [c3, d3]; omega
    | 3, _ => match j, hj with
      | 0, _ => rw [a3, d3]; omega
      | 1, _ => rw [b3, d3]; omega
      | 2, _ => rw [c3, d3]; omega
      | 3, _ => exact fun _ => rfl
  have D := dX7_breaks_4 (g := pn_F (m4_F q)) h t1 t2 hp hj
  rw [bs_4 (n := n) h.2.2.2 (fun i hi => (hp i hi).2) hj] at D
  exact ⟨D, by rw [a3, b3, c3, d3]⟩
theorem dX7_bk5 {o n : Nat} {q : Nat × Nat × Nat × Nat × Nat} {B : Nat → Nat → Nat → Bool} {M : pt_M} (h : ml_P M o n B) (hq : q ∈ l5_L n) : pt_Does yX7_breaks YX7_breaks [pt_r 7 0, pt_i (nI o), pt_i (nI n), pt_i (nI (m5_F q))] M (some (pt_i (pt_b (b5_F B (pn_F (m5_F q) 0) (pn_F (m5_F q) 1) (pn_F (m5_F q) 2) (pn_F (m5_F q) 3) (pn_F (m5_F q) 4))))) (pt_wA M 36 0 (so_A (pt_A M 36 0) (m5_F q) n)) ∧ b5_F B (pn_F (m5_F q) 0) (pn_F (m5_F q) 1) (pn_F (m5_F q) 2) (pn_F (m5_F q) 3) (pn_F (m5_F q) 4) = b5_F B q.1 q.2.1 q.2.2.1 q.2.2.2.1 q.2.2.2.2 := by
  obtain ⟨l1, l2, l3, l4, l5⟩ := l5_mem hq
  have hn := h.2.1
  have t := List.all_eq_true.mp (pt_all m5_tab (i := n) (by omega)) q hq
  simp only [Bool.and_eq_true, decide_eq_true_eq] at t
  obtain ⟨t1, t2, ⟨a1, a2, a3⟩, ⟨b1, b2, b3⟩, ⟨c1, c2, c3⟩, ⟨d1, d2, d3⟩, e1, e2, e3⟩ := t
  have hp : ∀ i, i < 5 → so_A (pt_A M 36 0) (m5_F q) n i = nI (pn_F (m5_F q) i) ∧ pn_F (m5_F q) i < n := fun i hi => by
    match i, hi with
    | 0, _ => rw [a3, ← a2]; exact ⟨so_at a1 (by omega), by omega⟩
    | 1, _ => rw [b3, ← b2]; exact ⟨so_at b1 (by omega), by omega⟩
    | 2, _ => rw [c3, ← c2]; exact ⟨so_at c1 (by omega), by omega⟩
    | 3, _ => rw [d3, ← d2]; exact ⟨so_at d1 (by omega), by omega⟩
    | 4, _ => rw [e3, ← e2]; exact ⟨so_at e1 (by omega), by omega⟩
  have hm : ∀ i j, i < j → j < 5 → pn_F (m5_F q) i < pn_F (m5_F q) j := fun i j hij hj => by
    match j, hj with
    | 0, _ => omega
    | 1, _ => match i, hij with
      | 0, _ => rw [a3, b3]; omega
    | 2, _ => match i, hij with
      | 0, _ => rw [a3, c3]; omega
      | 1, _ => rw [b3, c3]; omega
    | 3, _ => match i, hij with
      | 0, _ => rw [a3, d3]; omega
      | 1, _ => rw [b3, d3]; omega
      | 2, _ => rw [c3, d3]; omega
    | 4, _ => match i, hij with
      | 0, _ => rw [a3, e3]; omega
      | 1, _ => rw [b3, e3]; omega
      | 2, _ => rw [c3, e3]; omega
      | 3, _ => rw [d3, e3]; omega
  have hj : ∀ i j, i < 5 → j < 5 → pn_F (m5_F q) i = pn_F (m5_F q) j → i = j := fun i j hi hj he => by
    rcases Nat.lt_trichotomy i j with z | z | z
    · have := hm i j z hj
      omega
    · exact z
    · have := hm j i z hi
      omega
  have D := dX7_breaks_5 (g := pn_F (m5_F q)) h t1 t2 hp hj
  rw [bs_5 (n := n) h.2.2.2 (fun i hi => (hp i hi).2) hj] at D
  exact ⟨D, by rw [a3, b3, c3, d3, e3]⟩
theorem rv_4 {n t : Nat} (hn : n ≤ 10) (ht : t < 2 ^ n - 1) (hc : pc_F (2 ^ n - 1 - t) = 4) : ∃ q, q ∈ l4_L n ∧ m4_F q = rv_F n (2 ^ n - 1 - t) := by
  have h1 : rv_F n (2 ^ n - 1 - t) ∈ ((List.range' 0 (2 ^ n - 1 - 0)).filter fun t => decide (pc_F (2 ^ n - 1 - t) = 4)).map fun t => rv_F n (2 ^ n - 1 - t) := List.mem_map.mpr ⟨t, List.mem_filter.mpr ⟨List.mem_range'.mpr ⟨t, by omega, by omega⟩, decide_eq_true hc⟩, rfl⟩
  rw [of_decide_eq_true (pt_all l4_tab (i := n) (by omega))] at h1
  exact List.mem_map.mp h1
theorem rv_5 {n t : Nat} (hn : n ≤ 10) (ht : t < 2 ^ n - 1) (hc : pc_F (2 ^ n - 1 - t) = 5) : ∃ q, q ∈ l5_L n ∧ m5_F q = rv_F n (2 ^ n - 1 - t) := by
  have h1 : rv_F n (2 ^ n - 1 - t) ∈ ((List.range' 0 (2 ^ n - 1 - 0)).filter fun t => decide (pc_F (2 ^ n - 1 - t) = 5)).map fun t => rv_F n (2 ^ n - 1 - t) := List.mem_map.mpr ⟨t, List.mem_filter.mpr ⟨List.mem_range'.mpr ⟨t, by omega, by omega⟩, decide_eq_true hc⟩, rfl⟩
  rw [of_decide_eq_true (pt_all l5_tab (i := n) (by omega))] at h1
  exact List.mem_map.mp h1
theorem rX7_whyNot_82 {vs : List pt_V} {M M' : pt_M} {x : Int32} {L : List (Nat × pt_V)} (hvs : (vs.map pt_w).sum ≤ 7) (hX : M'.2.2.2.2 = M.2.2.2.2) (h : pt_Go YX7_whyNot (0, pt_en 0 vs, [], M) (82, L, [pt_i x], M')) : pt_Does yX7_whyNot YX7_whyNot vs M (some (pt_i x)) M' := pt_does_go tX7_whyNot_ok nX7_whyNot hvs hX ⟨_, by with_unfolding_all rfl, rfl, _, rfl, rfl⟩ h
theorem rX7_whyNot_96 {vs : List pt_V} {M M' : pt_M} {x : Int32} {L : List (Nat × pt_V)} (hvs : (vs.map pt_w).sum ≤ 7) (hX : M'.2.2.2.2 = M.2.2.2.2) (h : pt_Go YX7_whyNot (0, pt_en 0 vs, [], M) (96, L, [pt_i x], M')) : pt_Does yX7_whyNot YX7_whyNot vs M (some (pt_i x)) M' := pt_does_go tX7_whyNot_ok nX7_whyNot hvs hX ⟨_, by with_unfolding_all rfl, rfl, _, rfl, rfl⟩ h
set_option maxRecDepth 100000 in
theorem gX7_whyNot_0_1 (x1 : Int32) (x2 : Int32) (n : Nat) (r : Int32) (M2 : pt_M) (M : pt_M) :
    pt_Go YX7_whyNot (0, [(0, pt_r 7 0), (1, pt_i x1), (2, pt_i x2)], [], M)
      (2, [(0, pt_r 7 0), (1, pt_i x1), (2, pt_i x2), (3, pt_i 4)], [], M) :=
  pt_run_ok tX7_whyNot_ok 2 [] (P := True) (by with_unfolding_all rfl) trivial
set_option maxRecDepth 100000 in
theorem gX7_whyNot_2_1 (l1 : Int32) (l2 : Int32) (l3 : Int32) (n : Nat) (r : Int32) (M2 : pt_M) (M : pt_M) (h1 : ¬ 6 ≤ l3) :
    pt_Go YX7_whyNot (2, [(0, pt_r 7 0), (1, pt_i l1), (2, pt_i l2), (3, pt_i l3)], [], M)
      (15, [(0, pt_r 7 0), (1, pt_i l1), (2, pt_i l2), (3, pt_i l3), (4, pt_i (((1 : Int32) <<< (l2 &&& 31)) - 1))], [], M) :=
  pt_run_ok tX7_whyNot_ok 9 [.inl false] (P := (¬ 6 ≤ l3) ∧ True) (by with_unfolding_all rfl) ⟨h1, trivial⟩
set_option maxRecDepth 100000 in
theorem gX7_whyNot_2_2 (l1 : Int32) (l2 : Int32) (l3 : Int32) (n : Nat) (r : Int32) (M2 : pt_M) (M : pt_M) (h1 : 6 ≤ l3) :
    pt_Go YX7_whyNot (2, [(0, pt_r 7 0), (1, pt_i l1), (2, pt_i l2), (3, pt_i l3)], [], M)
      (96, [(0, pt_r 7 0), (1, pt_i l1), (2, pt_i l2), (3, pt_i l3)], [pt_i 0], M) :=
  pt_run_ok tX7_whyNot_ok 4 [.inl true] (P := (6 ≤ l3) ∧ True) (by with_unfolding_all rfl) ⟨h1, trivial⟩
set_option maxRecDepth 100000 in
theorem gX7_whyNot_15_1 (l1 : Int32) (l2 : Int32) (l3 : Int32) (l4 : Int32) (n : Nat) (r : Int32) (M2 : pt_M) (M : pt_M) (h1 : ¬ l4 ≤ 0) (h2 : st_P l4 0) (h3 : ¬ (nI (pc_F (pt_nt l4))) = l3) :
    pt_Go YX7_whyNot (15, [(0, pt_r 7 0), (1, pt_i l1), (2, pt_i l2), (3, pt_i l3), (4, pt_i l4)], [], M)
      (15, [(0, pt_r 7 0), (1, pt_i l1), (2, pt_i l2), (3, pt_i l3), (4, pt_i (l4 + (-1)))], [], M) :=
  pt_run_ok tX7_whyNot_ok 9 [.inl false, .inr (1, some (pt_i (nI (pc_F (pt_nt l4)))), M), .inl false] (P := (¬ l4 ≤ 0) ∧ pt_Cal YX7_whyNot (.invokestatic 129) [pt_i l4] M (some (pt_i (nI (pc_F (pt_nt l4))))) M ∧ (¬ (nI (pc_F (pt_nt l4))) = l3) ∧ True) (by with_unfolding_all rfl) ⟨h1, (pt_callS kX7_whyNot_129 mX7_bits rfl (dX7_bits_t h2)), h3, trivial⟩
set_option maxRecDepth 100000 in
theorem gX7_whyNot_15_2 (l1 : Int32) (l2 : Int32) (l3 : Int32) (l4 : Int32) (n : Nat) (r : Int32) (M2 : pt_M) (M : pt_M) (h1 : ¬ l4 ≤ 0) (h2 : st_P l4 0) (h3 : (nI (pc_F (pt_nt l4))) = l3) :
    pt_Go YX7_whyNot (15, [(0, pt_r 7 0), (1, pt_i l1), (2, pt_i l2), (3, pt_i l3), (4, pt_i l4)], [], M)
      (38, [(0, pt_r 7 0), (1, pt_i l1), (2, pt_i l2), (3, pt_i l3), (4, pt_i l4), (5, pt_i 0), (6, pt_i 0)], [], M) :=
  pt_run_ok tX7_whyNot_ok 10 [.inl false, .inr (1, some (pt_i (nI (pc_F (pt_nt l4)))), M), .inl true] (P := (¬ l4 ≤ 0) ∧ pt_Cal YX7_whyNot (.invokestatic 129) [pt_i l4] M (some (pt_i (nI (pc_F (pt_nt l4))))) M ∧ ((nI (pc_F (pt_nt l4))) = l3) ∧ True) (by with_unfolding_all rfl) ⟨h1, (pt_callS kX7_whyNot_129 mX7_bits rfl (dX7_bits_t h2)), h3, trivial⟩
set_option maxRecDepth 100000 in
theorem gX7_whyNot_15_3 (l1 : Int32) (l2 : Int32) (l3 : Int32) (l4 : Int32) (n : Nat) (r : Int32) (M2 : pt_M) (M : pt_M) (h1 : l4 ≤ 0) :
    pt_Go YX7_whyNot (15, [(0, pt_r 7 0), (1, pt_i l1), (2, pt_i l2), (3, pt_i l3), (4, pt_i l4)], [], M)
      (2, [(0, pt_r 7 0), (1, pt_i l1), (2, pt_i l2), (3, pt_i (l3 + 1))], [], M) :=
  (pt_run_ok tX7_whyNot_ok 4 [.inl true] (P := (l4 ≤ 0) ∧ True) (by with_unfolding_all rfl) ⟨h1, trivial⟩ : pt_Go YX7_whyNot _ (2, [(0, pt_r 7 0), (1, pt_i l1), (2, pt_i l2), (3, pt_i (l3 + 1)), (4, pt_i l4)], [], M)).tr (pt_pick [0, 1, 2, 3] (by with_unfolding_all rfl))
set_option maxRecDepth 100000 in
theorem gX7_whyNot_38_1 (l1 : Int32) (l2 : Int32) (l3 : Int32) (l4 : Int32) (l5 : Int32) (l6 : Int32) (n : Nat) (r : Int32) (M2 : pt_M) (M : pt_M) (h1 : ¬ l2 ≤ l6) :
    pt_Go YX7_whyNot (38, [(0, pt_r 7 0), (1, pt_i l1), (2, pt_i l2), (3, pt_i l3), (4, pt_i l4), (5, pt_i l5), (6, pt_i l6)], [], M)
      (38, [(0, pt_r 7 0), (1, pt_i l1), (2, pt_i l2), (3, pt_i l3), (4, pt_i l4), (5, pt_i (l5 ||| (((l4 >>> (((l2 - 1) - l6) &&& 31)) &&& 1) <<< (l6 &&& 31)))), (6, pt_i (l6 + 1))], [], M) :=
  pt_run_ok tX7_whyNot_ok 19 [.inl false] (P := (¬ l2 ≤ l6) ∧ True) (by with_unfolding_all rfl) ⟨h1, trivial⟩
set_option maxRecDepth 100000 in
theorem gX7_whyNot_38_2 (l1 : Int32) (l2 : Int32) (l3 : Int32) (l4 : Int32) (l5 : Int32) (l6 : Int32) (n : Nat) (r : Int32) (M2 : pt_M) (M : pt_M) (h1 : l2 ≤ l6) (h2 : pt_Does yX7_breaks YX7_breaks [pt_r 7 0, pt_i l1, pt_i l2, pt_i l5] M (some (pt_i r)) M2) (h3 : ¬ r = 0) :
    pt_Go YX7_whyNot (38, [(0, pt_r 7 0), (1, pt_i l1), (2, pt_i l2), (3, pt_i l3), (4, pt_i l4), (5, pt_i l5), (6, pt_i l6)], [], M)
      (82, [(0, pt_r 7 0), (1, pt_i l1), (2, pt_i l2), (3, pt_i l3), (4, pt_i l4), (5, pt_i l5), (6, pt_i l6)], [pt_i l5], M2) :=
  pt_run_ok tX7_whyNot_ok 10 [.inl true, .inr (4, some (pt_i r), M2), .inl false] (P := (l2 ≤ l6) ∧ pt_Cal YX7_whyNot (.invokevirtual 133) [pt_r 7 0, pt_i l1, pt_i l2, pt_i l5] M (some (pt_i r)) M2 ∧ (¬ r = 0) ∧ True) (by with_unfolding_all rfl) ⟨h1, (pt_callV (i := 0) kX7_whyNot_133 mX7_breaks rfl (by decide) rfl h2), h3, trivial⟩
set_option maxRecDepth 100000 in
theorem gX7_whyNot_38_3 (l1 : Int32) (l2 : Int32) (l3 : Int32) (l4 : Int32) (l5 : Int32) (l6 : Int32) (n : Nat) (r : Int32) (M2 : pt_M) (M : pt_M) (h1 : l2 ≤ l6) (h2 : pt_Does yX7_breaks YX7_breaks [pt_r 7 0, pt_i l1, pt_i l2, pt_i l5] M (some (pt_i r)) M2) (h3 : r = 0) :
    pt_Go YX7_whyNot (38, [(0, pt_r 7 0), (1, pt_i l1), (2, pt_i l2), (3, pt_i l3), (4, pt_i l4), (5, pt_i l5), (6, pt_i l6)], [], M)
      (15, [(0, pt_r 7 0), (1, pt_i l1), (2, pt_i l2), (3, pt_i l3), (4, pt_i (l4 + (-1)))], [], M2) :=
  (pt_run_ok tX7_whyNot_ok 11 [.inl true, .inr (4, some (pt_i r), M2), .inl true] (P := (l2 ≤ l6) ∧ pt_Cal YX7_whyNot (.invokevirtual 133) [pt_r 7 0, pt_i l1, pt_i l2, pt_i l5] M (some (pt_i r)) M2 ∧ (r = 0) ∧ True) (by with_unfolding_all rfl) ⟨h1, (pt_callV (i := 0) kX7_whyNot_133 mX7_breaks rfl (by decide) rfl h2), h3, trivial⟩ : pt_Go YX7_whyNot _ (15, [(0, pt_r 7 0), (1, pt_i l1), (2, pt_i l2), (3, pt_i l3), (4, pt_i (l4 + (-1))), (5, pt_i l5), (6, pt_i l6)], [], M2)).tr (pt_pick [0, 1, 2, 3, 4] (by with_unfolding_all rfl))
theorem nI_m {x : Nat} (h : 0 < x) : nI x + (-1) = nI (x - 1) := by
  have e : nI x = nI (x - 1) + 1 := by
    rw [nI_1]
    exact congrArg nI (by omega)
  rw [e, Int32.add_assoc, show (1 : Int32) + (-1) = 0 by decide, Int32.add_zero]
theorem wn_rv {o n w x : Nat} {M : pt_M} (hn : n ≤ 10) (hx : x < 1024) : pt_Go YX7_whyNot (38, [(0, pt_r 7 0), (1, pt_i (nI o)), (2, pt_i (nI n)), (3, pt_i (nI w)), (4, pt_i (nI x)), (5, pt_i 0), (6, pt_i 0)], [], M) (38, [(0, pt_r 7 0), (1, pt_i (nI o)), (2, pt_i (nI n)), (3, pt_i (nI w)), (4, pt_i (nI x)), (5, pt_i (nI (rv_F n x))), (6, pt_i (nI n))], [], M) := by
  have K := pt_for0 (Y := YX7_whyNot) (fun k => (38, [(0, pt_r 7 0), (1, pt_i (nI o)), (2, pt_i (nI n)), (3, pt_i (nI w)), (4, pt_i (nI x)), (5, pt_i (nI (pb_s k fun k => x.testBit (n - 1 - k)))), (6, pt_i (nI k))], [], M)) (n := n) fun k hk => by
    refine (gX7_whyNot_38_1 (nI o) (nI n) (nI w) (nI x) (nI (pb_s k fun k => x.testBit (n - 1 - k))) (nI k) n 0 M M (nI_ge hk (by omega))).to ?_
    have e1 : (nI n - 1) - nI k = nI (n - 1 - k) := by rw [show (1 : Int32) = nI 1 from rfl, pk_sub (by omega), pk_sub (by omega)]
    rw [e1, pt_bit (by omega) (by omega), nI_1]
    cases c : x.testBit (n - 1 - k)
    · have e2 : nI (pb_s k fun k => x.testBit (n - 1 - k)) ||| ((if false = true then (1 : Int32) else 0) <<< (nI k &&& 31)) = nI (pb_s (k + 1) fun k => x.testBit (n - 1 - k)) := by
        have e3 := pt_shl 0 k (by omega) (by rw [Nat.zero_mul]; decide)
        rw [pb_skip (p := fun k => x.testBit (n - 1 - k)) c]
        show nI _ ||| (nI 0 <<< (nI k &&& 31)) = _
        rw [e3, pt_or, Nat.zero_mul, Nat.or_zero]
      rw [e2]
    · have e2 : nI (pb_s k fun k => x.testBit (n - 1 - k)) ||| ((if true = true then (1 : Int32) else 0) <<< (nI k &&& 31)) = nI (pb_s (k + 1) fun k => x.testBit (n - 1 - k)) := pb_top (p := fun k => x.testBit (n - 1 - k)) (by omega) c
      rw [e2]
  exact K
def ws_A (f : Nat → Int32) (n w : Nat) : Nat → Nat → Int32
  | 0 => f
  | t + 1 => if pc_F (2 ^ n - 1 - t) = w then so_A (ws_A f n w t) (rv_F n (2 ^ n - 1 - t)) n else ws_A f n w t
theorem wn_x {o n w : Nat} {f : Nat → Int32} {bk : Nat → Bool} {M : pt_M} (hn : n ≤ 10) (hw : w < 6) (hb : ∀ t f', t < 2 ^ n - 1 → pc_F (2 ^ n - 1 - t) = w → pt_Does yX7_breaks YX7_breaks [pt_r 7 0, pt_i (nI o), pt_i (nI n), pt_i (nI (rv_F n (2 ^ n - 1 - t)))] (pt_wA M 36 0 f') (some (pt_i (pt_b (bk (rv_F n (2 ^ n - 1 - t)))))) (pt_wA M 36 0 (so_A f' (rv_F n (2 ^ n - 1 - t)) n))) :
    (∀ t, wn_F n w bk = some t → pt_Go YX7_whyNot (2, [(0, pt_r 7 0), (1, pt_i (nI o)), (2, pt_i (nI n)), (3, pt_i (nI w))], [], pt_wA M 36 0 f) (82, [], [pt_i (nI (rv_F n (2 ^ n - 1 - t)))], pt_wA M 36 0 (so_A (ws_A f n w t) (rv_F n (2 ^ n - 1 - t)) n))) ∧ (wn_F n w bk = none → pt_Go YX7_whyNot (2, [(0, pt_r 7 0), (1, pt_i (nI o)), (2, pt_i (nI n)), (3, pt_i (nI w))], [], pt_wA M 36 0 f) (2, [(0, pt_r 7 0), (1, pt_i (nI o)), (2, pt_i (nI n)), (3, pt_i (nI (w + 1)))], [], pt_wA M 36 0 (ws_A f n w (2 ^ n - 1)))) := by
  have h2 := pb_p2 hn
  have hp2 : 0 < 2 ^ n := Nat.two_pow_pos n
  have e0 : ((1 : Int32) <<< (nI n &&& 31)) - 1 = nI (2 ^ n - 1) := by
    rw [pt_shl1 n (by omega), show (1 : Int32) = nI 1 from rfl, pk_sub (by omega)]
  have g0 := (gX7_whyNot_2_1 (nI o) (nI n) (nI w) n 0 M (pt_wA M 36 0 f) (nI_ge (b := 6) hw (by decide))).to (by rw [e0])
  exact pt_nest (Y := YX7_whyNot) (S := fun t => (15, [(0, pt_r 7 0), (1, pt_i (nI o)), (2, pt_i (nI n)), (3, pt_i (nI w)), (4, pt_i (nI (2 ^ n - 1 - t)))], [], pt_wA M 36 0 (ws_A f n w t))) (R := fun t => (82, [], [pt_i (nI (rv_F n (2 ^ n - 1 - t)))], pt_wA M 36 0 (so_A (ws_A f n w t) (rv_F n (2 ^ n - 1 - t)) n))) (n := 2 ^ n - 1) (i := 0) (f := fun t => if decide (pc_F (2 ^ n - 1 - t) = w) && bk (rv_F n (2 ^ n - 1 - t)) then some t else none)
    (Nat.zero_le _) g0 ((gX7_whyNot_15_3 (nI o) (nI n) (nI w) (nI (2 ^ n - 1 - (2 ^ n - 1))) n 0 M _ (by rw [Nat.sub_self]; decide)).to (by rw [nI_1])) fun t _ ht => by
      have hx0 : 0 < 2 ^ n - 1 - t := by omega
      have hx1 : 2 ^ n - 1 - t < 1024 := by omega
      have hst : st_P (nI (2 ^ n - 1 - t)) 0 := ⟨_, rfl, hx1⟩
      have hpos : ¬ nI (2 ^ n - 1 - t) ≤ 0 := nI_ge (a := 0) hx0 (by omega)
      have ent : pt_nt (nI (2 ^ n - 1 - t)) = 2 ^ n - 1 - t := pt_nt_nI (by omega)
      have edec : nI (2 ^ n - 1 - t) + (-1) = nI (2 ^ n - 1 - (t + 1)) := by
        rw [nI_m hx0]
        exact congrArg nI (by omega)
      have hpc := pc_le (2 ^ n - 1 - t)
      by_cases c : pc_F (2 ^ n - 1 - t) = w
      · rw [decide_eq_true c, Bool.true_and]
        have g1 := (gX7_whyNot_15_2 (nI o) (nI n) (nI w) (nI (2 ^ n - 1 - t)) n 0 M (pt_wA M 36 0 (ws_A f n w t)) hpos hst (by rw [ent, c])).tr (wn_rv hn hx1)
        have hb' := hb t (ws_A f n w t) ht c
        have ew : ws_A f n w (t + 1) = so_A (ws_A f n w t) (rv_F n (2 ^ n - 1 - t)) n := if_pos c
        cases cb : bk (rv_F n (2 ^ n - 1 - t))
        · rw [cb] at hb'
          refine ⟨fun v z => (by cases z), fun _ => (g1.tr (gX7_whyNot_38_3 (nI o) (nI n) (nI w) (nI (2 ^ n - 1 - t)) (nI (rv_F n (2 ^ n - 1 - t))) (nI n) n (pt_b false) _ _ (Int32.le_refl _) hb' rfl)).to ?_⟩
          rw [edec, ew]
        · rw [cb] at hb'
          refine ⟨fun v z => ?_, fun z => (by cases z)⟩
          cases z
          exact (g1.tr (gX7_whyNot_38_2 (nI o) (nI n) (nI w) (nI (2 ^ n - 1 - t)) (nI (rv_F n (2 ^ n - 1 - t))) (nI n) n (pt_b true) _ _ (Int32.le_refl _) hb' (by decide))).tr pt_dropA
      · rw [decide_eq_false c, Bool.false_and]
        have ew : ws_A f n w (t + 1) = ws_A f n w t := if_neg c
        refine ⟨fun v z => (by cases z), fun _ => (gX7_whyNot_15_1 (nI o) (nI n) (nI w) (nI (2 ^ n - 1 - t)) n 0 M (pt_wA M 36 0 (ws_A f n w t)) hpos hst (by rw [ent]; exact nI_nE c (by omega) (by omega))).to ?_⟩
        rw [edec, ew]
theorem dX7_whyNot {o n : Nat} {B : Nat → Nat → Nat → Bool} {M : pt_M} (h : ml_P M o n B) : ∃ g, pt_Does yX7_whyNot YX7_whyNot [pt_r 7 0, pt_i (nI o), pt_i (nI n)] M (some (pt_i (nI (wy_F n B)))) (pt_wA M 36 0 g) := by
  have hn := h.2.1
  have hX : ∀ g, (pt_wA M 36 0 g).2.2.2.2 = M.2.2.2.2 := fun _ => rfl
  have g0 : pt_Go YX7_whyNot (0, [(0, pt_r 7 0), (1, pt_i (nI o)), (2, pt_i (nI n))], [], M) (2, [(0, pt_r 7 0), (1, pt_i (nI o)), (2, pt_i (nI n)), (3, pt_i (nI 4))], [], pt_wA M 36 0 (pt_A M 36 0)) := (gX7_whyNot_0_1 (nI o) (nI n) n 0 M M).toM (pt_wA_self M 36 0).symm
  obtain ⟨k1, k2⟩ := wn_x (o := o) (w := 4) (f := pt_A M 36 0) (bk := fun m => b4_F B (pn_F m 0) (pn_F m 1) (pn_F m 2) (pn_F m 3)) (M := M) hn (by decide) fun t f' ht hc => by
    obtain ⟨q, hq, e⟩ := rv_4 hn ht hc
    rw [← e]
    have D := (dX7_bk4 (o := o) (M := pt_wA M 36 0 f') (ml_A h rfl) hq).1
    rw [pt_wA_wA, pt_A_wA] at D
    exact D
  have e4 := wn_4 (n := n) (B := B) (bk := fun m => b4_F B (pn_F m 0) (pn_F m 1) (pn_F m 2) (pn_F m 3)) hn fun q hq => (dX7_bk4 h hq).2
  cases hf : wn_F n 4 fun m => b4_F B (pn_F m 0) (pn_F m 1) (pn_F m 2) (pn_F m 3) with
  | some t =>
    rw [hf] at e4
    have e4' : f4_F n B = some (rv_F n (2 ^ n - 1 - t)) := e4.symm
    have hne := (f4_ok hn e4').2
    have ew : wy_F n B = rv_F n (2 ^ n - 1 - t) := by
      unfold wy_F w4_F
      rw [e4']
      exact if_neg hne
    rw [ew]
    exact ⟨_, rX7_whyNot_82 (Nat.le_of_ble_eq_true rfl) (hX _) (g0.tr (k1 t hf))⟩
  | none =>
    rw [hf] at e4
    have e4' : f4_F n B = none := e4.symm
    have ew : wy_F n B = w5_F n B := by
      unfold wy_F w4_F
      rw [e4']
      exact if_pos rfl
    rw [ew]
    obtain ⟨j1, j2⟩ := wn_x (o := o) (w := 5) (f := ws_A (pt_A M 36 0) n 4 (2 ^ n - 1)) (bk := fun m => b5_F B (pn_F m 0) (pn_F m 1) (pn_F m 2) (pn_F m 3) (pn_F m 4)) (M := M) hn (by decide) fun t f' ht hc => by
      obtain ⟨q, hq, e⟩ := rv_5 hn ht hc
      rw [← e]
      have D := (dX7_bk5 (o := o) (M := pt_wA M 36 0 f') (ml_A h rfl) hq).1
      rw [pt_wA_wA, pt_A_wA] at D
      exact D
    have e5 := wn_5 (n := n) (B := B) (bk := fun m => b5_F B (pn_F m 0) (pn_F m 1) (pn_F m 2) (pn_F m 3) (pn_F m 4)) hn fun q hq => (dX7_bk5 h hq).2
    have g1 := g0.tr (k2 hf)
    cases hf5 : wn_F n 5 fun m => b5_F B (pn_F m 0) (pn_F m 1) (pn_F m 2) (pn_F m 3) (pn_F m 4) with
    | some t =>
      rw [hf5] at e5
      have e5' : f5_F n B = some (rv_F n (2 ^ n - 1 - t)) := e5.symm
      have ew5 : w5_F n B = rv_F n (2 ^ n - 1 - t) := by
        unfold w5_F
        rw [e5']
        rfl
      rw [ew5]
      exact ⟨_, rX7_whyNot_82 (Nat.le_of_ble_eq_true rfl) (hX _) (g1.tr (j1 t hf5))⟩
    | none =>
      rw [hf5] at e5
      have e5' : f5_F n B = none := e5.symm
      have ew5 : w5_F n B = 0 := by
        unfold w5_F
        rw [e5']
        rfl
      rw [ew5]
      exact ⟨_, rX7_whyNot_96 (Nat.le_of_ble_eq_true rfl) (hX _) (g1.tr ((j2 hf5).tr (gX7_whyNot_2_2 (nI o) (nI n) (nI (5 + 1)) n 0 M _ (Int32.le_refl _))))⟩
