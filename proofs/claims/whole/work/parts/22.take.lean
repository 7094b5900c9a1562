/-! Table.takeRow, takeTurns -/
def hd_F (M : pt_M) (t : Nat) (n : Int32) : pt_M := fg_F (pt_wF M 3 0 t n) t
theorem bg_tw (M : pt_M) (t : Nat) (n : Int32) : bg_F M t n = tw_F (hd_F M t n) t fun _ _ _ => false := by
  unfold bg_F
  rw [tw_zero]
  rfl
theorem tw_A {M : pt_M} {t k i : Nat} {n : Int32} {B : Nat → Nat → Nat → Bool} (h : k ≠ 11) : pt_A (tw_F (hd_F M t n) t B) k i = pt_A M k i := if_neg fun z => h z.1
/-- THE TABLE t IS MADE: n points, the rising threes s -/
def mt_F (M : pt_M) (t n : Nat) (s : Nat → Nat → Nat → Bool) : pt_M := tw_F (hd_F M t (nI n)) t fun a c d => pb_g n a c d && pb_x s a c d
def pu_P (i j k : Int32) : Prop := pt_in (ix_F i j) 100 ∧ pt_in (ix_F j k) 100 ∧ pt_in (ix_F k i) 100 ∧ pt_in (ix_F j i) 100 ∧ pt_in (ix_F k j) 100 ∧ pt_in (ix_F i k) 100
theorem pu_nI {i j k : Nat} (hi : i < 10) (hj : j < 10) (hk : k < 10) : pu_P (nI i) (nI j) (nI k) := ⟨ix_in hi hj, ix_in hj hk, ix_in hk hi, ix_in hj hi, ix_in hk hj, ix_in hi hk⟩
theorem dX4_putP {t : Nat} {i j k b : Int32} {M : pt_M} (ht : t < 7) (h : pu_P i j k) : pt_Does yX4_put YX4_put [pt_r 3 t, pt_i i, pt_i j, pt_i k, pt_i b] M none (pu_F M t i j k b) := dX4_put ht h.1 h.2.1 h.2.2.1 h.2.2.2.1 h.2.2.2.2.1 h.2.2.2.2.2
theorem tw_U {M : pt_M} {t u : Nat} {n : Int32} {B : Nat → Nat → Nat → Bool} (h : u ≠ t) : pt_A (tw_F (hd_F M t n) t B) 11 u = pt_A M 11 u := if_neg fun z => h z.2
theorem lo_B {M : pt_M} {u a c : Nat} {B : Nat → Nat → Nat → Bool} (hB : ct_B M u B) (ha : a < 10) (hc : c < 10) : lo_F M u (nI a) (nI c) = nI (pb_s 10 fun k => B a c k) := by
  have hix : (nI a * 10) + nI c = nI (10 * a + c) := ix_nI a c
  unfold lo_F
  rw [hix, pt_nt_nI (by omega)]
  exact hB a c ha hc
theorem lf_B {M : pt_M} {u a c d : Nat} {B : Nat → Nat → Nat → Bool} (hB : ct_B M u B) (ha : a < 10) (hc : c < 10) (hd : d < 10) : lf_P M u (nI a) (nI c) (nI d) ↔ B a c d = true := by
  have h := lo_B hB ha hc
  unfold lo_F at h
  unfold lf_P
  rw [h, pt_bit1 (Nat.lt_trans (pb_lt _ 10) (by decide)) (by omega), pb_bit]
  simp [hd]
theorem rX4_takeRow_89 {vs : List pt_V} {M M' : pt_M} {L : List (Nat × pt_V)} (hvs : (vs.map pt_w).sum ≤ 7) (hX : M'.2.2.2.2 = M.2.2.2.2) (h : pt_Go YX4_takeRow (0, pt_en 0 vs, [], M) (89, L, [], M')) : pt_Does yX4_takeRow YX4_takeRow vs M none M' := pt_does_go tX4_takeRow_ok nX4_takeRow hvs hX ⟨_, by with_unfolding_all rfl, rfl, rfl⟩ h
set_option maxRecDepth 100000 in
theorem gX4_takeRow24_0_1 (t : Nat) (n : Int32)  (M : pt_M) (h1 : t < 7) :
    pt_Go YX4_takeRow (0, [(0, pt_r 3 t), (1, pt_i n), (2, pt_r 24 0)], [], M)
      (10, [(0, pt_r 3 t), (1, pt_i n), (2, pt_r 24 0), (3, pt_i 0), (4, pt_i 0)], [], (bg_F M t n)) :=
  pt_run_ok tX4_takeRow_ok 7 [.inr (2, none, (bg_F M t n))] (P := pt_Cal YX4_takeRow (.invokevirtual 49) [pt_r 3 t, pt_i n] M none (bg_F M t n) ∧ True) (by with_unfolding_all rfl) ⟨(pt_callV (i := t) kX4_takeRow_49 mX4_begin rfl h1 rfl (dX4_begin h1)), trivial⟩
set_option maxRecDepth 100000 in
theorem gX4_takeRow24_10_1 (t : Nat) (l1 : Int32) (l3 : Int32) (l4 : Int32)  (M : pt_M) (h1 : ¬ l1 ≤ l4) :
    pt_Go YX4_takeRow (10, [(0, pt_r 3 t), (1, pt_i l1), (2, pt_r 24 0), (3, pt_i l3), (4, pt_i l4)], [], M)
      (22, [(0, pt_r 3 t), (1, pt_i l1), (2, pt_r 24 0), (3, pt_i l3), (4, pt_i l4), (5, pt_i (l4 + 1))], [], M) :=
  pt_run_ok tX4_takeRow_ok 7 [.inl false] (P := (¬ l1 ≤ l4) ∧ True) (by with_unfolding_all rfl) ⟨h1, trivial⟩
set_option maxRecDepth 100000 in
theorem gX4_takeRow24_10_2 (t : Nat) (l1 : Int32) (l3 : Int32) (l4 : Int32)  (M : pt_M) (h1 : l1 ≤ l4) :
    pt_Go YX4_takeRow (10, [(0, pt_r 3 t), (1, pt_i l1), (2, pt_r 24 0), (3, pt_i l3), (4, pt_i l4)], [], M)
      (89, [(0, pt_r 3 t), (1, pt_i l1), (2, pt_r 24 0), (3, pt_i l3), (4, pt_i l4)], [], M) :=
  pt_run_ok tX4_takeRow_ok 3 [.inl true] (P := (l1 ≤ l4) ∧ True) (by with_unfolding_all rfl) ⟨h1, trivial⟩
set_option maxRecDepth 100000 in
theorem gX4_takeRow24_22_1 (t : Nat) (l1 : Int32) (l3 : Int32) (l4 : Int32) (l5 : Int32)  (M : pt_M) (h1 : ¬ l1 ≤ l5) :
    pt_Go YX4_takeRow (22, [(0, pt_r 3 t), (1, pt_i l1), (2, pt_r 24 0), (3, pt_i l3), (4, pt_i l4), (5, pt_i l5)], [], M)
      (34, [(0, pt_r 3 t), (1, pt_i l1), (2, pt_r 24 0), (3, pt_i l3), (4, pt_i l4), (5, pt_i l5), (6, pt_i (l5 + 1))], [], M) :=
  pt_run_ok tX4_takeRow_ok 7 [.inl false] (P := (¬ l1 ≤ l5) ∧ True) (by with_unfolding_all rfl) ⟨h1, trivial⟩
set_option maxRecDepth 100000 in
theorem gX4_takeRow24_22_2 (t : Nat) (l1 : Int32) (l3 : Int32) (l4 : Int32) (l5 : Int32)  (M : pt_M) (h1 : l1 ≤ l5) :
    pt_Go YX4_takeRow (22, [(0, pt_r 3 t), (1, pt_i l1), (2, pt_r 24 0), (3, pt_i l3), (4, pt_i l4), (5, pt_i l5)], [], M)
      (10, [(0, pt_r 3 t), (1, pt_i l1), (2, pt_r 24 0), (3, pt_i l3), (4, pt_i (l4 + 1))], [], M) :=
  (pt_run_ok tX4_takeRow_ok 5 [.inl true] (P := (l1 ≤ l5) ∧ True) (by with_unfolding_all rfl) ⟨h1, trivial⟩ : pt_Go YX4_takeRow _ (10, [(0, pt_r 3 t), (1, pt_i l1), (2, pt_r 24 0), (3, pt_i l3), (4, pt_i (l4 + 1)), (5, pt_i l5)], [], M)).tr (pt_pick [0, 1, 2, 3, 4] (by with_unfolding_all rfl))
set_option maxRecDepth 100000 in
theorem gX4_takeRow24_34_1 (t : Nat) (l1 : Int32) (l3 : Int32) (l4 : Int32) (l5 : Int32) (l6 : Int32)  (M : pt_M) (h1 : ¬ l1 ≤ l6) (h2 : ¬ (nI 120) ≤ l3) (h3 : pt_in l3 120) (h4 : (pt_A M 24 0 (pt_nt l3)) = 1) (h5 : t < 7) (h6 : pu_P l4 l5 l6) :
    pt_Go YX4_takeRow (34, [(0, pt_r 3 t), (1, pt_i l1), (2, pt_r 24 0), (3, pt_i l3), (4, pt_i l4), (5, pt_i l5), (6, pt_i l6)], [], M)
      (34, [(0, pt_r 3 t), (1, pt_i l1), (2, pt_r 24 0), (3, pt_i (l3 + 1)), (4, pt_i l4), (5, pt_i l5), (6, pt_i (l6 + 1))], [], (pu_F M t l4 l5 l6 1)) :=
  pt_run_ok tX4_takeRow_ok 22 [.inl false, .inl false, .inl false, .inr (5, none, (pu_F M t l4 l5 l6 1))] (P := (¬ l1 ≤ l6) ∧ (¬ (nI 120) ≤ l3) ∧ (pt_in l3 120) ∧ ((pt_A M 24 0 (pt_nt l3)) = 1) ∧ pt_Cal YX4_takeRow (.invokevirtual 53) [pt_r 3 t, pt_i l4, pt_i l5, pt_i l6, pt_i 1] M none (pu_F M t l4 l5 l6 1) ∧ True) (by with_unfolding_all rfl) ⟨h1, h2, h3, h4, (pt_callV (i := t) kX4_takeRow_53 mX4_put rfl h5 rfl (dX4_putP h5 h6)), trivial⟩
set_option maxRecDepth 100000 in
theorem gX4_takeRow24_34_2 (t : Nat) (l1 : Int32) (l3 : Int32) (l4 : Int32) (l5 : Int32) (l6 : Int32)  (M : pt_M) (h1 : ¬ l1 ≤ l6) (h2 : ¬ (nI 120) ≤ l3) (h3 : pt_in l3 120) (h4 : ¬ (pt_A M 24 0 (pt_nt l3)) = 1) (h5 : t < 7) (h6 : pu_P l4 l5 l6) :
    pt_Go YX4_takeRow (34, [(0, pt_r 3 t), (1, pt_i l1), (2, pt_r 24 0), (3, pt_i l3), (4, pt_i l4), (5, pt_i l5), (6, pt_i l6)], [], M)
      (34, [(0, pt_r 3 t), (1, pt_i l1), (2, pt_r 24 0), (3, pt_i (l3 + 1)), (4, pt_i l4), (5, pt_i l5), (6, pt_i (l6 + 1))], [], (pu_F M t l4 l5 l6 0)) :=
  pt_run_ok tX4_takeRow_ok 21 [.inl false, .inl false, .inl true, .inr (5, none, (pu_F M t l4 l5 l6 0))] (P := (¬ l1 ≤ l6) ∧ (¬ (nI 120) ≤ l3) ∧ (pt_in l3 120) ∧ (¬ (pt_A M 24 0 (pt_nt l3)) = 1) ∧ pt_Cal YX4_takeRow (.invokevirtual 53) [pt_r 3 t, pt_i l4, pt_i l5, pt_i l6, pt_i 0] M none (pu_F M t l4 l5 l6 0) ∧ True) (by with_unfolding_all rfl) ⟨h1, h2, h3, h4, (pt_callV (i := t) kX4_takeRow_53 mX4_put rfl h5 rfl (dX4_putP h5 h6)), trivial⟩
set_option maxRecDepth 100000 in
theorem gX4_takeRow24_34_3 (t : Nat) (l1 : Int32) (l3 : Int32) (l4 : Int32) (l5 : Int32) (l6 : Int32)  (M : pt_M) (h1 : ¬ l1 ≤ l6) (h2 : (nI 120) ≤ l3) :
    pt_Go YX4_takeRow (34, [(0, pt_r 3 t), (1, pt_i l1), (2, pt_r 24 0), (3, pt_i l3), (4, pt_i l4), (5, pt_i l5), (6, pt_i l6)], [], M)
      (22, [(0, pt_r 3 t), (1, pt_i l1), (2, pt_r 24 0), (3, pt_i l3), (4, pt_i l4), (5, pt_i (l5 + 1))], [], M) :=
  (pt_run_ok tX4_takeRow_ok 9 [.inl false, .inl true] (P := (¬ l1 ≤ l6) ∧ ((nI 120) ≤ l3) ∧ True) (by with_unfolding_all rfl) ⟨h1, h2, trivial⟩ : pt_Go YX4_takeRow _ (22, [(0, pt_r 3 t), (1, pt_i l1), (2, pt_r 24 0), (3, pt_i l3), (4, pt_i l4), (5, pt_i (l5 + 1)), (6, pt_i l6)], [], M)).tr (pt_pick [0, 1, 2, 3, 4, 5] (by with_unfolding_all rfl))
set_option maxRecDepth 100000 in
theorem gX4_takeRow24_34_4 (t : Nat) (l1 : Int32) (l3 : Int32) (l4 : Int32) (l5 : Int32) (l6 : Int32)  (M : pt_M) (h1 : l1 ≤ l6) :
    pt_Go YX4_takeRow (34, [(0, pt_r 3 t), (1, pt_i l1), (2, pt_r 24 0), (3, pt_i l3), (4, pt_i l4), (5, pt_i l5), (6, pt_i l6)], [], M)
      (22, [(0, pt_r 3 t), (1, pt_i l1), (2, pt_r 24 0), (3, pt_i l3), (4, pt_i l4), (5, pt_i (l5 + 1))], [], M) :=
  (pt_run_ok tX4_takeRow_ok 5 [.inl true] (P := (l1 ≤ l6) ∧ True) (by with_unfolding_all rfl) ⟨h1, trivial⟩ : pt_Go YX4_takeRow _ (22, [(0, pt_r 3 t), (1, pt_i l1), (2, pt_r 24 0), (3, pt_i l3), (4, pt_i l4), (5, pt_i (l5 + 1)), (6, pt_i l6)], [], M)).tr (pt_pick [0, 1, 2, 3, 4, 5] (by with_unfolding_all rfl))
theorem dX4_takeRow_24 {t n : Nat} {M : pt_M} (ht : t < 7) (hn : n ≤ 10) : pt_Does yX4_takeRow YX4_takeRow [pt_r 3 t, pt_i (nI n), pt_r 24 0] M none (mt_F M t n fun i j k => decide (pt_A M 24 0 (rk_F n i j k) = 1)) := by
  generalize hs : (fun i j k => decide (pt_A M 24 0 (rk_F n i j k) = 1)) = s
  have h := pt_three (Y := YX4_takeRow) (n := n)
    (fun i => (10, [(0, pt_r 3 t), (1, pt_i (nI n)), (2, pt_r 24 0), (3, pt_i (nI (rk_F n i (i + 1) (i + 2)))), (4, pt_i (nI i))], [], tw_F (hd_F M t (nI n)) t (pb_q (pb_d n i (i + 1) (i + 2)) s)))
    (fun i j => (22, [(0, pt_r 3 t), (1, pt_i (nI n)), (2, pt_r 24 0), (3, pt_i (nI (rk_F n i j (j + 1)))), (4, pt_i (nI i)), (5, pt_i (nI j))], [], tw_F (hd_F M t (nI n)) t (pb_q (pb_d n i j (j + 1)) s)))
    (fun i j k => (34, [(0, pt_r 3 t), (1, pt_i (nI n)), (2, pt_r 24 0), (3, pt_i (nI (rk_F n i j k))), (4, pt_i (nI i)), (5, pt_i (nI j)), (6, pt_i (nI k))], [], tw_F (hd_F M t (nI n)) t (pb_q (pb_d n i j k) s)))
    (fun i hi => (gX4_takeRow24_10_1 t (nI n) _ (nI i) _ (nI_ge hi (by omega))).to (by rw [nI_1]))
    (fun i j hij hj => (gX4_takeRow24_22_1 t (nI n) _ (nI i) (nI j) _ (nI_ge hj (by omega))).to (by rw [nI_1]))
    (fun i hi => (gX4_takeRow24_22_2 t (nI n) _ (nI i) (nI n) _ (Int32.le_refl _)).to (by rw [nI_1, pb_d_i (Nat.le_refl n), rk_i (n + 1) (Nat.le_refl _)]))
    (fun i j k hij hjk hk => by
      obtain ⟨hr1, hr2⟩ := rk_lt n hn i (by omega) j (by omega) k hk hij hjk
      have hA : pt_A (tw_F (hd_F M t (nI n)) t (pb_q (pb_d n i j k) s)) 24 0 (pt_nt (nI (rk_F n i j k))) = pt_A M 24 0 (rk_F n i j k) := by
        rw [tw_A (by decide), pt_nt_nI (by omega)]
      have hb : s i j k = decide (pt_A M 24 0 (rk_F n i j k) = 1) := by rw [← hs]
      by_cases hv : pt_A M 24 0 (rk_F n i j k) = 1
      · refine (gX4_takeRow24_34_1 t (nI n) _ (nI i) (nI j) (nI k) _ (nI_ge hk (by omega)) (nI_ge (by omega) (by decide)) (pt_in_nI (by omega) (by decide)) (hA.trans hv) ht (pu_nI (by omega) (by omega) (by omega))).to ?_
        rw [decide_eq_true hv] at hb
        rw [nI_1, nI_1, ← rk_k hjk, show (1 : Int32) = pt_b true from rfl, pu_tw true (by omega) (by omega) (by omega), ← hb, pb_d_k hk s hij hjk]
      · refine (gX4_takeRow24_34_2 t (nI n) _ (nI i) (nI j) (nI k) _ (nI_ge hk (by omega)) (nI_ge (by omega) (by decide)) (pt_in_nI (by omega) (by decide)) (fun z => hv (hA.symm.trans z)) ht (pu_nI (by omega) (by omega) (by omega))).to ?_
        rw [decide_eq_false hv] at hb
        rw [nI_1, nI_1, ← rk_k hjk, show (0 : Int32) = pt_b false from rfl, pu_tw false (by omega) (by omega) (by omega), ← hb, pb_d_k hk s hij hjk])
    (fun i j hij hj => (gX4_takeRow24_34_4 t (nI n) _ (nI i) (nI j) (nI n) _ (Int32.le_refl _)).to (by rw [nI_1, pb_d_j, rk_j hij hj]))
  refine rX4_takeRow_89 (Nat.le_of_ble_eq_true rfl) rfl (((gX4_takeRow24_0_1 t (nI n) M ht).to ?_).tr (h.tr ((gX4_takeRow24_10_2 t (nI n) _ (nI n) _ (Int32.le_refl _)).toM ?_)))
  · rw [bg_tw, ← pb_d_0 s]
    rfl
  · unfold mt_F
    rw [pb_d_n]
set_option maxRecDepth 100000 in
theorem gX4_takeRow12_0_1 (t : Nat) (n : Int32) (u : Nat)  (M : pt_M) (h1 : t < 7) :
    pt_Go YX4_takeRow (0, [(0, pt_r 3 t), (1, pt_i n), (2, pt_r 12 u)], [], M)
      (10, [(0, pt_r 3 t), (1, pt_i n), (2, pt_r 12 u), (3, pt_i 0), (4, pt_i 0)], [], (bg_F M t n)) :=
  pt_run_ok tX4_takeRow_ok 7 [.inr (2, none, (bg_F M t n))] (P := pt_Cal YX4_takeRow (.invokevirtual 49) [pt_r 3 t, pt_i n] M none (bg_F M t n) ∧ True) (by with_unfolding_all rfl) ⟨(pt_callV (i := t) kX4_takeRow_49 mX4_begin rfl h1 rfl (dX4_begin h1)), trivial⟩
set_option maxRecDepth 100000 in
theorem gX4_takeRow12_10_1 (t : Nat) (l1 : Int32) (u : Nat) (l3 : Int32) (l4 : Int32)  (M : pt_M) (h1 : ¬ l1 ≤ l4) :
    pt_Go YX4_takeRow (10, [(0, pt_r 3 t), (1, pt_i l1), (2, pt_r 12 u), (3, pt_i l3), (4, pt_i l4)], [], M)
      (22, [(0, pt_r 3 t), (1, pt_i l1), (2, pt_r 12 u), (3, pt_i l3), (4, pt_i l4), (5, pt_i (l4 + 1))], [], M) :=
  pt_run_ok tX4_takeRow_ok 7 [.inl false] (P := (¬ l1 ≤ l4) ∧ True) (by with_unfolding_all rfl) ⟨h1, trivial⟩
set_option maxRecDepth 100000 in
theorem gX4_takeRow12_10_2 (t : Nat) (l1 : Int32) (u : Nat) (l3 : Int32) (l4 : Int32)  (M : pt_M) (h1 : l1 ≤ l4) :
    pt_Go YX4_takeRow (10, [(0, pt_r 3 t), (1, pt_i l1), (2, pt_r 12 u), (3, pt_i l3), (4, pt_i l4)], [], M)
      (89, [(0, pt_r 3 t), (1, pt_i l1), (2, pt_r 12 u), (3, pt_i l3), (4, pt_i l4)], [], M) :=
  pt_run_ok tX4_takeRow_ok 3 [.inl true] (P := (l1 ≤ l4) ∧ True) (by with_unfolding_all rfl) ⟨h1, trivial⟩
set_option maxRecDepth 100000 in
theorem gX4_takeRow12_22_1 (t : Nat) (l1 : Int32) (u : Nat) (l3 : Int32) (l4 : Int32) (l5 : Int32)  (M : pt_M) (h1 : ¬ l1 ≤ l5) :
    pt_Go YX4_takeRow (22, [(0, pt_r 3 t), (1, pt_i l1), (2, pt_r 12 u), (3, pt_i l3), (4, pt_i l4), (5, pt_i l5)], [], M)
      (34, [(0, pt_r 3 t), (1, pt_i l1), (2, pt_r 12 u), (3, pt_i l3), (4, pt_i l4), (5, pt_i l5), (6, pt_i (l5 + 1))], [], M) :=
  pt_run_ok tX4_takeRow_ok 7 [.inl false] (P := (¬ l1 ≤ l5) ∧ True) (by with_unfolding_all rfl) ⟨h1, trivial⟩
set_option maxRecDepth 100000 in
theorem gX4_takeRow12_22_2 (t : Nat) (l1 : Int32) (u : Nat) (l3 : Int32) (l4 : Int32) (l5 : Int32)  (M : pt_M) (h1 : l1 ≤ l5) :
    pt_Go YX4_takeRow (22, [(0, pt_r 3 t), (1, pt_i l1), (2, pt_r 12 u), (3, pt_i l3), (4, pt_i l4), (5, pt_i l5)], [], M)
      (10, [(0, pt_r 3 t), (1, pt_i l1), (2, pt_r 12 u), (3, pt_i l3), (4, pt_i (l4 + 1))], [], M) :=
  (pt_run_ok tX4_takeRow_ok 5 [.inl true] (P := (l1 ≤ l5) ∧ True) (by with_unfolding_all rfl) ⟨h1, trivial⟩ : pt_Go YX4_takeRow _ (10, [(0, pt_r 3 t), (1, pt_i l1), (2, pt_r 12 u), (3, pt_i l3), (4, pt_i (l4 + 1)), (5, pt_i l5)], [], M)).tr (pt_pick [0, 1, 2, 3, 4] (by with_unfolding_all rfl))
set_option maxRecDepth 100000 in
theorem gX4_takeRow12_34_1 (t : Nat) (l1 : Int32) (u : Nat) (l3 : Int32) (l4 : Int32) (l5 : Int32) (l6 : Int32)  (M : pt_M) (h1 : ¬ l1 ≤ l6) (h2 : u < 7) (h3 : ¬ (nI 120) ≤ l3) (h4 : pt_in l3 120) (h5 : (pt_A M 12 u (pt_nt l3)) = 1) (h6 : t < 7) (h7 : pu_P l4 l5 l6) :
    pt_Go YX4_takeRow (34, [(0, pt_r 3 t), (1, pt_i l1), (2, pt_r 12 u), (3, pt_i l3), (4, pt_i l4), (5, pt_i l5), (6, pt_i l6)], [], M)
      (34, [(0, pt_r 3 t), (1, pt_i l1), (2, pt_r 12 u), (3, pt_i (l3 + 1)), (4, pt_i l4), (5, pt_i l5), (6, pt_i (l6 + 1))], [], (pu_F M t l4 l5 l6 1)) :=
  pt_run_ok tX4_takeRow_ok 22 [.inl false, .inl false, .inl false, .inr (5, none, (pu_F M t l4 l5 l6 1))] (P := (¬ l1 ≤ l6) ∧ (u < 7) ∧ (¬ (nI 120) ≤ l3) ∧ ((pt_in l3 120) ∧ (u < 7)) ∧ ((pt_A M 12 u (pt_nt l3)) = 1) ∧ pt_Cal YX4_takeRow (.invokevirtual 53) [pt_r 3 t, pt_i l4, pt_i l5, pt_i l6, pt_i 1] M none (pu_F M t l4 l5 l6 1) ∧ True) (by with_unfolding_all rfl) ⟨h1, h2, h3, ⟨h4, h2⟩, h5, (pt_callV (i := t) kX4_takeRow_53 mX4_put rfl h6 rfl (dX4_putP h6 h7)), trivial⟩
set_option maxRecDepth 100000 in
theorem gX4_takeRow12_34_2 (t : Nat) (l1 : Int32) (u : Nat) (l3 : Int32) (l4 : Int32) (l5 : Int32) (l6 : Int32)  (M : pt_M) (h1 : ¬ l1 ≤ l6) (h2 : u < 7) (h3 : ¬ (nI 120) ≤ l3) (h4 : pt_in l3 120) (h5 : ¬ (pt_A M 12 u (pt_nt l3)) = 1) (h6 : t < 7) (h7 : pu_P l4 l5 l6) :
    pt_Go YX4_takeRow (34, [(0, pt_r 3 t), (1, pt_i l1), (2, pt_r 12 u), (3, pt_i l3), (4, pt_i l4), (5, pt_i l5), (6, pt_i l6)], [], M)
      (34, [(0, pt_r 3 t), (1, pt_i l1), (2, pt_r 12 u), (3, pt_i (l3 + 1)), (4, pt_i l4), (5, pt_i l5), (6, pt_i (l6 + 1))], [], (pu_F M t l4 l5 l6 0)) :=
  pt_run_ok tX4_takeRow_ok 21 [.inl false, .inl false, .inl true, .inr (5, none, (pu_F M t l4 l5 l6 0))] (P := (¬ l1 ≤ l6) ∧ (u < 7) ∧ (¬ (nI 120) ≤ l3) ∧ ((pt_in l3 120) ∧ (u < 7)) ∧ (¬ (pt_A M 12 u (pt_nt l3)) = 1) ∧ pt_Cal YX4_takeRow (.invokevirtual 53) [pt_r 3 t, pt_i l4, pt_i l5, pt_i l6, pt_i 0] M none (pu_F M t l4 l5 l6 0) ∧ True) (by with_unfolding_all rfl) ⟨h1, h2, h3, ⟨h4, h2⟩, h5, (pt_callV (i := t) kX4_takeRow_53 mX4_put rfl h6 rfl (dX4_putP h6 h7)), trivial⟩
set_option maxRecDepth 100000 in
theorem gX4_takeRow12_34_3 (t : Nat) (l1 : Int32) (u : Nat) (l3 : Int32) (l4 : Int32) (l5 : Int32) (l6 : Int32)  (M : pt_M) (h1 : ¬ l1 ≤ l6) (h2 : u < 7) (h3 : (nI 120) ≤ l3) :
    pt_Go YX4_takeRow (34, [(0, pt_r 3 t), (1, pt_i l1), (2, pt_r 12 u), (3, pt_i l3), (4, pt_i l4), (5, pt_i l5), (6, pt_i l6)], [], M)
      (22, [(0, pt_r 3 t), (1, pt_i l1), (2, pt_r 12 u), (3, pt_i l3), (4, pt_i l4), (5, pt_i (l5 + 1))], [], M) :=
  (pt_run_ok tX4_takeRow_ok 9 [.inl false, .inl true] (P := (¬ l1 ≤ l6) ∧ (u < 7) ∧ ((nI 120) ≤ l3) ∧ True) (by with_unfolding_all rfl) ⟨h1, h2, h3, trivial⟩ : pt_Go YX4_takeRow _ (22, [(0, pt_r 3 t), (1, pt_i l1), (2, pt_r 12 u), (3, pt_i l3), (4, pt_i l4), (5, pt_i (l5 + 1)), (6, pt_i l6)], [], M)).tr (pt_pick [0, 1, 2, 3, 4, 5] (by with_unfolding_all rfl))
set_option maxRecDepth 100000 in
theorem gX4_takeRow12_34_4 (t : Nat) (l1 : Int32) (u : Nat) (l3 : Int32) (l4 : Int32) (l5 : Int32) (l6 : Int32)  (M : pt_M) (h1 : l1 ≤ l6) :
    pt_Go YX4_takeRow (34, [(0, pt_r 3 t), (1, pt_i l1), (2, pt_r 12 u), (3, pt_i l3), (4, pt_i l4), (5, pt_i l5), (6, pt_i l6)], [], M)
      (22, [(0, pt_r 3 t), (1, pt_i l1), (2, pt_r 12 u), (3, pt_i l3), (4, pt_i l4), (5, pt_i (l5 + 1))], [], M) :=
  (pt_run_ok tX4_takeRow_ok 5 [.inl true] (P := (l1 ≤ l6) ∧ True) (by with_unfolding_all rfl) ⟨h1, trivial⟩ : pt_Go YX4_takeRow _ (22, [(0, pt_r 3 t), (1, pt_i l1), (2, pt_r 12 u), (3, pt_i l3), (4, pt_i l4), (5, pt_i (l5 + 1)), (6, pt_i l6)], [], M)).tr (pt_pick [0, 1, 2, 3, 4, 5] (by with_unfolding_all rfl))
theorem dX4_takeRow_12 {t n : Nat} {u : Nat} {M : pt_M} (ht : t < 7) (hu : u < 7) (hn : n ≤ 10) : pt_Does yX4_takeRow YX4_takeRow [pt_r 3 t, pt_i (nI n), pt_r 12 u] M none (mt_F M t n fun i j k => decide (pt_A M 12 u (rk_F n i j k) = 1)) := by
  generalize hs : (fun i j k => decide (pt_A M 12 u (rk_F n i j k) = 1)) = s
  have h := pt_three (Y := YX4_takeRow) (n := n)
    (fun i => (10, [(0, pt_r 3 t), (1, pt_i (nI n)), (2, pt_r 12 u), (3, pt_i (nI (rk_F n i (i + 1) (i + 2)))), (4, pt_i (nI i))], [], tw_F (hd_F M t (nI n)) t (pb_q (pb_d n i (i + 1) (i + 2)) s)))
    (fun i j => (22, [(0, pt_r 3 t), (1, pt_i (nI n)), (2, pt_r 12 u), (3, pt_i (nI (rk_F n i j (j + 1)))), (4, pt_i (nI i)), (5, pt_i (nI j))], [], tw_F (hd_F M t (nI n)) t (pb_q (pb_d n i j (j + 1)) s)))
    (fun i j k => (34, [(0, pt_r 3 t), (1, pt_i (nI n)), (2, pt_r 12 u), (3, pt_i (nI (rk_F n i j k))), (4, pt_i (nI i)), (5, pt_i (nI j)), (6, pt_i (nI k))], [], tw_F (hd_F M t (nI n)) t (pb_q (pb_d n i j k) s)))
    (fun i hi => (gX4_takeRow12_10_1 t (nI n) u _ (nI i) _ (nI_ge hi (by omega))).to (by rw [nI_1]))
    (fun i j hij hj => (gX4_takeRow12_22_1 t (nI n) u _ (nI i) (nI j) _ (nI_ge hj (by omega))).to (by rw [nI_1]))
    (fun i hi => (gX4_takeRow12_22_2 t (nI n) u _ (nI i) (nI n) _ (Int32.le_refl _)).to (by rw [nI_1, pb_d_i (Nat.le_refl n), rk_i (n + 1) (Nat.le_refl _)]))
    (fun i j k hij hjk hk => by
      obtain ⟨hr1, hr2⟩ := rk_lt n hn i (by omega) j (by omega) k hk hij hjk
      have hA : pt_A (tw_F (hd_F M t (nI n)) t (pb_q (pb_d n i j k) s)) 12 u (pt_nt (nI (rk_F n i j k))) = pt_A M 12 u (rk_F n i j k) := by
        rw [tw_A (by decide), pt_nt_nI (by omega)]
      have hb : s i j k = decide (pt_A M 12 u (rk_F n i j k) = 1) := by rw [← hs]
      by_cases hv : pt_A M 12 u (rk_F n i j k) = 1
      · refine (gX4_takeRow12_34_1 t (nI n) u _ (nI i) (nI j) (nI k) _ (nI_ge hk (by omega)) hu (nI_ge (by omega) (by decide)) (pt_in_nI (by omega) (by decide)) (hA.trans hv) ht (pu_nI (by omega) (by omega) (by omega))).to ?_
        rw [decide_eq_true hv] at hb
        rw [nI_1, nI_1, ← rk_k hjk, show (1 : Int32) = pt_b true from rfl, pu_tw true (by omega) (by omega) (by omega), ← hb, pb_d_k hk s hij hjk]
      · refine (gX4_takeRow12_34_2 t (nI n) u _ (nI i) (nI j) (nI k) _ (nI_ge hk (by omega)) hu (nI_ge (by omega) (by decide)) (pt_in_nI (by omega) (by decide)) (fun z => hv (hA.symm.trans z)) ht (pu_nI (by omega) (by omega) (by omega))).to ?_
        rw [decide_eq_false hv] at hb
        rw [nI_1, nI_1, ← rk_k hjk, show (0 : Int32) = pt_b false from rfl, pu_tw false (by omega) (by omega) (by omega), ← hb, pb_d_k hk s hij hjk])
    (fun i j hij hj => (gX4_takeRow12_34_4 t (nI n) u _ (nI i) (nI j) (nI n) _ (Int32.le_refl _)).to (by rw [nI_1, pb_d_j, rk_j hij hj]))
  refine rX4_takeRow_89 (Nat.le_of_ble_eq_true rfl) rfl (((gX4_takeRow12_0_1 t (nI n) u M ht).to ?_).tr (h.tr ((gX4_takeRow12_10_2 t (nI n) u _ (nI n) _ (Int32.le_refl _)).toM ?_)))
  · rw [bg_tw, ← pb_d_0 s]
    rfl
  · unfold mt_F
    rw [pb_d_n]
set_option maxRecDepth 100000 in
theorem gX4_takeRow13_0_1 (t : Nat) (n : Int32) (u : Nat)  (M : pt_M) (h1 : t < 7) :
    pt_Go YX4_takeRow (0, [(0, pt_r 3 t), (1, pt_i n), (2, pt_r 13 u)], [], M)
      (10, [(0, pt_r 3 t), (1, pt_i n), (2, pt_r 13 u), (3, pt_i 0), (4, pt_i 0)], [], (bg_F M t n)) :=
  pt_run_ok tX4_takeRow_ok 7 [.inr (2, none, (bg_F M t n))] (P := pt_Cal YX4_takeRow (.invokevirtual 49) [pt_r 3 t, pt_i n] M none (bg_F M t n) ∧ True) (by with_unfolding_all rfl) ⟨(pt_callV (i := t) kX4_takeRow_49 mX4_begin rfl h1 rfl (dX4_begin h1)), trivial⟩
set_option maxRecDepth 100000 in
theorem gX4_takeRow13_10_1 (t : Nat) (l1 : Int32) (u : Nat) (l3 : Int32) (l4 : Int32)  (M : pt_M) (h1 : ¬ l1 ≤ l4) :
    pt_Go YX4_takeRow (10, [(0, pt_r 3 t), (1, pt_i l1), (2, pt_r 13 u), (3, pt_i l3), (4, pt_i l4)], [], M)
      (22, [(0, pt_r 3 t), (1, pt_i l1), (2, pt_r 13 u), (3, pt_i l3), (4, pt_i l4), (5, pt_i (l4 + 1))], [], M) :=
  pt_run_ok tX4_takeRow_ok 7 [.inl false] (P := (¬ l1 ≤ l4) ∧ True) (by with_unfolding_all rfl) ⟨h1, trivial⟩
set_option maxRecDepth 100000 in
theorem gX4_takeRow13_10_2 (t : Nat) (l1 : Int32) (u : Nat) (l3 : Int32) (l4 : Int32)  (M : pt_M) (h1 : l1 ≤ l4) :
    pt_Go YX4_takeRow (10, [(0, pt_r 3 t), (1, pt_i l1), (2, pt_r 13 u), (3, pt_i l3), (4, pt_i l4)], [], M)
      (89, [(0, pt_r 3 t), (1, pt_i l1), (2, pt_r 13 u), (3, pt_i l3), (4, pt_i l4)], [], M) :=
  pt_run_ok tX4_takeRow_ok 3 [.inl true] (P := (l1 ≤ l4) ∧ True) (by with_unfolding_all rfl) ⟨h1, trivial⟩
set_option maxRecDepth 100000 in
theorem gX4_takeRow13_22_1 (t : Nat) (l1 : Int32) (u : Nat) (l3 : Int32) (l4 : Int32) (l5 : Int32)  (M : pt_M) (h1 : ¬ l1 ≤ l5) :
    pt_Go YX4_takeRow (22, [(0, pt_r 3 t), (1, pt_i l1), (2, pt_r 13 u), (3, pt_i l3), (4, pt_i l4), (5, pt_i l5)], [], M)
      (34, [(0, pt_r 3 t), (1, pt_i l1), (2, pt_r 13 u), (3, pt_i l3), (4, pt_i l4), (5, pt_i l5), (6, pt_i (l5 + 1))], [], M) :=
  pt_run_ok tX4_takeRow_ok 7 [.inl false] (P := (¬ l1 ≤ l5) ∧ True) (by with_unfolding_all rfl) ⟨h1, trivial⟩
set_option maxRecDepth 100000 in
theorem gX4_takeRow13_22_2 (t : Nat) (l1 : Int32) (u : Nat) (l3 : Int32) (l4 : Int32) (l5 : Int32)  (M : pt_M) (h1 : l1 ≤ l5) :
    pt_Go YX4_takeRow (22, [(0, pt_r 3 t), (1, pt_i l1), (2, pt_r 13 u), (3, pt_i l3), (4, pt_i l4), (5, pt_i l5)], [], M)
      (10, [(0, pt_r 3 t), (1, pt_i l1), (2, pt_r 13 u), (3, pt_i l3), (4, pt_i (l4 + 1))], [], M) :=
  (pt_run_ok tX4_takeRow_ok 5 [.inl true] (P := (l1 ≤ l5) ∧ True) (by with_unfolding_all rfl) ⟨h1, trivial⟩ : pt_Go YX4_takeRow _ (10, [(0, pt_r 3 t), (1, pt_i l1), (2, pt_r 13 u), (3, pt_i l3), (4, pt_i (l4 + 1)), (5, pt_i l5)], [], M)).tr (pt_pick [0, 1, 2, 3, 4] (by with_unfolding_all rfl))
set_option maxRecDepth 100000 in
theorem gX4_takeRow13_34_1 (t : Nat) (l1 : Int32) (u : Nat) (l3 : Int32) (l4 : Int32) (l5 : Int32) (l6 : Int32)  (M : pt_M) (h1 : ¬ l1 ≤ l6) (h2 : u < 7) (h3 : ¬ (nI 120) ≤ l3) (h4 : pt_in l3 120) (h5 : (pt_A M 13 u (pt_nt l3)) = 1) (h6 : t < 7) (h7 : pu_P l4 l5 l6) :
    pt_Go YX4_takeRow (34, [(0, pt_r 3 t), (1, pt_i l1), (2, pt_r 13 u), (3, pt_i l3), (4, pt_i l4), (5, pt_i l5), (6, pt_i l6)], [], M)
      (34, [(0, pt_r 3 t), (1, pt_i l1), (2, pt_r 13 u), (3, pt_i (l3 + 1)), (4, pt_i l4), (5, pt_i l5), (6, pt_i (l6 + 1))], [], (pu_F M t l4 l5 l6 1)) :=
  pt_run_ok tX4_takeRow_ok 22 [.inl false, .inl false, .inl false, .inr (5, none, (pu_F M t l4 l5 l6 1))] (P := (¬ l1 ≤ l6) ∧ (u < 7) ∧ (¬ (nI 120) ≤ l3) ∧ ((pt_in l3 120) ∧ (u < 7)) ∧ ((pt_A M 13 u (pt_nt l3)) = 1) ∧ pt_Cal YX4_takeRow (.invokevirtual 53) [pt_r 3 t, pt_i l4, pt_i l5, pt_i l6, pt_i 1] M none (pu_F M t l4 l5 l6 1) ∧ True) (by with_unfolding_all rfl) ⟨h1, h2, h3, ⟨h4, h2⟩, h5, (pt_callV (i := t) kX4_takeRow_53 mX4_put rfl h6 rfl (dX4_putP h6 h7)), trivial⟩
set_option maxRecDepth 100000 in
theorem gX4_takeRow13_34_2 (t : Nat) (l1 : Int32) (u : Nat) (l3 : Int32) (l4 : Int32) (l5 : Int32) (l6 : Int32)  (M : pt_M) (h1 : ¬ l1 ≤ l6) (h2 : u < 7) (h3 : ¬ (nI 120) ≤ l3) (h4 : pt_in l3 120) (h5 : ¬ (pt_A M 13 u (pt_nt l3)) = 1) (h6 : t < 7) (h7 : pu_P l4 l5 l6) :
    pt_Go YX4_takeRow (34, [(0, pt_r 3 t), (1, pt_i l1), (2, pt_r 13 u), (3, pt_i l3), (4, pt_i l4), (5, pt_i l5), (6, pt_i l6)], [], M)
      (34, [(0, pt_r 3 t), (1, pt_i l1), (2, pt_r 13 u), (3, pt_i (l3 + 1)), (4, pt_i l4), (5, pt_i l5), (6, pt_i (l6 + 1))], [], (pu_F M t l4 l5 l6 0)) :=
  pt_run_ok tX4_takeRow_ok 21 [.inl false, .inl false, .inl true, .inr (5, none, (pu_F M t l4 l5 l6 0))] (P := (¬ l1 ≤ l6) ∧ (u < 7) ∧ (¬ (nI 120) ≤ l3) ∧ ((pt_in l3 120) ∧ (u < 7)) ∧ (¬ (pt_A M 13 u (pt_nt l3)) = 1) ∧ pt_Cal YX4_takeRow (.invokevirtual 53) [pt_r 3 t, pt_i l4, pt_i l5, pt_i l6, pt_i 0] M none (pu_F M t l4 l5 l6 0) ∧ True) (by with_unfolding_all rfl) ⟨h1, h2, h3, ⟨h4, h2⟩, h5, (pt_callV (i := t) kX4_takeRow_53 mX4_put rfl h6 rfl (dX4_putP h6 h7)), trivial⟩
set_option maxRecDepth 100000 in
theorem gX4_takeRow13_34_3 (t : Nat) (l1 : Int32) (u : Nat) (l3 : Int32) (l4 : Int32) (l5 : Int32) (l6 : Int32)  (M : pt_M) (h1 : ¬ l1 ≤ l6) (h2 : u < 7) (h3 : (nI 120) ≤ l3) :
    pt_Go YX4_takeRow (34, [(0, pt_r 3 t), (1, pt_i l1), (2, pt_r 13 u), (3, pt_i l3), (4, pt_i l4), (5, pt_i l5), (6, pt_i l6)], [], M)
      (22, [(0, pt_r 3 t), (1, pt_i l1), (2, pt_r 13 u), (3, pt_i l3), (4, pt_i l4), (5, pt_i (l5 + 1))], [], M) :=
  (pt_run_ok tX4_takeRow_ok 9 [.inl false, .inl true] (P := (¬ l1 ≤ l6) ∧ (u < 7) ∧ ((nI 120) ≤ l3) ∧ True) (by with_unfolding_all rfl) ⟨h1, h2, h3, trivial⟩ : pt_Go YX4_takeRow _ (22, [(0, pt_r 3 t), (1, pt_i l1), (2, pt_r 13 u), (3, pt_i l3), (4, pt_i l4), (5, pt_i (l5 + 1)), (6, pt_i l6)], [], M)).tr (pt_pick [0, 1, 2, 3, 4, 5] (by with_unfolding_all rfl))
set_option maxRecDepth 100000 in
theorem gX4_takeRow13_34_4 (t : Nat) (l1 : Int32) (u : Nat) (l3 : Int32) (l4 : Int32) (l5 : Int32) (l6 : Int32)  (M : pt_M) (h1 : l1 ≤ l6) :
    pt_Go YX4_takeRow (34, [(0, pt_r 3 t), (1, pt_i l1), (2, pt_r 13 u), (3, pt_i l3), (4, pt_i l4), (5, pt_i l5), (6, pt_i l6)], [], M)
      (22, [(0, pt_r 3 t), (1, pt_i l1), (2, pt_r 13 u), (3, pt_i l3), (4, pt_i l4), (5, pt_i (l5 + 1))], [], M) :=
  (pt_run_ok tX4_takeRow_ok 5 [.inl true] (P := (l1 ≤ l6) ∧ True) (by with_unfolding_all rfl) ⟨h1, trivial⟩ : pt_Go YX4_takeRow _ (22, [(0, pt_r 3 t), (1, pt_i l1), (2, pt_r 13 u), (3, pt_i l3), (4, pt_i l4), (5, pt_i (l5 + 1)), (6, pt_i l6)], [], M)).tr (pt_pick [0, 1, 2, 3, 4, 5] (by with_unfolding_all rfl))
theorem dX4_takeRow_13 {t n : Nat} {u : Nat} {M : pt_M} (ht : t < 7) (hu : u < 7) (hn : n ≤ 10) : pt_Does yX4_takeRow YX4_takeRow [pt_r 3 t, pt_i (nI n), pt_r 13 u] M none (mt_F M t n fun i j k => decide (pt_A M 13 u (rk_F n i j k) = 1)) := by
  generalize hs : (fun i j k => decide (pt_A M 13 u (rk_F n i j k) = 1)) = s
  have h := pt_three (Y := YX4_takeRow) (n := n)
    (fun i => (10, [(0, pt_r 3 t), (1, pt_i (nI n)), (2, pt_r 13 u), (3, pt_i (nI (rk_F n i (i + 1) (i + 2)))), (4, pt_i (nI i))], [], tw_F (hd_F M t (nI n)) t (pb_q (pb_d n i (i + 1) (i + 2)) s)))
    (fun i j => (22, [(0, pt_r 3 t), (1, pt_i (nI n)), (2, pt_r 13 u), (3, pt_i (nI (rk_F n i j (j + 1)))), (4, pt_i (nI i)), (5, pt_i (nI j))], [], tw_F (hd_F M t (nI n)) t (pb_q (pb_d n i j (j + 1)) s)))
    (fun i j k => (34, [(0, pt_r 3 t), (1, pt_i (nI n)), (2, pt_r 13 u), (3, pt_i (nI (rk_F n i j k))), (4, pt_i (nI i)), (5, pt_i (nI j)), (6, pt_i (nI k))], [], tw_F (hd_F M t (nI n)) t (pb_q (pb_d n i j k) s)))
    (fun i hi => (gX4_takeRow13_10_1 t (nI n) u _ (nI i) _ (nI_ge hi (by omega))).to (by rw [nI_1]))
    (fun i j hij hj => (gX4_takeRow13_22_1 t (nI n) u _ (nI i) (nI j) _ (nI_ge hj (by omega))).to (by rw [nI_1]))
    (fun i hi => (gX4_takeRow13_22_2 t (nI n) u _ (nI i) (nI n) _ (Int32.le_refl _)).to (by rw [nI_1, pb_d_i (Nat.le_refl n), rk_i (n + 1) (Nat.le_refl _)]))
    (fun i j k hij hjk hk => by
      obtain ⟨hr1, hr2⟩ := rk_lt n hn i (by omega) j (by omega) k hk hij hjk
      have hA : pt_A (tw_F (hd_F M t (nI n)) t (pb_q (pb_d n i j k) s)) 13 u (pt_nt (nI (rk_F n i j k))) = pt_A M 13 u (rk_F n i j k) := by
        rw [tw_A (by decide), pt_nt_nI (by omega)]
      have hb : s i j k = decide (pt_A M 13 u (rk_F n i j k) = 1) := by rw [← hs]
      by_cases hv : pt_A M 13 u (rk_F n i j k) = 1
      · refine (gX4_takeRow13_34_1 t (nI n) u _ (nI i) (nI j) (nI k) _ (nI_ge hk (by omega)) hu (nI_ge (by omega) (by decide)) (pt_in_nI (by omega) (by decide)) (hA.trans hv) ht (pu_nI (by omega) (by omega) (by omega))).to ?_
        rw [decide_eq_true hv] at hb
        rw [nI_1, nI_1, ← rk_k hjk, show (1 : Int32) = pt_b true from rfl, pu_tw true (by omega) (by omega) (by omega), ← hb, pb_d_k hk s hij hjk]
      · refine (gX4_takeRow13_34_2 t (nI n) u _ (nI i) (nI j) (nI k) _ (nI_ge hk (by omega)) hu (nI_ge (by omega) (by decide)) (pt_in_nI (by omega) (by decide)) (fun z => hv (hA.symm.trans z)) ht (pu_nI (by omega) (by omega) (by omega))).to ?_
        rw [decide_eq_false hv] at hb
        rw [nI_1, nI_1, ← rk_k hjk, show (0 : Int32) = pt_b false from rfl, pu_tw false (by omega) (by omega) (by omega), ← hb, pb_d_k hk s hij hjk])
    (fun i j hij hj => (gX4_takeRow13_34_4 t (nI n) u _ (nI i) (nI j) (nI n) _ (Int32.le_refl _)).to (by rw [nI_1, pb_d_j, rk_j hij hj]))
  refine rX4_takeRow_89 (Nat.le_of_ble_eq_true rfl) rfl (((gX4_takeRow13_0_1 t (nI n) u M ht).to ?_).tr (h.tr ((gX4_takeRow13_10_2 t (nI n) u _ (nI n) _ (Int32.le_refl _)).toM ?_)))
  · rw [bg_tw, ← pb_d_0 s]
    rfl
  · unfold mt_F
    rw [pb_d_n]
theorem rX4_takeTurns_103 {vs : List pt_V} {M M' : pt_M} {L : List (Nat × pt_V)} (hvs : (vs.map pt_w).sum ≤ 9) (hX : M'.2.2.2.2 = M.2.2.2.2) (h : pt_Go YX4_takeTurns (0, pt_en 0 vs, [], M) (103, L, [], M')) : pt_Does yX4_takeTurns YX4_takeTurns vs M none M' := pt_does_go tX4_takeTurns_ok nX4_takeTurns hvs hX ⟨_, by with_unfolding_all rfl, rfl, rfl⟩ h
set_option maxRecDepth 100000 in
theorem gX4_takeTurns_0_1 (t : Nat) (u : Nat) (n : Int32) (x : Int32)  (M : pt_M) (h1 : t < 7) :
    pt_Go YX4_takeTurns (0, [(0, pt_r 3 t), (1, pt_r 3 u), (2, pt_r 23 0), (3, pt_i n), (4, pt_i x)], [], M)
      (8, [(0, pt_r 3 t), (1, pt_r 3 u), (2, pt_r 23 0), (3, pt_i n), (4, pt_i x), (5, pt_i 0)], [], (bg_F M t n)) :=
  pt_run_ok tX4_takeTurns_ok 5 [.inr (2, none, (bg_F M t n))] (P := pt_Cal YX4_takeTurns (.invokevirtual 49) [pt_r 3 t, pt_i n] M none (bg_F M t n) ∧ True) (by with_unfolding_all rfl) ⟨(pt_callV (i := t) kX4_takeTurns_49 mX4_begin rfl h1 rfl (dX4_begin h1)), trivial⟩
set_option maxRecDepth 100000 in
theorem gX4_takeTurns_8_1 (t : Nat) (u : Nat) (l3 : Int32) (l4 : Int32) (l5 : Int32)  (M : pt_M) (h1 : ¬ l3 ≤ l5) :
    pt_Go YX4_takeTurns (8, [(0, pt_r 3 t), (1, pt_r 3 u), (2, pt_r 23 0), (3, pt_i l3), (4, pt_i l4), (5, pt_i l5)], [], M)
      (20, [(0, pt_r 3 t), (1, pt_r 3 u), (2, pt_r 23 0), (3, pt_i l3), (4, pt_i l4), (5, pt_i l5), (6, pt_i (l5 + 1))], [], M) :=
  pt_run_ok tX4_takeTurns_ok 7 [.inl false] (P := (¬ l3 ≤ l5) ∧ True) (by with_unfolding_all rfl) ⟨h1, trivial⟩
set_option maxRecDepth 100000 in
theorem gX4_takeTurns_8_2 (t : Nat) (u : Nat) (l3 : Int32) (l4 : Int32) (l5 : Int32)  (M : pt_M) (h1 : l3 ≤ l5) :
    pt_Go YX4_takeTurns (8, [(0, pt_r 3 t), (1, pt_r 3 u), (2, pt_r 23 0), (3, pt_i l3), (4, pt_i l4), (5, pt_i l5)], [], M)
      (103, [(0, pt_r 3 t), (1, pt_r 3 u), (2, pt_r 23 0), (3, pt_i l3), (4, pt_i l4), (5, pt_i l5)], [], M) :=
  pt_run_ok tX4_takeTurns_ok 3 [.inl true] (P := (l3 ≤ l5) ∧ True) (by with_unfolding_all rfl) ⟨h1, trivial⟩
set_option maxRecDepth 100000 in
theorem gX4_takeTurns_20_1 (t : Nat) (u : Nat) (l3 : Int32) (l4 : Int32) (l5 : Int32) (l6 : Int32)  (M : pt_M) (h1 : ¬ l3 ≤ l6) :
    pt_Go YX4_takeTurns (20, [(0, pt_r 3 t), (1, pt_r 3 u), (2, pt_r 23 0), (3, pt_i l3), (4, pt_i l4), (5, pt_i l5), (6, pt_i l6)], [], M)
      (32, [(0, pt_r 3 t), (1, pt_r 3 u), (2, pt_r 23 0), (3, pt_i l3), (4, pt_i l4), (5, pt_i l5), (6, pt_i l6), (7, pt_i (l6 + 1))], [], M) :=
  pt_run_ok tX4_takeTurns_ok 7 [.inl false] (P := (¬ l3 ≤ l6) ∧ True) (by with_unfolding_all rfl) ⟨h1, trivial⟩
set_option maxRecDepth 100000 in
theorem gX4_takeTurns_20_2 (t : Nat) (u : Nat) (l3 : Int32) (l4 : Int32) (l5 : Int32) (l6 : Int32)  (M : pt_M) (h1 : l3 ≤ l6) :
    pt_Go YX4_takeTurns (20, [(0, pt_r 3 t), (1, pt_r 3 u), (2, pt_r 23 0), (3, pt_i l3), (4, pt_i l4), (5, pt_i l5), (6, pt_i l6)], [], M)
      (8, [(0, pt_r 3 t), (1, pt_r 3 u), (2, pt_r 23 0), (3, pt_i l3), (4, pt_i l4), (5, pt_i (l5 + 1))], [], M) :=
  (pt_run_ok tX4_takeTurns_ok 5 [.inl true] (P := (l3 ≤ l6) ∧ True) (by with_unfolding_all rfl) ⟨h1, trivial⟩ : pt_Go YX4_takeTurns _ (8, [(0, pt_r 3 t), (1, pt_r 3 u), (2, pt_r 23 0), (3, pt_i l3), (4, pt_i l4), (5, pt_i (l5 + 1)), (6, pt_i l6)], [], M)).tr (pt_pick [0, 1, 2, 3, 4, 5] (by with_unfolding_all rfl))
set_option maxRecDepth 100000 in
theorem gX4_takeTurns_32_1 (t : Nat) (u : Nat) (l3 : Int32) (l4 : Int32) (l5 : Int32) (l6 : Int32) (l7 : Int32)  (M : pt_M) (h1 : ¬ l3 ≤ l7) (h2 : ¬ (nI 10) ≤ l7) (h3 : pt_in l5 10) (h4 : pt_in l6 10) (h5 : pt_in l7 10) (h6 : u < 7) (h7 : pt_in (ix_F (pt_A M 23 0 (pt_nt l5)) (pt_A M 23 0 (pt_nt l6))) 100) (h8 : lf_P M u (pt_A M 23 0 (pt_nt l5)) (pt_A M 23 0 (pt_nt l6)) (pt_A M 23 0 (pt_nt l7))) (h9 : ¬ 1 = l4) (h10 : t < 7) (h11 : pu_P l5 l6 l7) :
    pt_Go YX4_takeTurns (32, [(0, pt_r 3 t), (1, pt_r 3 u), (2, pt_r 23 0), (3, pt_i l3), (4, pt_i l4), (5, pt_i l5), (6, pt_i l6), (7, pt_i l7)], [], M)
      (32, [(0, pt_r 3 t), (1, pt_r 3 u), (2, pt_r 23 0), (3, pt_i l3), (4, pt_i l4), (5, pt_i l5), (6, pt_i l6), (7, pt_i (l7 + 1))], [], (pu_F M t l5 l6 l7 1)) :=
  (pt_run_ok tX4_takeTurns_ok 31 [.inl false, .inl false, .inr (4, some (pt_i 1), M), .inl false, .inr (5, none, (pu_F M t l5 l6 l7 1))] (P := (¬ l3 ≤ l7) ∧ (¬ (nI 10) ≤ l7) ∧ (pt_in l5 10) ∧ (pt_in l6 10) ∧ (pt_in l7 10) ∧ pt_Cal YX4_takeTurns (.invokevirtual 56) [pt_r 3 u, pt_i (pt_A M 23 0 (pt_nt l5)), pt_i (pt_A M 23 0 (pt_nt l6)), pt_i (pt_A M 23 0 (pt_nt l7))] M (some (pt_i 1)) M ∧ (¬ 1 = l4) ∧ pt_Cal YX4_takeTurns (.invokevirtual 53) [pt_r 3 t, pt_i l5, pt_i l6, pt_i l7, pt_i 1] M none (pu_F M t l5 l6 l7 1) ∧ True) (by with_unfolding_all rfl) ⟨h1, h2, h3, h4, h5, (pt_callV (i := u) kX4_takeTurns_56 mX4_isLeft rfl h6 rfl (dX4_isLeft_1 h6 h7 h8)), h9, (pt_callV (i := t) kX4_takeTurns_53 mX4_put rfl h10 rfl (dX4_putP h10 h11)), trivial⟩ : pt_Go YX4_takeTurns _ (32, [(0, pt_r 3 t), (1, pt_r 3 u), (2, pt_r 23 0), (3, pt_i l3), (4, pt_i l4), (5, pt_i l5), (6, pt_i l6), (7, pt_i (l7 + 1)), (8, pt_i 1)], [], (pu_F M t l5 l6 l7 1))).tr (pt_pick [0, 1, 2, 3, 4, 5, 6, 7] (by with_unfolding_all rfl))
set_option maxRecDepth 100000 in
theorem gX4_takeTurns_32_2 (t : Nat) (u : Nat) (l3 : Int32) (l4 : Int32) (l5 : Int32) (l6 : Int32) (l7 : Int32)  (M : pt_M) (h1 : ¬ l3 ≤ l7) (h2 : ¬ (nI 10) ≤ l7) (h3 : pt_in l5 10) (h4 : pt_in l6 10) (h5 : pt_in l7 10) (h6 : u < 7) (h7 : pt_in (ix_F (pt_A M 23 0 (pt_nt l5)) (pt_A M 23 0 (pt_nt l6))) 100) (h8 : lf_P M u (pt_A M 23 0 (pt_nt l5)) (pt_A M 23 0 (pt_nt l6)) (pt_A M 23 0 (pt_nt l7))) (h9 : 1 = l4) (h10 : t < 7) (h11 : pu_P l5 l6 l7) :
    pt_Go YX4_takeTurns (32, [(0, pt_r 3 t), (1, pt_r 3 u), (2, pt_r 23 0), (3, pt_i l3), (4, pt_i l4), (5, pt_i l5), (6, pt_i l6), (7, pt_i l7)], [], M)
      (32, [(0, pt_r 3 t), (1, pt_r 3 u), (2, pt_r 23 0), (3, pt_i l3), (4, pt_i l4), (5, pt_i l5), (6, pt_i l6), (7, pt_i (l7 + 1))], [], (pu_F M t l5 l6 l7 0)) :=
  (pt_run_ok tX4_takeTurns_ok 30 [.inl false, .inl false, .inr (4, some (pt_i 1), M), .inl true, .inr (5, none, (pu_F M t l5 l6 l7 0))] (P := (¬ l3 ≤ l7) ∧ (¬ (nI 10) ≤ l7) ∧ (pt_in l5 10) ∧ (pt_in l6 10) ∧ (pt_in l7 10) ∧ pt_Cal YX4_takeTurns (.invokevirtual 56) [pt_r 3 u, pt_i (pt_A M 23 0 (pt_nt l5)), pt_i (pt_A M 23 0 (pt_nt l6)), pt_i (pt_A M 23 0 (pt_nt l7))] M (some (pt_i 1)) M ∧ (1 = l4) ∧ pt_Cal YX4_takeTurns (.invokevirtual 53) [pt_r 3 t, pt_i l5, pt_i l6, pt_i l7, pt_i 0] M none (pu_F M t l5 l6 l7 0) ∧ True) (by with_unfolding_all rfl) ⟨h1, h2, h3, h4, h5, (pt_callV (i := u) kX4_takeTurns_56 mX4_isLeft rfl h6 rfl (dX4_isLeft_1 h6 h7 h8)), h9, (pt_callV (i := t) kX4_takeTurns_53 mX4_put rfl h10 rfl (dX4_putP h10 h11)), trivial⟩ : pt_Go YX4_takeTurns _ (32, [(0, pt_r 3 t), (1, pt_r 3 u), (2, pt_r 23 0), (3, pt_i l3), (4, pt_i l4), (5, pt_i l5), (6, pt_i l6), (7, pt_i (l7 + 1)), (8, pt_i 1)], [], (pu_F M t l5 l6 l7 0))).tr (pt_pick [0, 1, 2, 3, 4, 5, 6, 7] (by with_unfolding_all rfl))
set_option maxRecDepth 100000 in
theorem gX4_takeTurns_32_3 (t : Nat) (u : Nat) (l3 : Int32) (l4 : Int32) (l5 : Int32) (l6 : Int32) (l7 : Int32)  (M : pt_M) (h1 : ¬ l3 ≤ l7) (h2 : ¬ (nI 10) ≤ l7) (h3 : pt_in l5 10) (h4 : pt_in l6 10) (h5 : pt_in l7 10) (h6 : u < 7) (h7 : pt_in (ix_F (pt_A M 23 0 (pt_nt l5)) (pt_A M 23 0 (pt_nt l6))) 100) (h8 : ¬ lf_P M u (pt_A M 23 0 (pt_nt l5)) (pt_A M 23 0 (pt_nt l6)) (pt_A M 23 0 (pt_nt l7))) (h9 : ¬ 0 = l4) (h10 : t < 7) (h11 : pu_P l5 l6 l7) :
    pt_Go YX4_takeTurns (32, [(0, pt_r 3 t), (1, pt_r 3 u), (2, pt_r 23 0), (3, pt_i l3), (4, pt_i l4), (5, pt_i l5), (6, pt_i l6), (7, pt_i l7)], [], M)
      (32, [(0, pt_r 3 t), (1, pt_r 3 u), (2, pt_r 23 0), (3, pt_i l3), (4, pt_i l4), (5, pt_i l5), (6, pt_i l6), (7, pt_i (l7 + 1))], [], (pu_F M t l5 l6 l7 1)) :=
  (pt_run_ok tX4_takeTurns_ok 31 [.inl false, .inl false, .inr (4, some (pt_i 0), M), .inl false, .inr (5, none, (pu_F M t l5 l6 l7 1))] (P := (¬ l3 ≤ l7) ∧ (¬ (nI 10) ≤ l7) ∧ (pt_in l5 10) ∧ (pt_in l6 10) ∧ (pt_in l7 10) ∧ pt_Cal YX4_takeTurns (.invokevirtual 56) [pt_r 3 u, pt_i (pt_A M 23 0 (pt_nt l5)), pt_i (pt_A M 23 0 (pt_nt l6)), pt_i (pt_A M 23 0 (pt_nt l7))] M (some (pt_i 0)) M ∧ (¬ 0 = l4) ∧ pt_Cal YX4_takeTurns (.invokevirtual 53) [pt_r 3 t, pt_i l5, pt_i l6, pt_i l7, pt_i 1] M none (pu_F M t l5 l6 l7 1) ∧ True) (by with_unfolding_all rfl) ⟨h1, h2, h3, h4, h5, (pt_callV (i := u) kX4_takeTurns_56 mX4_isLeft rfl h6 rfl (dX4_isLeft_0 h6 h7 h8)), h9, (pt_callV (i := t) kX4_takeTurns_53 mX4_put rfl h10 rfl (dX4_putP h10 h11)), trivial⟩ : pt_Go YX4_takeTurns _ (32, [(0, pt_r 3 t), (1, pt_r 3 u), (2, pt_r 23 0), (3, pt_i l3), (4, pt_i l4), (5, pt_i l5), (6, pt_i l6), (7, pt_i (l7 + 1)), (8, pt_i 0)], [], (pu_F M t l5 l6 l7 1))).tr (pt_pick [0, 1, 2, 3, 4, 5, 6, 7] (by with_unfolding_all rfl))
set_option maxRecDepth 100000 in
theorem gX4_takeTurns_32_4 (t : Nat) (u : Nat) (l3 : Int32) (l4 : Int32) (l5 : Int32) (l6 : Int32) (l7 : Int32)  (M : pt_M) (h1 : ¬ l3 ≤ l7) (h2 : ¬ (nI 10) ≤ l7) (h3 : pt_in l5 10) (h4 : pt_in l6 10) (h5 : pt_in l7 10) (h6 : u < 7) (h7 : pt_in (ix_F (pt_A M 23 0 (pt_nt l5)) (pt_A M 23 0 (pt_nt l6))) 100) (h8 : ¬ lf_P M u (pt_A M 23 0 (pt_nt l5)) (pt_A M 23 0 (pt_nt l6)) (pt_A M 23 0 (pt_nt l7))) (h9 : 0 = l4) (h10 : t < 7) (h11 : pu_P l5 l6 l7) :
    pt_Go YX4_takeTurns (32, [(0, pt_r 3 t), (1, pt_r 3 u), (2, pt_r 23 0), (3, pt_i l3), (4, pt_i l4), (5, pt_i l5), (6, pt_i l6), (7, pt_i l7)], [], M)
      (32, [(0, pt_r 3 t), (1, pt_r 3 u), (2, pt_r 23 0), (3, pt_i l3), (4, pt_i l4), (5, pt_i l5), (6, pt_i l6), (7, pt_i (l7 + 1))], [], (pu_F M t l5 l6 l7 0)) :=
  (pt_run_ok tX4_takeTurns_ok 30 [.inl false, .inl false, .inr (4, some (pt_i 0), M), .inl true, .inr (5, none, (pu_F M t l5 l6 l7 0))] (P := (¬ l3 ≤ l7) ∧ (¬ (nI 10) ≤ l7) ∧ (pt_in l5 10) ∧ (pt_in l6 10) ∧ (pt_in l7 10) ∧ pt_Cal YX4_takeTurns (.invokevirtual 56) [pt_r 3 u, pt_i (pt_A M 23 0 (pt_nt l5)), pt_i (pt_A M 23 0 (pt_nt l6)), pt_i (pt_A M 23 0 (pt_nt l7))] M (some (pt_i 0)) M ∧ (0 = l4) ∧ pt_Cal YX4_takeTurns (.invokevirtual 53) [pt_r 3 t, pt_i l5, pt_i l6, pt_i l7, pt_i 0] M none (pu_F M t l5 l6 l7 0) ∧ True) (by with_unfolding_all rfl) ⟨h1, h2, h3, h4, h5, (pt_callV (i := u) kX4_takeTurns_56 mX4_isLeft rfl h6 rfl (dX4_isLeft_0 h6 h7 h8)), h9, (pt_callV (i := t) kX4_takeTurns_53 mX4_put rfl h10 rfl (dX4_putP h10 h11)), trivial⟩ : pt_Go YX4_takeTurns _ (32, [(0, pt_r 3 t), (1, pt_r 3 u), (2, pt_r 23 0), (3, pt_i l3), (4, pt_i l4), (5, pt_i l5), (6, pt_i l6), (7, pt_i (l7 + 1)), (8, pt_i 0)], [], (pu_F M t l5 l6 l7 0))).tr (pt_pick [0, 1, 2, 3, 4, 5, 6, 7] (by with_unfolding_all rfl))
set_option maxRecDepth 100000 in
theorem gX4_takeTurns_32_5 (t : Nat) (u : Nat) (l3 : Int32) (l4 : Int32) (l5 : Int32) (l6 : Int32) (l7 : Int32)  (M : pt_M) (h1 : ¬ l3 ≤ l7) (h2 : (nI 10) ≤ l7) :
    pt_Go YX4_takeTurns (32, [(0, pt_r 3 t), (1, pt_r 3 u), (2, pt_r 23 0), (3, pt_i l3), (4, pt_i l4), (5, pt_i l5), (6, pt_i l6), (7, pt_i l7)], [], M)
      (20, [(0, pt_r 3 t), (1, pt_r 3 u), (2, pt_r 23 0), (3, pt_i l3), (4, pt_i l4), (5, pt_i l5), (6, pt_i (l6 + 1))], [], M) :=
  (pt_run_ok tX4_takeTurns_ok 9 [.inl false, .inl true] (P := (¬ l3 ≤ l7) ∧ ((nI 10) ≤ l7) ∧ True) (by with_unfolding_all rfl) ⟨h1, h2, trivial⟩ : pt_Go YX4_takeTurns _ (20, [(0, pt_r 3 t), (1, pt_r 3 u), (2, pt_r 23 0), (3, pt_i l3), (4, pt_i l4), (5, pt_i l5), (6, pt_i (l6 + 1)), (7, pt_i l7)], [], M)).tr (pt_pick [0, 1, 2, 3, 4, 5, 6] (by with_unfolding_all rfl))
set_option maxRecDepth 100000 in
theorem gX4_takeTurns_32_6 (t : Nat) (u : Nat) (l3 : Int32) (l4 : Int32) (l5 : Int32) (l6 : Int32) (l7 : Int32)  (M : pt_M) (h1 : l3 ≤ l7) :
    pt_Go YX4_takeTurns (32, [(0, pt_r 3 t), (1, pt_r 3 u), (2, pt_r 23 0), (3, pt_i l3), (4, pt_i l4), (5, pt_i l5), (6, pt_i l6), (7, pt_i l7)], [], M)
      (20, [(0, pt_r 3 t), (1, pt_r 3 u), (2, pt_r 23 0), (3, pt_i l3), (4, pt_i l4), (5, pt_i l5), (6, pt_i (l6 + 1))], [], M) :=
  (pt_run_ok tX4_takeTurns_ok 5 [.inl true] (P := (l3 ≤ l7) ∧ True) (by with_unfolding_all rfl) ⟨h1, trivial⟩ : pt_Go YX4_takeTurns _ (20, [(0, pt_r 3 t), (1, pt_r 3 u), (2, pt_r 23 0), (3, pt_i l3), (4, pt_i l4), (5, pt_i l5), (6, pt_i (l6 + 1)), (7, pt_i l7)], [], M)).tr (pt_pick [0, 1, 2, 3, 4, 5, 6] (by with_unfolding_all rfl))
theorem dX4_takeTurns {t u n : Nat} {mr : Bool} {M : pt_M} {B : Nat → Nat → Nat → Bool} {og : Nat → Nat} (ht : t < 7) (hu : u < 7) (htu : u ≠ t) (hn : n ≤ 10) (hB : ct_B M u B) (ho : ∀ i, i < n → pt_A M 23 0 i = nI (og i) ∧ og i < 10) : pt_Does yX4_takeTurns YX4_takeTurns [pt_r 3 t, pt_r 3 u, pt_r 23 0, pt_i (nI n), pt_i (pt_b mr)] M none (mt_F M t n fun i j k => B (og i) (og j) (og k) != mr) := by
  generalize hs : (fun i j k => B (og i) (og j) (og k) != mr) = s
  have h := pt_three (Y := YX4_takeTurns) (n := n)
    (fun i => (8, [(0, pt_r 3 t), (1, pt_r 3 u), (2, pt_r 23 0), (3, pt_i (nI n)), (4, pt_i (pt_b mr)), (5, pt_i (nI i))], [], tw_F (hd_F M t (nI n)) t (pb_q (pb_d n i (i + 1) (i + 2)) s)))
    (fun i j => (20, [(0, pt_r 3 t), (1, pt_r 3 u), (2, pt_r 23 0), (3, pt_i (nI n)), (4, pt_i (pt_b mr)), (5, pt_i (nI i)), (6, pt_i (nI j))], [], tw_F (hd_F M t (nI n)) t (pb_q (pb_d n i j (j + 1)) s)))
    (fun i j k => (32, [(0, pt_r 3 t), (1, pt_r 3 u), (2, pt_r 23 0), (3, pt_i (nI n)), (4, pt_i (pt_b mr)), (5, pt_i (nI i)), (6, pt_i (nI j)), (7, pt_i (nI k))], [], tw_F (hd_F M t (nI n)) t (pb_q (pb_d n i j k) s)))
    (fun i hi => (gX4_takeTurns_8_1 t u (nI n) (pt_b mr) (nI i) _ (nI_ge hi (by omega))).to (by rw [nI_1]))
    (fun i j hij hj => (gX4_takeTurns_20_1 t u (nI n) (pt_b mr) (nI i) (nI j) _ (nI_ge hj (by omega))).to (by rw [nI_1]))
    (fun i hi => (gX4_takeTurns_20_2 t u (nI n) (pt_b mr) (nI i) (nI n) _ (Int32.le_refl _)).to (by rw [nI_1, pb_d_i (Nat.le_refl n)]))
    (fun i j k hij hjk hk => by
      have hA : ∀ i, i < n → pt_A (tw_F (hd_F M t (nI n)) t (pb_q (pb_d n i j k) s)) 23 0 (pt_nt (nI i)) = nI (og i) := fun i hi => by
        rw [tw_A (by decide), pt_nt_nI (by omega)]
        exact (ho i hi).1
      have hA : ∀ B', ∀ i, i < n → pt_A (tw_F (hd_F M t (nI n)) t B') 23 0 (pt_nt (nI i)) = nI (og i) := fun B' i hi => by
        rw [tw_A (by decide), pt_nt_nI (by omega)]
        exact (ho i hi).1
      have h1 := hA (pb_q (pb_d n i j k) s) i (by omega)
      have h2 := hA (pb_q (pb_d n i j k) s) j (by omega)
      have h3 := hA (pb_q (pb_d n i j k) s) k (by omega)
      have hb : s i j k = (B (og i) (og j) (og k) != mr) := by rw [← hs]
      have hB' : ct_B (tw_F (hd_F M t (nI n)) t (pb_q (pb_d n i j k) s)) u B := fun a c ha hc => by
        rw [tw_U htu]
        exact hB a c ha hc
      have hl := lf_B hB' (ho i (by omega)).2 (ho j (by omega)).2 (ho k hk).2
      have hx := ix_in (ho i (by omega)).2 (ho j (by omega)).2
      have e5 := pt_in_nI (show i < 10 by omega) (by decide)
      have e6 := pt_in_nI (show j < 10 by omega) (by decide)
      have e7 := pt_in_nI (show k < 10 by omega) (by decide)
      have e8 : pu_P (nI i) (nI j) (nI k) := pu_nI (by omega) (by omega) (by omega)
      cases hv : B (og i) (og j) (og k) <;> rw [hv] at hb hl <;> cases mr
      · refine (gX4_takeTurns_32_4 t u (nI n) _ (nI i) (nI j) (nI k) _ (nI_ge hk (by omega)) (nI_ge (by omega) (by decide)) e5 e6 e7 hu (by rw [h1, h2]; exact hx) (by rw [h1, h2, h3]; exact fun z => by cases hl.mp z) rfl ht e8).to ?_
        rw [nI_1, show pu_F (tw_F (hd_F M t (nI n)) t (pb_q (pb_d n i j k) s)) t (nI i) (nI j) (nI k) 0 = pu_F (tw_F (hd_F M t (nI n)) t (pb_q (pb_d n i j k) s)) t (nI i) (nI j) (nI k) (pt_b (s i j k)) by rw [hb]; rfl, pu_tw _ (by omega) (by omega) (by omega), pb_d_k hk s hij hjk] <;> rfl
      · refine (gX4_takeTurns_32_3 t u (nI n) _ (nI i) (nI j) (nI k) _ (nI_ge hk (by omega)) (nI_ge (by omega) (by decide)) e5 e6 e7 hu (by rw [h1, h2]; exact hx) (by rw [h1, h2, h3]; exact fun z => by cases hl.mp z) (by decide) ht e8).to ?_
        rw [nI_1, show pu_F (tw_F (hd_F M t (nI n)) t (pb_q (pb_d n i j k) s)) t (nI i) (nI j) (nI k) 1 = pu_F (tw_F (hd_F M t (nI n)) t (pb_q (pb_d n i j k) s)) t (nI i) (nI j) (nI k) (pt_b (s i j k)) by rw [hb]; rfl, pu_tw _ (by omega) (by omega) (by omega), pb_d_k hk s hij hjk] <;> rfl
      · refine (gX4_takeTurns_32_1 t u (nI n) _ (nI i) (nI j) (nI k) _ (nI_ge hk (by omega)) (nI_ge (by omega) (by decide)) e5 e6 e7 hu (by rw [h1, h2]; exact hx) (by rw [h1, h2, h3]; exact hl.mpr rfl) (by decide) ht e8).to ?_
        rw [nI_1, show pu_F (tw_F (hd_F M t (nI n)) t (pb_q (pb_d n i j k) s)) t (nI i) (nI j) (nI k) 1 = pu_F (tw_F (hd_F M t (nI n)) t (pb_q (pb_d n i j k) s)) t (nI i) (nI j) (nI k) (pt_b (s i j k)) by rw [hb]; rfl, pu_tw _ (by omega) (by omega) (by omega), pb_d_k hk s hij hjk] <;> rfl
      · refine (gX4_takeTurns_32_2 t u (nI n) _ (nI i) (nI j) (nI k) _ (nI_ge hk (by omega)) (nI_ge (by omega) (by decide)) e5 e6 e7 hu (by rw [h1, h2]; exact hx) (by rw [h1, h2, h3]; exact hl.mpr rfl) rfl ht e8).to ?_
        rw [nI_1, show pu_F (tw_F (hd_F M t (nI n)) t (pb_q (pb_d n i j k) s)) t (nI i) (nI j) (nI k) 0 = pu_F (tw_F (hd_F M t (nI n)) t (pb_q (pb_d n i j k) s)) t (nI i) (nI j) (nI k) (pt_b (s i j k)) by rw [hb]; rfl, pu_tw _ (by omega) (by omega) (by omega), pb_d_k hk s hij hjk] <;> rfl)
    (fun i j hij hj => (gX4_takeTurns_32_6 t u (nI n) (pt_b mr) (nI i) (nI j) (nI n) _ (Int32.le_refl _)).to (by rw [nI_1, pb_d_j]))
  refine rX4_takeTurns_103 (Nat.le_of_ble_eq_true rfl) rfl (((gX4_takeTurns_0_1 t u (nI n) (pt_b mr) M ht).to ?_).tr (h.tr ((gX4_takeTurns_8_2 t u (nI n) (pt_b mr) (nI n) _ (Int32.le_refl _)).toM ?_)))
  · rw [bg_tw, ← pb_d_0 s]
    rfl
  · unfold mt_F
    rw [pb_d_n]
