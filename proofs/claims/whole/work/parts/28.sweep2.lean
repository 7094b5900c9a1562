/-! Sweeper.fill; the tape -/
def fl_S (M : pt_M) (i j k : Nat) : Bool := decide (¬ pt_A M 19 0 (10 * j + k) ≤ pt_A M 19 0 (10 * i + j))
theorem rX3_fill_95 {vs : List pt_V} {M M' : pt_M} {L : List (Nat × pt_V)} (hvs : (vs.map pt_w).sum ≤ 6) (hX : M'.2.2.2.2 = M.2.2.2.2) (h : pt_Go YX3_fill (0, pt_en 0 vs, [], M) (95, L, [], M')) : pt_Does yX3_fill YX3_fill vs M none M' := pt_does_go tX3_fill_ok nX3_fill hvs hX ⟨_, by with_unfolding_all rfl, rfl, rfl⟩ h
set_option maxRecDepth 100000 in
theorem gX3_fill_0_1 (t : Nat) (n : Int32)  (M : pt_M) (h1 : t < 7) :
    pt_Go YX3_fill (0, [(0, pt_r 6 0), (1, pt_r 3 t), (2, pt_i n)], [], M)
      (7, [(0, pt_r 6 0), (1, pt_r 3 t), (2, pt_i n), (3, pt_i 0)], [], (bg_F M t n)) :=
  pt_run_ok tX3_fill_ok 5 [.inr (2, none, (bg_F M t n))] (P := pt_Cal YX3_fill (.invokevirtual 44) [pt_r 3 t, pt_i n] M none (bg_F M t n) ∧ True) (by with_unfolding_all rfl) ⟨(pt_callV (i := t) kX3_fill_44 mX4_begin rfl h1 rfl (dX4_begin h1)), trivial⟩
set_option maxRecDepth 100000 in
theorem gX3_fill_7_1 (t : Nat) (l2 : Int32) (l3 : Int32)  (M : pt_M) (h1 : ¬ l2 ≤ l3) :
    pt_Go YX3_fill (7, [(0, pt_r 6 0), (1, pt_r 3 t), (2, pt_i l2), (3, pt_i l3)], [], M)
      (17, [(0, pt_r 6 0), (1, pt_r 3 t), (2, pt_i l2), (3, pt_i l3), (4, pt_i (l3 + 1))], [], M) :=
  pt_run_ok tX3_fill_ok 7 [.inl false] (P := (¬ l2 ≤ l3) ∧ True) (by with_unfolding_all rfl) ⟨h1, trivial⟩
set_option maxRecDepth 100000 in
theorem gX3_fill_7_2 (t : Nat) (l2 : Int32) (l3 : Int32)  (M : pt_M) (h1 : l2 ≤ l3) :
    pt_Go YX3_fill (7, [(0, pt_r 6 0), (1, pt_r 3 t), (2, pt_i l2), (3, pt_i l3)], [], M)
      (95, [(0, pt_r 6 0), (1, pt_r 3 t), (2, pt_i l2), (3, pt_i l3)], [], M) :=
  pt_run_ok tX3_fill_ok 3 [.inl true] (P := (l2 ≤ l3) ∧ True) (by with_unfolding_all rfl) ⟨h1, trivial⟩
set_option maxRecDepth 100000 in
theorem gX3_fill_17_1 (t : Nat) (l2 : Int32) (l3 : Int32) (l4 : Int32)  (M : pt_M) (h1 : ¬ l2 ≤ l4) :
    pt_Go YX3_fill (17, [(0, pt_r 6 0), (1, pt_r 3 t), (2, pt_i l2), (3, pt_i l3), (4, pt_i l4)], [], M)
      (29, [(0, pt_r 6 0), (1, pt_r 3 t), (2, pt_i l2), (3, pt_i l3), (4, pt_i l4), (5, pt_i (l4 + 1))], [], M) :=
  pt_run_ok tX3_fill_ok 7 [.inl false] (P := (¬ l2 ≤ l4) ∧ True) (by with_unfolding_all rfl) ⟨h1, trivial⟩
set_option maxRecDepth 100000 in
theorem gX3_fill_17_2 (t : Nat) (l2 : Int32) (l3 : Int32) (l4 : Int32)  (M : pt_M) (h1 : l2 ≤ l4) :
    pt_Go YX3_fill (17, [(0, pt_r 6 0), (1, pt_r 3 t), (2, pt_i l2), (3, pt_i l3), (4, pt_i l4)], [], M)
      (7, [(0, pt_r 6 0), (1, pt_r 3 t), (2, pt_i l2), (3, pt_i (l3 + 1))], [], M) :=
  (pt_run_ok tX3_fill_ok 5 [.inl true] (P := (l2 ≤ l4) ∧ True) (by with_unfolding_all rfl) ⟨h1, trivial⟩ : pt_Go YX3_fill _ (7, [(0, pt_r 6 0), (1, pt_r 3 t), (2, pt_i l2), (3, pt_i (l3 + 1)), (4, pt_i l4)], [], M)).tr (pt_pick [0, 1, 2, 3] (by with_unfolding_all rfl))
set_option maxRecDepth 100000 in
theorem gX3_fill_29_1 (t : Nat) (l2 : Int32) (l3 : Int32) (l4 : Int32) (l5 : Int32)  (M : pt_M) (h1 : ¬ l2 ≤ l5) (h2 : pt_in ((l3 * 10) + l4) 100) (h3 : pt_in ((l4 * 10) + l5) 100) (h4 : ¬ (pt_A M 19 0 (pt_nt ((l4 * 10) + l5))) ≤ (pt_A M 19 0 (pt_nt ((l3 * 10) + l4)))) (h5 : t < 7) (h6 : pu_P l3 l4 l5) :
    pt_Go YX3_fill (29, [(0, pt_r 6 0), (1, pt_r 3 t), (2, pt_i l2), (3, pt_i l3), (4, pt_i l4), (5, pt_i l5)], [], M)
      (29, [(0, pt_r 6 0), (1, pt_r 3 t), (2, pt_i l2), (3, pt_i l3), (4, pt_i l4), (5, pt_i (l5 + 1))], [], (pu_F M t l3 l4 l5 1)) :=
  pt_run_ok tX3_fill_ok 29 [.inl false, .inl false, .inr (5, none, (pu_F M t l3 l4 l5 1))] (P := (¬ l2 ≤ l5) ∧ (pt_in ((l3 * 10) + l4) 100) ∧ (pt_in ((l4 * 10) + l5) 100) ∧ (¬ (pt_A M 19 0 (pt_nt ((l4 * 10) + l5))) ≤ (pt_A M 19 0 (pt_nt ((l3 * 10) + l4)))) ∧ pt_Cal YX3_fill (.invokevirtual 47) [pt_r 3 t, pt_i l3, pt_i l4, pt_i l5, pt_i 1] M none (pu_F M t l3 l4 l5 1) ∧ True) (by with_unfolding_all rfl) ⟨h1, h2, h3, h4, (pt_callV (i := t) kX3_fill_47 mX4_put rfl h5 rfl (dX4_putP h5 h6)), trivial⟩
set_option maxRecDepth 100000 in
theorem gX3_fill_29_2 (t : Nat) (l2 : Int32) (l3 : Int32) (l4 : Int32) (l5 : Int32)  (M : pt_M) (h1 : ¬ l2 ≤ l5) (h2 : pt_in ((l3 * 10) + l4) 100) (h3 : pt_in ((l4 * 10) + l5) 100) (h4 : (pt_A M 19 0 (pt_nt ((l4 * 10) + l5))) ≤ (pt_A M 19 0 (pt_nt ((l3 * 10) + l4)))) (h5 : t < 7) (h6 : pu_P l3 l4 l5) :
    pt_Go YX3_fill (29, [(0, pt_r 6 0), (1, pt_r 3 t), (2, pt_i l2), (3, pt_i l3), (4, pt_i l4), (5, pt_i l5)], [], M)
      (29, [(0, pt_r 6 0), (1, pt_r 3 t), (2, pt_i l2), (3, pt_i l3), (4, pt_i l4), (5, pt_i (l5 + 1))], [], (pu_F M t l3 l4 l5 0)) :=
  pt_run_ok tX3_fill_ok 28 [.inl false, .inl true, .inr (5, none, (pu_F M t l3 l4 l5 0))] (P := (¬ l2 ≤ l5) ∧ (pt_in ((l3 * 10) + l4) 100) ∧ (pt_in ((l4 * 10) + l5) 100) ∧ ((pt_A M 19 0 (pt_nt ((l4 * 10) + l5))) ≤ (pt_A M 19 0 (pt_nt ((l3 * 10) + l4)))) ∧ pt_Cal YX3_fill (.invokevirtual 47) [pt_r 3 t, pt_i l3, pt_i l4, pt_i l5, pt_i 0] M none (pu_F M t l3 l4 l5 0) ∧ True) (by with_unfolding_all rfl) ⟨h1, h2, h3, h4, (pt_callV (i := t) kX3_fill_47 mX4_put rfl h5 rfl (dX4_putP h5 h6)), trivial⟩
set_option maxRecDepth 100000 in
theorem gX3_fill_29_3 (t : Nat) (l2 : Int32) (l3 : Int32) (l4 : Int32) (l5 : Int32)  (M : pt_M) (h1 : l2 ≤ l5) :
    pt_Go YX3_fill (29, [(0, pt_r 6 0), (1, pt_r 3 t), (2, pt_i l2), (3, pt_i l3), (4, pt_i l4), (5, pt_i l5)], [], M)
      (17, [(0, pt_r 6 0), (1, pt_r 3 t), (2, pt_i l2), (3, pt_i l3), (4, pt_i (l4 + 1))], [], M) :=
  (pt_run_ok tX3_fill_ok 5 [.inl true] (P := (l2 ≤ l5) ∧ True) (by with_unfolding_all rfl) ⟨h1, trivial⟩ : pt_Go YX3_fill _ (17, [(0, pt_r 6 0), (1, pt_r 3 t), (2, pt_i l2), (3, pt_i l3), (4, pt_i (l4 + 1)), (5, pt_i l5)], [], M)).tr (pt_pick [0, 1, 2, 3, 4] (by with_unfolding_all rfl))
theorem dX3_fill {t n : Nat} {M : pt_M} (ht : t < 7) (hn : n ≤ 10) : pt_Does yX3_fill YX3_fill [pt_r 6 0, pt_r 3 t, pt_i (nI n)] M none (mt_F M t n (fl_S M)) := by
  generalize hs : fl_S M = s
  have h := pt_three (Y := YX3_fill) (n := n)
    (fun i => (7, [(0, pt_r 6 0), (1, pt_r 3 t), (2, pt_i (nI n)), (3, pt_i (nI i))], [], tw_F (hd_F M t (nI n)) t (pb_q (pb_d n i (i + 1) (i + 2)) s)))
    (fun i j => (17, [(0, pt_r 6 0), (1, pt_r 3 t), (2, pt_i (nI n)), (3, pt_i (nI i)), (4, pt_i (nI j))], [], tw_F (hd_F M t (nI n)) t (pb_q (pb_d n i j (j + 1)) s)))
    (fun i j k => (29, [(0, pt_r 6 0), (1, pt_r 3 t), (2, pt_i (nI n)), (3, pt_i (nI i)), (4, pt_i (nI j)), (5, pt_i (nI k))], [], tw_F (hd_F M t (nI n)) t (pb_q (pb_d n i j k) s)))
    (fun i hi => (gX3_fill_7_1 t (nI n) (nI i) _ (nI_ge hi (by omega))).to (by rw [nI_1]))
    (fun i j hij hj => (gX3_fill_17_1 t (nI n) (nI i) (nI j) _ (nI_ge hj (by omega))).to (by rw [nI_1]))
    (fun i hi => (gX3_fill_17_2 t (nI n) (nI i) (nI n) _ (Int32.le_refl _)).to (by rw [nI_1, pb_d_i (Nat.le_refl n)]))
    (fun i j k hij hjk hk => by
      have e1 : (nI i * 10) + nI j = nI (10 * i + j) := ix_nI i j
      have e2 : (nI j * 10) + nI k = nI (10 * j + k) := ix_nI j k
      have p1 : pt_in ((nI i * 10) + nI j) 100 := ix_in (by omega) (by omega)
      have p2 : pt_in ((nI j * 10) + nI k) 100 := ix_in (by omega) (by omega)
      have hA1 : pt_A (tw_F (hd_F M t (nI n)) t (pb_q (pb_d n i j k) s)) 19 0 (pt_nt ((nI i * 10) + nI j)) = pt_A M 19 0 (10 * i + j) := by
        rw [tw_A (by decide), e1, pt_nt_nI (by omega)]
      have hA2 : pt_A (tw_F (hd_F M t (nI n)) t (pb_q (pb_d n i j k) s)) 19 0 (pt_nt ((nI j * 10) + nI k)) = pt_A M 19 0 (10 * j + k) := by
        rw [tw_A (by decide), e2, pt_nt_nI (by omega)]
      have hb : s i j k = decide (¬ pt_A M 19 0 (10 * j + k) ≤ pt_A M 19 0 (10 * i + j)) := by rw [← hs]; rfl
      by_cases hv : pt_A M 19 0 (10 * j + k) ≤ pt_A M 19 0 (10 * i + j)
      · refine (gX3_fill_29_2 t (nI n) (nI i) (nI j) (nI k) _ (nI_ge hk (by omega)) p1 p2 (by rw [hA1, hA2]; exact hv) ht (pu_nI (by omega) (by omega) (by omega))).to ?_
        rw [decide_eq_false (fun z => z hv)] at hb
        rw [nI_1, show (0 : Int32) = pt_b false from rfl, pu_tw false (by omega) (by omega) (by omega), ← hb, pb_d_k hk s hij hjk]
      · refine (gX3_fill_29_1 t (nI n) (nI i) (nI j) (nI k) _ (nI_ge hk (by omega)) p1 p2 (by rw [hA1, hA2]; exact hv) ht (pu_nI (by omega) (by omega) (by omega))).to ?_
        rw [decide_eq_true hv] at hb
        rw [nI_1, show pu_F (tw_F (hd_F M t (nI n)) t (pb_q (pb_d n i j k) s)) t (nI i) (nI j) (nI k) 1 = pu_F (tw_F (hd_F M t (nI n)) t (pb_q (pb_d n i j k) s)) t (nI i) (nI j) (nI k) (pt_b true) from rfl, pu_tw true (by omega) (by omega) (by omega), ← hb, pb_d_k hk s hij hjk])
    (fun i j hij hj => (gX3_fill_29_3 t (nI n) (nI i) (nI j) (nI n) _ (Int32.le_refl _)).to (by rw [nI_1, pb_d_j]))
  refine rX3_fill_95 (Nat.le_of_ble_eq_true rfl) rfl (((gX3_fill_0_1 t (nI n) M ht).to ?_).tr (h.tr ((gX3_fill_7_2 t (nI n) (nI n) _ (Int32.le_refl _)).toM ?_)))
  · rw [bg_tw, ← pb_d_0 s]
    rfl
  · unfold mt_F
    rw [pb_d_n]
def by_H (M : pt_M) (x : Int32) : Prop := ¬ x < 0 ∧ ¬ (pt_F M 4 1 0) ≤ x ∧ pt_in x 140
theorem rX5_byteAt_22 {vs : List pt_V} {M M' : pt_M} {x : Int32} {L : List (Nat × pt_V)} (hvs : (vs.map pt_w).sum ≤ 2) (hX : M'.2.2.2.2 = M.2.2.2.2) (h : pt_Go YX5_byteAt (0, pt_en 0 vs, [], M) (22, L, [pt_i x], M')) : pt_Does yX5_byteAt YX5_byteAt vs M (some (pt_i x)) M' := pt_does_go tX5_byteAt_ok nX5_byteAt hvs hX ⟨_, by with_unfolding_all rfl, rfl, _, rfl, rfl⟩ h
set_option maxRecDepth 100000 in
theorem gX5_byteAt_0_1 (x1 : Int32)  (M : pt_M) (h1 : ¬ x1 < 0) (h2 : ¬ (pt_F M 4 1 0) ≤ x1) (h3 : pt_in x1 140) :
    pt_Go YX5_byteAt (0, [(0, pt_r 4 0), (1, pt_i x1)], [], M)
      (22, [(0, pt_r 4 0), (1, pt_i x1)], [pt_i (pt_A M 14 0 (pt_nt x1))], M) :=
  pt_run_ok tX5_byteAt_ok 11 [.inl false, .inl false] (P := (¬ x1 < 0) ∧ (¬ (pt_F M 4 1 0) ≤ x1) ∧ (pt_in x1 140) ∧ True) (by with_unfolding_all rfl) ⟨h1, h2, h3, trivial⟩
set_option maxRecDepth 100000 in
theorem gX5_byteAt_0_2 (x1 : Int32)  (M : pt_M) (h1 : ¬ x1 < 0) (h2 : (pt_F M 4 1 0) ≤ x1) :
    pt_Go YX5_byteAt (0, [(0, pt_r 4 0), (1, pt_i x1)], [], M)
      (22, [(0, pt_r 4 0), (1, pt_i x1)], [pt_i (-1)], M) :=
  pt_run_ok tX5_byteAt_ok 7 [.inl false, .inl true] (P := (¬ x1 < 0) ∧ ((pt_F M 4 1 0) ≤ x1) ∧ True) (by with_unfolding_all rfl) ⟨h1, h2, trivial⟩
set_option maxRecDepth 100000 in
theorem gX5_byteAt_0_3 (x1 : Int32)  (M : pt_M) (h1 : x1 < 0) :
    pt_Go YX5_byteAt (0, [(0, pt_r 4 0), (1, pt_i x1)], [], M)
      (22, [(0, pt_r 4 0), (1, pt_i x1)], [pt_i (-1)], M) :=
  pt_run_ok tX5_byteAt_ok 3 [.inl true] (P := (x1 < 0) ∧ True) (by with_unfolding_all rfl) ⟨h1, trivial⟩
theorem dX5_byteAt {x : Int32} {M : pt_M} (h : by_H M x) : pt_Does yX5_byteAt YX5_byteAt [pt_r 4 0, pt_i x] M (some (pt_i (pt_A M 14 0 (pt_nt x)))) M :=
  rX5_byteAt_22 (Nat.le_of_ble_eq_true rfl) rfl (gX5_byteAt_0_1 x M h.1 h.2.1 h.2.2)
/-- one byte more -/
def ab_M (M : pt_M) (v : Int32) : pt_M := pt_wF (pt_wA M 14 0 (upd (pt_A M 14 0) (pt_nt (pt_F M 4 1 0)) v)) 4 1 0 (pt_F M 4 1 0 + 1)
def by_F (x s : Int32) : Int32 := ((x.toUInt32 >>> (s.toUInt32 &&& Int32.toUInt32 31)).toInt32) &&& 255
def ad_M (M : pt_M) (x : Int32) : pt_M := ab_M (ab_M (ab_M (ab_M M (by_F x 24)) (by_F x 16)) (by_F x 8)) (by_F x 0)
def ad_H (M : pt_M) : Prop := ∃ L, pt_F M 4 1 0 = nI L ∧ L + 4 ≤ 140
theorem rX5_addNumber_49 {vs : List pt_V} {M M' : pt_M} {L : List (Nat × pt_V)} (hvs : (vs.map pt_w).sum ≤ 3) (hX : M'.2.2.2.2 = M.2.2.2.2) (h : pt_Go YX5_addNumber (0, pt_en 0 vs, [], M) (49, L, [], M')) : pt_Does yX5_addNumber YX5_addNumber vs M none M' := pt_does_go tX5_addNumber_ok nX5_addNumber hvs hX ⟨_, by with_unfolding_all rfl, rfl, rfl⟩ h
set_option maxRecDepth 100000 in
theorem gX5_addNumber_0_1 (x1 : Int32)  (M : pt_M) :
    pt_Go YX5_addNumber (0, [(0, pt_r 4 0), (1, pt_i x1)], [], M)
      (3, [(0, pt_r 4 0), (1, pt_i x1), (2, pt_i 24)], [], M) :=
  pt_run_ok tX5_addNumber_ok 2 [] (P := True) (by with_unfolding_all rfl) trivial
set_option maxRecDepth 100000 in
theorem gX5_addNumber_3_1 (l1 : Int32) (l2 : Int32)  (M : pt_M) (h1 : ¬ l2 < 0) (h2 : ¬ 140 ≤ (pt_F M 4 1 0)) (h3 : pt_in (pt_F M 4 1 0) 140) :
    pt_Go YX5_addNumber (3, [(0, pt_r 4 0), (1, pt_i l1), (2, pt_i l2)], [], M)
      (3, [(0, pt_r 4 0), (1, pt_i l1), (2, pt_i (l2 + (-8)))], [], (pt_wF (pt_wA M 14 0 (upd (pt_A M 14 0) (pt_nt (pt_F M 4 1 0)) (((l1.toUInt32 >>> (l2.toUInt32 &&& Int32.toUInt32 31)).toInt32) &&& 255))) 4 1 0 ((pt_F (pt_wA M 14 0 (upd (pt_A M 14 0) (pt_nt (pt_F M 4 1 0)) (((l1.toUInt32 >>> (l2.toUInt32 &&& Int32.toUInt32 31)).toInt32) &&& 255))) 4 1 0) + 1))) :=
  pt_run_ok tX5_addNumber_ok 24 [.inl false, .inl false] (P := (¬ l2 < 0) ∧ (¬ 140 ≤ (pt_F M 4 1 0)) ∧ (pt_in (pt_F M 4 1 0) 140) ∧ True) (by with_unfolding_all rfl) ⟨h1, h2, h3, trivial⟩
set_option maxRecDepth 100000 in
theorem gX5_addNumber_3_2 (l1 : Int32) (l2 : Int32)  (M : pt_M) (h1 : ¬ l2 < 0) (h2 : 140 ≤ (pt_F M 4 1 0)) :
    pt_Go YX5_addNumber (3, [(0, pt_r 4 0), (1, pt_i l1), (2, pt_i l2)], [], M)
      (49, [(0, pt_r 4 0), (1, pt_i l1), (2, pt_i l2)], [], M) :=
  pt_run_ok tX5_addNumber_ok 6 [.inl false, .inl true] (P := (¬ l2 < 0) ∧ (140 ≤ (pt_F M 4 1 0)) ∧ True) (by with_unfolding_all rfl) ⟨h1, h2, trivial⟩
set_option maxRecDepth 100000 in
theorem gX5_addNumber_3_3 (l1 : Int32) (l2 : Int32)  (M : pt_M) (h1 : l2 < 0) :
    pt_Go YX5_addNumber (3, [(0, pt_r 4 0), (1, pt_i l1), (2, pt_i l2)], [], M)
      (49, [(0, pt_r 4 0), (1, pt_i l1), (2, pt_i l2)], [], M) :=
  pt_run_ok tX5_addNumber_ok 2 [.inl true] (P := (l2 < 0) ∧ True) (by with_unfolding_all rfl) ⟨h1, trivial⟩
theorem ab_len {M : pt_M} {L : Nat} {v : Int32} (h : pt_F M 4 1 0 = nI L) : pt_F (ab_M M v) 4 1 0 = nI (L + 1) := by
  unfold ab_M
  rw [pt_F_wF, if_pos ⟨rfl, rfl, rfl⟩, h, nI_1]
theorem ad_step {M : pt_M} {x s s' : Int32} {L : Nat} (h : pt_F M 4 1 0 = nI L) (hL : L < 140) (hs : ¬ s < 0) (hs' : s + (-8) = s') : pt_Go YX5_addNumber (3, [(0, pt_r 4 0), (1, pt_i x), (2, pt_i s)], [], M) (3, [(0, pt_r 4 0), (1, pt_i x), (2, pt_i s')], [], ab_M M (by_F x s)) := by
  refine (gX5_addNumber_3_1 x s M hs (by rw [h]; exact nI_ge hL (by decide)) (by rw [h]; exact pt_in_nI hL (by decide))).to ?_
  rw [hs']
  rfl
theorem dX5_addNumber {x : Int32} {M : pt_M} (h : ad_H M) : pt_Does yX5_addNumber YX5_addNumber [pt_r 4 0, pt_i x] M none (ad_M M x) := by
  obtain ⟨L, hL, hl⟩ := h
  have l1 := ab_len (v := by_F x 24) hL
  have l2 := ab_len (v := by_F x 16) l1
  have l3 := ab_len (v := by_F x 8) l2
  exact rX5_addNumber_49 (Nat.le_of_ble_eq_true rfl) rfl ((gX5_addNumber_0_1 x M).tr ((ad_step (s := 24) (s' := 16) hL (by omega) (by decide) (by decide)).tr ((ad_step (s := 16) (s' := 8) l1 (by omega) (by decide) (by decide)).tr ((ad_step (s := 8) (s' := 0) l2 (by omega) (by decide) (by decide)).tr ((ad_step (s := 0) (s' := -8) l3 (by omega) (by decide) (by decide)).tr (gX5_addNumber_3_3 x (-8) _ (by decide)))))))
