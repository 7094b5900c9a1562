/-! Arrays.fill; Table.begin, put -/
def fi_F (M : pt_M) (k t n : Nat) (x : Int32) : pt_M := pt_wA M k t fun p => if p < n then x else pt_A M k t p
theorem fi_zero (M : pt_M) (k t : Nat) (x : Int32) : fi_F M k t 0 x = M := by
  unfold fi_F
  have : (fun p => if p < 0 then x else pt_A M k t p) = pt_A M k t := by
    funext p
    rw [if_neg (Nat.not_lt_zero p)]
  rw [this, pt_wA_self]
theorem fi_step {M : pt_M} {k t i : Nat} {x : Int32} (hi : i < 2 ^ 31) : pt_wA (fi_F M k t i x) k t (upd (pt_A (fi_F M k t i x) k t) (pt_nt (nI i)) x) = fi_F M k t (i + 1) x := by
  unfold fi_F
  rw [pt_wA_wA, pt_A_wA, pt_nt_nI hi]
  congr 1
  funext p
  unfold upd
  by_cases h : p = i
  · rw [if_pos h, if_pos (by omega)]
  · rw [if_neg h]
    dsimp only
    by_cases h2 : p < i
    · rw [if_pos h2, if_pos (by omega)]
    · rw [if_neg h2, if_neg (by omega)]
theorem rJ7_fill_53178_20 {vs : List pt_V} {M M' : pt_M} {L : List (Nat × pt_V)} (hvs : (vs.map pt_w).sum ≤ 4) (hX : M'.2.2.2.2 = M.2.2.2.2) (h : pt_Go YJ7_fill_53178 (0, pt_en 0 vs, [], M) (20, L, [], M')) : pt_Does yJ7_fill_53178 YJ7_fill_53178 vs M none M' := pt_does_go tJ7_fill_53178_ok nJ7_fill_53178 hvs hX ⟨_, by with_unfolding_all rfl, rfl, rfl⟩ h
set_option maxRecDepth 100000 in
theorem gJ7_fill_5317811_0_1 (t : Nat) (x : Int32)  (M : pt_M) (h1 : t < 7) :
    pt_Go YJ7_fill_53178 (0, [(0, pt_r 11 t), (1, pt_i x)], [], M)
      (5, [(0, pt_r 11 t), (1, pt_i x), (2, pt_i 0), (3, pt_i (nI 100))], [], M) :=
  pt_run_ok tJ7_fill_53178_ok 5 [] (P := (t < 7) ∧ True) (by with_unfolding_all rfl) ⟨h1, trivial⟩
set_option maxRecDepth 100000 in
theorem gJ7_fill_5317811_5_1 (t : Nat) (l1 : Int32) (l2 : Int32) (l3 : Int32)  (M : pt_M) (h1 : ¬ l3 ≤ l2) (h2 : pt_in l2 100) (h3 : t < 7) :
    pt_Go YJ7_fill_53178 (5, [(0, pt_r 11 t), (1, pt_i l1), (2, pt_i l2), (3, pt_i l3)], [], M)
      (5, [(0, pt_r 11 t), (1, pt_i l1), (2, pt_i (l2 + 1)), (3, pt_i l3)], [], (pt_wA M 11 t (upd (pt_A M 11 t) (pt_nt l2) l1))) :=
  pt_run_ok tJ7_fill_53178_ok 9 [.inl false] (P := (¬ l3 ≤ l2) ∧ ((pt_in l2 100) ∧ (t < 7)) ∧ True) (by with_unfolding_all rfl) ⟨h1, ⟨h2, h3⟩, trivial⟩
set_option maxRecDepth 100000 in
theorem gJ7_fill_5317811_5_2 (t : Nat) (l1 : Int32) (l2 : Int32) (l3 : Int32)  (M : pt_M) (h1 : l3 ≤ l2) :
    pt_Go YJ7_fill_53178 (5, [(0, pt_r 11 t), (1, pt_i l1), (2, pt_i l2), (3, pt_i l3)], [], M)
      (20, [(0, pt_r 11 t), (1, pt_i l1), (2, pt_i l2), (3, pt_i l3)], [], M) :=
  pt_run_ok tJ7_fill_53178_ok 3 [.inl true] (P := (l3 ≤ l2) ∧ True) (by with_unfolding_all rfl) ⟨h1, trivial⟩
theorem dJ7_fill_11 {t : Nat} {x : Int32} {M : pt_M} (ht : t < 7) : pt_Does yJ7_fill_53178 YJ7_fill_53178 [pt_r 11 t, pt_i x] M none (fi_F M 11 t 100 x) := by
  have h := pt_for0 (Y := YJ7_fill_53178) (fun i => (5, [(0, pt_r 11 t), (1, pt_i x), (2, pt_i (nI i)), (3, pt_i (nI 100))], [], fi_F M 11 t i x)) (n := 100) (fun i hi => (gJ7_fill_5317811_5_1 t x (nI i) (nI 100) _ (nI_ge hi (by decide)) (pt_in_nI hi (by decide)) ht).to (by rw [nI_1, fi_step (by omega)]))
  refine rJ7_fill_53178_20 (Nat.le_of_ble_eq_true rfl) rfl (((gJ7_fill_5317811_0_1 t x M ht).toM (fi_zero M 11 t x).symm).tr (h.tr (gJ7_fill_5317811_5_2 t x (nI 100) (nI 100) _ (Int32.le_refl _))))
set_option maxRecDepth 100000 in
theorem gJ7_fill_5317812_0_1 (t : Nat) (x : Int32)  (M : pt_M) (h1 : t < 7) :
    pt_Go YJ7_fill_53178 (0, [(0, pt_r 12 t), (1, pt_i x)], [], M)
      (5, [(0, pt_r 12 t), (1, pt_i x), (2, pt_i 0), (3, pt_i (nI 120))], [], M) :=
  pt_run_ok tJ7_fill_53178_ok 5 [] (P := (t < 7) ∧ True) (by with_unfolding_all rfl) ⟨h1, trivial⟩
set_option maxRecDepth 100000 in
theorem gJ7_fill_5317812_5_1 (t : Nat) (l1 : Int32) (l2 : Int32) (l3 : Int32)  (M : pt_M) (h1 : ¬ l3 ≤ l2) (h2 : pt_in l2 120) (h3 : t < 7) :
    pt_Go YJ7_fill_53178 (5, [(0, pt_r 12 t), (1, pt_i l1), (2, pt_i l2), (3, pt_i l3)], [], M)
      (5, [(0, pt_r 12 t), (1, pt_i l1), (2, pt_i (l2 + 1)), (3, pt_i l3)], [], (pt_wA M 12 t (upd (pt_A M 12 t) (pt_nt l2) l1))) :=
  pt_run_ok tJ7_fill_53178_ok 9 [.inl false] (P := (¬ l3 ≤ l2) ∧ ((pt_in l2 120) ∧ (t < 7)) ∧ True) (by with_unfolding_all rfl) ⟨h1, ⟨h2, h3⟩, trivial⟩
set_option maxRecDepth 100000 in
theorem gJ7_fill_5317812_5_2 (t : Nat) (l1 : Int32) (l2 : Int32) (l3 : Int32)  (M : pt_M) (h1 : l3 ≤ l2) :
    pt_Go YJ7_fill_53178 (5, [(0, pt_r 12 t), (1, pt_i l1), (2, pt_i l2), (3, pt_i l3)], [], M)
      (20, [(0, pt_r 12 t), (1, pt_i l1), (2, pt_i l2), (3, pt_i l3)], [], M) :=
  pt_run_ok tJ7_fill_53178_ok 3 [.inl true] (P := (l3 ≤ l2) ∧ True) (by with_unfolding_all rfl) ⟨h1, trivial⟩
theorem dJ7_fill_12 {t : Nat} {x : Int32} {M : pt_M} (ht : t < 7) : pt_Does yJ7_fill_53178 YJ7_fill_53178 [pt_r 12 t, pt_i x] M none (fi_F M 12 t 120 x) := by
  have h := pt_for0 (Y := YJ7_fill_53178) (fun i => (5, [(0, pt_r 12 t), (1, pt_i x), (2, pt_i (nI i)), (3, pt_i (nI 120))], [], fi_F M 12 t i x)) (n := 120) (fun i hi => (gJ7_fill_5317812_5_1 t x (nI i) (nI 120) _ (nI_ge hi (by decide)) (pt_in_nI hi (by decide)) ht).to (by rw [nI_1, fi_step (by omega)]))
  refine rJ7_fill_53178_20 (Nat.le_of_ble_eq_true rfl) rfl (((gJ7_fill_5317812_0_1 t x M ht).toM (fi_zero M 12 t x).symm).tr (h.tr (gJ7_fill_5317812_5_2 t x (nI 120) (nI 120) _ (Int32.le_refl _))))
set_option maxRecDepth 100000 in
theorem gJ7_fill_5317813_0_1 (t : Nat) (x : Int32)  (M : pt_M) (h1 : t < 7) :
    pt_Go YJ7_fill_53178 (0, [(0, pt_r 13 t), (1, pt_i x)], [], M)
      (5, [(0, pt_r 13 t), (1, pt_i x), (2, pt_i 0), (3, pt_i (nI 120))], [], M) :=
  pt_run_ok tJ7_fill_53178_ok 5 [] (P := (t < 7) ∧ True) (by with_unfolding_all rfl) ⟨h1, trivial⟩
set_option maxRecDepth 100000 in
theorem gJ7_fill_5317813_5_1 (t : Nat) (l1 : Int32) (l2 : Int32) (l3 : Int32)  (M : pt_M) (h1 : ¬ l3 ≤ l2) (h2 : pt_in l2 120) (h3 : t < 7) :
    pt_Go YJ7_fill_53178 (5, [(0, pt_r 13 t), (1, pt_i l1), (2, pt_i l2), (3, pt_i l3)], [], M)
      (5, [(0, pt_r 13 t), (1, pt_i l1), (2, pt_i (l2 + 1)), (3, pt_i l3)], [], (pt_wA M 13 t (upd (pt_A M 13 t) (pt_nt l2) l1))) :=
  pt_run_ok tJ7_fill_53178_ok 9 [.inl false] (P := (¬ l3 ≤ l2) ∧ ((pt_in l2 120) ∧ (t < 7)) ∧ True) (by with_unfolding_all rfl) ⟨h1, ⟨h2, h3⟩, trivial⟩
set_option maxRecDepth 100000 in
theorem gJ7_fill_5317813_5_2 (t : Nat) (l1 : Int32) (l2 : Int32) (l3 : Int32)  (M : pt_M) (h1 : l3 ≤ l2) :
    pt_Go YJ7_fill_53178 (5, [(0, pt_r 13 t), (1, pt_i l1), (2, pt_i l2), (3, pt_i l3)], [], M)
      (20, [(0, pt_r 13 t), (1, pt_i l1), (2, pt_i l2), (3, pt_i l3)], [], M) :=
  pt_run_ok tJ7_fill_53178_ok 3 [.inl true] (P := (l3 ≤ l2) ∧ True) (by with_unfolding_all rfl) ⟨h1, trivial⟩
theorem dJ7_fill_13 {t : Nat} {x : Int32} {M : pt_M} (ht : t < 7) : pt_Does yJ7_fill_53178 YJ7_fill_53178 [pt_r 13 t, pt_i x] M none (fi_F M 13 t 120 x) := by
  have h := pt_for0 (Y := YJ7_fill_53178) (fun i => (5, [(0, pt_r 13 t), (1, pt_i x), (2, pt_i (nI i)), (3, pt_i (nI 120))], [], fi_F M 13 t i x)) (n := 120) (fun i hi => (gJ7_fill_5317813_5_1 t x (nI i) (nI 120) _ (nI_ge hi (by decide)) (pt_in_nI hi (by decide)) ht).to (by rw [nI_1, fi_step (by omega)]))
  refine rJ7_fill_53178_20 (Nat.le_of_ble_eq_true rfl) rfl (((gJ7_fill_5317813_0_1 t x M ht).toM (fi_zero M 13 t x).symm).tr (h.tr (gJ7_fill_5317813_5_2 t x (nI 120) (nI 120) _ (Int32.le_refl _))))
def bg_F (M : pt_M) (t : Nat) (n : Int32) : pt_M := fg_F (fi_F (pt_wF M 3 0 t n) 11 t 100 0) t
theorem rX4_begin_17 {vs : List pt_V} {M M' : pt_M} {L : List (Nat × pt_V)} (hvs : (vs.map pt_w).sum ≤ 2) (hX : M'.2.2.2.2 = M.2.2.2.2) (h : pt_Go YX4_begin (0, pt_en 0 vs, [], M) (17, L, [], M')) : pt_Does yX4_begin YX4_begin vs M none M' := pt_does_go tX4_begin_ok nX4_begin hvs hX ⟨_, by with_unfolding_all rfl, rfl, rfl⟩ h
set_option maxRecDepth 100000 in
theorem gX4_begin_0_1 (t : Nat) (x1 : Int32)  (M : pt_M) (h1 : t < 7) :
    pt_Go YX4_begin (0, [(0, pt_r 3 t), (1, pt_i x1)], [], M)
      (17, [(0, pt_r 3 t), (1, pt_i x1)], [], (fg_F (fi_F (pt_wF M 3 0 t x1) 11 t 100 0) t)) :=
  pt_run_ok tX4_begin_ok 9 [.inr (2, none, (fi_F (pt_wF M 3 0 t x1) 11 t 100 0)), .inr (1, none, (fg_F (fi_F (pt_wF M 3 0 t x1) 11 t 100 0) t))] (P := (t < 7) ∧ (t < 7) ∧ pt_Cal YX4_begin (.invokestatic 32) [pt_r 11 t, pt_i 0] (pt_wF M 3 0 t x1) none (fi_F (pt_wF M 3 0 t x1) 11 t 100 0) ∧ pt_Cal YX4_begin (.invokevirtual 38) [pt_r 3 t] (fi_F (pt_wF M 3 0 t x1) 11 t 100 0) none (fg_F (fi_F (pt_wF M 3 0 t x1) 11 t 100 0) t) ∧ True) (by with_unfolding_all rfl) ⟨h1, h1, (pt_callS kX4_begin_32 mJ7_fill_53178 rfl (dJ7_fill_11 h1)), (pt_callV (i := t) kX4_begin_38 mX4_forget rfl h1 rfl (dX4_forget h1)), trivial⟩
theorem dX4_begin {t : Nat} {n : Int32} {M : pt_M} (ht : t < 7) : pt_Does yX4_begin YX4_begin [pt_r 3 t, pt_i n] M none (bg_F M t n) :=
  rX4_begin_17 (Nat.le_of_ble_eq_true rfl) rfl (gX4_begin_0_1 t n M ht)
def nb_F (b : Int32) : Int32 := if b = 0 then 1 else 0
def pu_F (M : pt_M) (t : Nat) (i j k b : Int32) : pt_M := po_F (po_F (po_F (po_F (po_F (po_F M t i j k b) t j k i b) t k i j b) t j i k (nb_F b)) t k j i (nb_F b)) t i k j (nb_F b)
theorem rX4_put_78 {vs : List pt_V} {M M' : pt_M} {L : List (Nat × pt_V)} (hvs : (vs.map pt_w).sum ≤ 5) (hX : M'.2.2.2.2 = M.2.2.2.2) (h : pt_Go YX4_put (0, pt_en 0 vs, [], M) (78, L, [], M')) : pt_Does yX4_put YX4_put vs M none M' := pt_does_go tX4_put_ok nX4_put hvs hX ⟨_, by with_unfolding_all rfl, rfl, rfl⟩ h
set_option maxRecDepth 100000 in
theorem gX4_put_0_1 (t : Nat) (x1 : Int32) (x2 : Int32) (x3 : Int32) (x4 : Int32)  (M : pt_M) (h1 : t < 7) (h2 : pt_in (ix_F x1 x2) 100) (h3 : pt_in (ix_F x2 x3) 100) (h4 : pt_in (ix_F x3 x1) 100) (h5 : x4 = 0) (h6 : pt_in (ix_F x2 x1) 100) (h7 : pt_in (ix_F x3 x2) 100) (h8 : pt_in (ix_F x1 x3) 100) :
    pt_Go YX4_put (0, [(0, pt_r 3 t), (1, pt_i x1), (2, pt_i x2), (3, pt_i x3), (4, pt_i x4)], [], M)
      (78, [(0, pt_r 3 t), (1, pt_i x1), (2, pt_i x2), (3, pt_i x3), (4, pt_i x4)], [], (po_F (po_F (po_F (po_F (po_F (po_F M t x1 x2 x3 x4) t x2 x3 x1 x4) t x3 x1 x2 x4) t x2 x1 x3 1) t x3 x2 x1 1) t x1 x3 x2 1)) :=
  pt_run_ok tX4_put_ok 45 [.inr (5, none, (po_F M t x1 x2 x3 x4)), .inr (5, none, (po_F (po_F M t x1 x2 x3 x4) t x2 x3 x1 x4)), .inr (5, none, (po_F (po_F (po_F M t x1 x2 x3 x4) t x2 x3 x1 x4) t x3 x1 x2 x4)), .inl false, .inr (5, none, (po_F (po_F (po_F (po_F M t x1 x2 x3 x4) t x2 x3 x1 x4) t x3 x1 x2 x4) t x2 x1 x3 1)), .inl false, .inr (5, none, (po_F (po_F (po_F (po_F (po_F M t x1 x2 x3 x4) t x2 x3 x1 x4) t x3 x1 x2 x4) t x2 x1 x3 1) t x3 x2 x1 1)), .inl false, .inr (5, none, (po_F (po_F (po_F (po_F (po_F (po_F M t x1 x2 x3 x4) t x2 x3 x1 x4) t x3 x1 x2 x4) t x2 x1 x3 1) t x3 x2 x1 1) t x1 x3 x2 1))] (P := pt_Cal YX4_put (.invokevirtual 45) [pt_r 3 t, pt_i x1, pt_i x2, pt_i x3, pt_i x4] M none (po_F M t x1 x2 x3 x4) ∧ pt_Cal YX4_put (.invokevirtual 45) [pt_r 3 t, pt_i x2, pt_i x3, pt_i x1, pt_i x4] (po_F M t x1 x2 x3 x4) none (po_F (po_F M t x1 x2 x3 x4) t x2 x3 x1 x4) ∧ pt_Cal YX4_put (.invokevirtual 45) [pt_r 3 t, pt_i x3, pt_i x1, pt_i x2, pt_i x4] (po_F (po_F M t x1 x2 x3 x4) t x2 x3 x1 x4) none (po_F (po_F (po_F M t x1 x2 x3 x4) t x2 x3 x1 x4) t x3 x1 x2 x4) ∧ (x4 = 0) ∧ pt_Cal YX4_put (.invokevirtual 45) [pt_r 3 t, pt_i x2, pt_i x1, pt_i x3, pt_i 1] (po_F (po_F (po_F M t x1 x2 x3 x4) t x2 x3 x1 x4) t x3 x1 x2 x4) none (po_F (po_F (po_F (po_F M t x1 x2 x3 x4) t x2 x3 x1 x4) t x3 x1 x2 x4) t x2 x1 x3 1) ∧ (x4 = 0) ∧ pt_Cal YX4_put (.invokevirtual 45) [pt_r 3 t, pt_i x3, pt_i x2, pt_i x1, pt_i 1] (po_F (po_F (po_F (po_F M t x1 x2 x3 x4) t x2 x3 x1 x4) t x3 x1 x2 x4) t x2 x1 x3 1) none (po_F (po_F (po_F (po_F (po_F M t x1 x2 x3 x4) t x2 x3 x1 x4) t x3 x1 x2 x4) t x2 x1 x3 1) t x3 x2 x1 1) ∧ (x4 = 0) ∧ pt_Cal YX4_put (.invokevirtual 45) [pt_r 3 t, pt_i x1, pt_i x3, pt_i x2, pt_i 1] (po_F (po_F (po_F (po_F (po_F M t x1 x2 x3 x4) t x2 x3 x1 x4) t x3 x1 x2 x4) t x2 x1 x3 1) t x3 x2 x1 1) none (po_F (po_F (po_F (po_F (po_F (po_F M t x1 x2 x3 x4) t x2 x3 x1 x4) t x3 x1 x2 x4) t x2 x1 x3 1) t x3 x2 x1 1) t x1 x3 x2 1) ∧ True) (by with_unfolding_all rfl) ⟨(pt_callV (i := t) kX4_put_45 mX4_putOne rfl h1 rfl (dX4_putOne h1 h2)), (pt_callV (i := t) kX4_put_45 mX4_putOne rfl h1 rfl (dX4_putOne h1 h3)), (pt_callV (i := t) kX4_put_45 mX4_putOne rfl h1 rfl (dX4_putOne h1 h4)), h5, (pt_callV (i := t) kX4_put_45 mX4_putOne rfl h1 rfl (dX4_putOne h1 h6)), h5, (pt_callV (i := t) kX4_put_45 mX4_putOne rfl h1 rfl (dX4_putOne h1 h7)), h5, (pt_callV (i := t) kX4_put_45 mX4_putOne rfl h1 rfl (dX4_putOne h1 h8)), trivial⟩
set_option maxRecDepth 100000 in
theorem gX4_put_0_2 (t : Nat) (x1 : Int32) (x2 : Int32) (x3 : Int32) (x4 : Int32)  (M : pt_M) (h1 : t < 7) (h2 : pt_in (ix_F x1 x2) 100) (h3 : pt_in (ix_F x2 x3) 100) (h4 : pt_in (ix_F x3 x1) 100) (h5 : ¬ x4 = 0) (h6 : pt_in (ix_F x2 x1) 100) (h7 : pt_in (ix_F x3 x2) 100) (h8 : pt_in (ix_F x1 x3) 100) :
    pt_Go YX4_put (0, [(0, pt_r 3 t), (1, pt_i x1), (2, pt_i x2), (3, pt_i x3), (4, pt_i x4)], [], M)
      (78, [(0, pt_r 3 t), (1, pt_i x1), (2, pt_i x2), (3, pt_i x3), (4, pt_i x4)], [], (po_F (po_F (po_F (po_F (po_F (po_F M t x1 x2 x3 x4) t x2 x3 x1 x4) t x3 x1 x2 x4) t x2 x1 x3 0) t x3 x2 x1 0) t x1 x3 x2 0)) :=
  pt_run_ok tX4_put_ok 42 [.inr (5, none, (po_F M t x1 x2 x3 x4)), .inr (5, none, (po_F (po_F M t x1 x2 x3 x4) t x2 x3 x1 x4)), .inr (5, none, (po_F (po_F (po_F M t x1 x2 x3 x4) t x2 x3 x1 x4) t x3 x1 x2 x4)), .inl true, .inr (5, none, (po_F (po_F (po_F (po_F M t x1 x2 x3 x4) t x2 x3 x1 x4) t x3 x1 x2 x4) t x2 x1 x3 0)), .inl true, .inr (5, none, (po_F (po_F (po_F (po_F (po_F M t x1 x2 x3 x4) t x2 x3 x1 x4) t x3 x1 x2 x4) t x2 x1 x3 0) t x3 x2 x1 0)), .inl true, .inr (5, none, (po_F (po_F (po_F (po_F (po_F (po_F M t x1 x2 x3 x4) t x2 x3 x1 x4) t x3 x1 x2 x4) t x2 x1 x3 0) t x3 x2 x1 0) t x1 x3 x2 0))] (P := pt_Cal YX4_put (.invokevirtual 45) [pt_r 3 t, pt_i x1, pt_i x2, pt_i x3, pt_i x4] M none (po_F M t x1 x2 x3 x4) ∧ pt_Cal YX4_put (.invokevirtual 45) [pt_r 3 t, pt_i x2, pt_i x3, pt_i x1, pt_i x4] (po_F M t x1 x2 x3 x4) none (po_F (po_F M t x1 x2 x3 x4) t x2 x3 x1 x4) ∧ pt_Cal YX4_put (.invokevirtual 45) [pt_r 3 t, pt_i x3, pt_i x1, pt_i x2, pt_i x4] (po_F (po_F M t x1 x2 x3 x4) t x2 x3 x1 x4) none (po_F (po_F (po_F M t x1 x2 x3 x4) t x2 x3 x1 x4) t x3 x1 x2 x4) ∧ (¬ x4 = 0) ∧ pt_Cal YX4_put (.invokevirtual 45) [pt_r 3 t, pt_i x2, pt_i x1, pt_i x3, pt_i 0] (po_F (po_F (po_F M t x1 x2 x3 x4) t x2 x3 x1 x4) t x3 x1 x2 x4) none (po_F (po_F (po_F (po_F M t x1 x2 x3 x4) t x2 x3 x1 x4) t x3 x1 x2 x4) t x2 x1 x3 0) ∧ (¬ x4 = 0) ∧ pt_Cal YX4_put (.invokevirtual 45) [pt_r 3 t, pt_i x3, pt_i x2, pt_i x1, pt_i 0] (po_F (po_F (po_F (po_F M t x1 x2 x3 x4) t x2 x3 x1 x4) t x3 x1 x2 x4) t x2 x1 x3 0) none (po_F (po_F (po_F (po_F (po_F M t x1 x2 x3 x4) t x2 x3 x1 x4) t x3 x1 x2 x4) t x2 x1 x3 0) t x3 x2 x1 0) ∧ (¬ x4 = 0) ∧ pt_Cal YX4_put (.invokevirtual 45) [pt_r 3 t, pt_i x1, pt_i x3, pt_i x2, pt_i 0] (po_F (po_F (po_F (po_F (po_F M t x1 x2 x3 x4) t x2 x3 x1 x4) t x3 x1 x2 x4) t x2 x1 x3 0) t x3 x2 x1 0) none (po_F (po_F (po_F (po_F (po_F (po_F M t x1 x2 x3 x4) t x2 x3 x1 x4) t x3 x1 x2 x4) t x2 x1 x3 0) t x3 x2 x1 0) t x1 x3 x2 0) ∧ True) (by with_unfolding_all rfl) ⟨(pt_callV (i := t) kX4_put_45 mX4_putOne rfl h1 rfl (dX4_putOne h1 h2)), (pt_callV (i := t) kX4_put_45 mX4_putOne rfl h1 rfl (dX4_putOne h1 h3)), (pt_callV (i := t) kX4_put_45 mX4_putOne rfl h1 rfl (dX4_putOne h1 h4)), h5, (pt_callV (i := t) kX4_put_45 mX4_putOne rfl h1 rfl (dX4_putOne h1 h6)), h5, (pt_callV (i := t) kX4_put_45 mX4_putOne rfl h1 rfl (dX4_putOne h1 h7)), h5, (pt_callV (i := t) kX4_put_45 mX4_putOne rfl h1 rfl (dX4_putOne h1 h8)), trivial⟩
theorem dX4_put {t : Nat} {i j k b : Int32} {M : pt_M} (ht : t < 7) (h1 : pt_in (ix_F i j) 100) (h2 : pt_in (ix_F j k) 100) (h3 : pt_in (ix_F k i) 100) (h4 : pt_in (ix_F j i) 100) (h5 : pt_in (ix_F k j) 100) (h6 : pt_in (ix_F i k) 100) : pt_Does yX4_put YX4_put [pt_r 3 t, pt_i i, pt_i j, pt_i k, pt_i b] M none (pu_F M t i j k b) := by
  by_cases hb : b = 0
  · refine rX4_put_78 (Nat.le_of_ble_eq_true rfl) rfl ((gX4_put_0_1 t i j k b M ht h1 h2 h3 hb h4 h5 h6).toM ?_)
    unfold pu_F nb_F
    rw [if_pos hb]
  · refine rX4_put_78 (Nat.le_of_ble_eq_true rfl) rfl ((gX4_put_0_2 t i j k b M ht h1 h2 h3 hb h4 h5 h6).toM ?_)
    unfold pu_F nb_F
    rw [if_neg hb]
/-! what they do to the rows of bits -/
theorem ix_nI (i j : Nat) : ix_F (nI i) (nI j) = nI (10 * i + j) := by
  unfold ix_F
  rw [show (10 : Int32) = nI 10 from rfl, pk_mul, nI_add, Nat.mul_comm]
theorem ix_in {i j : Nat} (hi : i < 10) (hj : j < 10) : pt_in (ix_F (nI i) (nI j)) 100 := by
  rw [ix_nI]
  exact pt_in_nI (by omega) (by decide)
def tc_F (B : Nat → Nat → Nat → Bool) (f : Nat → Int32) : Nat → Int32 := fun p => if p < 100 then nI (pb_s 10 fun k => B (p / 10) (p % 10) k) else f p
/-- the table's rows are those of B -/
def tw_F (M : pt_M) (t : Nat) (B : Nat → Nat → Nat → Bool) : pt_M := pt_wA M 11 t (tc_F B (pt_A M 11 t))
theorem pb_zero : pb_s 10 (fun _ => false) = 0 := by decide
theorem tw_zero (M : pt_M) (t : Nat) : fi_F M 11 t 100 0 = tw_F M t fun _ _ _ => false := by
  unfold fi_F tw_F tc_F
  simp only [pb_zero]
  rfl
theorem pb_or1 {p : Nat → Bool} {k : Nat} (hk : k < 10) : nI (pb_s 10 p) ||| ((1 : Int32) <<< (nI k &&& 31)) = nI (pb_s 10 fun c => if c = k then true else p c) := by
  rw [pt_shl1 k (by omega), pt_or]
  congr 1
  have h1 := pb_lt p 10
  have h2 : 2 ^ k < 2 ^ 10 := Nat.pow_lt_pow_right (by decide) hk
  apply pb_ext (n := 10) (Nat.or_lt_two_pow h1 h2) (pb_lt _ _)
  intro c hc
  rw [Nat.testBit_or, pb_bit, pb_bit, Nat.testBit_two_pow]
  by_cases h : c = k
  · subst h
    simp [hc]
  · have : ¬ k = c := fun z => h z.symm
    simp [hc, h, this]
theorem pb_and1 {p : Nat → Bool} {k : Nat} (hk : k < 10) : nI (pb_s 10 p) &&& (((1 : Int32) <<< (nI k &&& 31)) ^^^ (-1)) = nI (pb_s 10 fun c => if c = k then false else p c) := by
  rw [pt_shl1 k (by omega), show (-1 : Int32) = nI (2 ^ 32 - 1) from rfl, pt_xor, pt_and]
  congr 1
  have h1 := pb_lt p 10
  apply pb_ext (n := 10) (Nat.lt_of_le_of_lt Nat.and_le_left h1) (pb_lt _ _)
  intro c hc
  have hc2 : c < 32 := by omega
  rw [Nat.testBit_and, Nat.testBit_xor, pb_bit, pb_bit, Nat.testBit_two_pow, Nat.testBit_two_pow_sub_one]
  by_cases h : c = k
  · subst h
    simp [hc2]
  · have : ¬ k = c := fun z => h z.symm
    simp [hc, h, this, hc2]
theorem po_tw {M : pt_M} {t i j k : Nat} {B : Nat → Nat → Nat → Bool} (b : Bool) (hi : i < 10) (hj : j < 10) (hk : k < 10) : po_F (tw_F M t B) t (nI i) (nI j) (nI k) (pt_b b) = tw_F M t fun a c d => if a = i ∧ c = j ∧ d = k then b else B a c d := by
  have hix : (nI i * 10) + nI j = nI (10 * i + j) := ix_nI i j
  unfold po_F tw_F
  rw [pt_wA_wA, pt_A_wA, hix, pt_nt_nI (by omega)]
  congr 1
  have hA : tc_F B (pt_A M 11 t) (10 * i + j) = nI (pb_s 10 fun d => B i j d) := by
    unfold tc_F
    rw [if_pos (by omega), show (10 * i + j) / 10 = i by omega, show (10 * i + j) % 10 = j by omega]
  have hR : tc_F (fun a c d => if a = i ∧ c = j ∧ d = k then b else B a c d) (pt_A M 11 t) (10 * i + j) = nI (pb_s 10 fun d => if d = k then b else B i j d) := by
    unfold tc_F
    rw [if_pos (by omega), show (10 * i + j) / 10 = i by omega, show (10 * i + j) % 10 = j by omega]
    congr 1
    apply pb_cong
    intro c _
    simp
  rw [hA]
  funext p
  unfold upd
  by_cases hp : p = 10 * i + j
  · subst hp
    rw [if_pos rfl, hR]
    cases b
    · rw [if_pos (show pt_b false = 0 from rfl), pb_and1 hk]
    · rw [if_neg (show ¬ pt_b true = 0 by decide), pb_or1 hk]
  · rw [if_neg hp]
    unfold tc_F
    by_cases hp1 : p < 100
    · rw [if_pos hp1, if_pos hp1]
      congr 1
      apply pb_cong
      intro c _
      have : ¬ (p / 10 = i ∧ p % 10 = j ∧ c = k) := by omega
      simp only [if_neg this]
    · rw [if_neg hp1, if_neg hp1]
def pb_pu (B : Nat → Nat → Nat → Bool) (i j k : Nat) (b : Bool) : Nat → Nat → Nat → Bool := fun a c d =>
  if a = i ∧ c = k ∧ d = j then !b else if a = k ∧ c = j ∧ d = i then !b else if a = j ∧ c = i ∧ d = k then !b else if a = k ∧ c = i ∧ d = j then b else if a = j ∧ c = k ∧ d = i then b else if a = i ∧ c = j ∧ d = k then b else B a c d
theorem nb_b (b : Bool) : nb_F (pt_b b) = pt_b (!b) := by cases b <;> rfl
theorem pu_tw {M : pt_M} {t i j k : Nat} {B : Nat → Nat → Nat → Bool} (b : Bool) (hi : i < 10) (hj : j < 10) (hk : k < 10) : pu_F (tw_F M t B) t (nI i) (nI j) (nI k) (pt_b b) = tw_F M t (pb_pu B i j k b) := by
  unfold pu_F
  rw [nb_b, po_tw b hi hj hk, po_tw b hj hk hi, po_tw b hk hi hj, po_tw (!b) hj hi hk, po_tw (!b) hk hj hi, po_tw (!b) hi hk hj]
  rfl
/-! the threes in their order -/
def pb_z (P : Nat → Nat → Nat → Bool) (a c d : Nat) : Bool := if a < c then (if c < d then P a c d else if a < d then (if d < c then P a d c else false) else if d < a then P d a c else false)
  else if c < a then (if a < d then P c a d else if c < d then (if d < a then P c d a else false) else if d < c then P d c a else false) else false
theorem pb_z_cong {P Q : Nat → Nat → Nat → Bool} (h : ∀ x y z, x < y → y < z → P x y z = Q x y z) (a c d : Nat) : pb_z P a c d = pb_z Q a c d := by
  unfold pb_z
  split
  · split
    · exact h _ _ _ (by assumption) (by assumption)
    · split
      · split
        · exact h _ _ _ (by assumption) (by assumption)
        · rfl
      · split
        · exact h _ _ _ (by assumption) (by assumption)
        · rfl
  · split
    · split
      · exact h _ _ _ (by assumption) (by assumption)
      · split
        · split
          · exact h _ _ _ (by assumption) (by assumption)
          · rfl
        · split
          · exact h _ _ _ (by assumption) (by assumption)
          · rfl
    · rfl
theorem pb_z_ne {P : Nat → Nat → Nat → Bool} {a c d : Nat} (h : ¬ (a ≠ c ∧ c ≠ d ∧ a ≠ d)) : pb_z P a c d = false := by
  unfold pb_z
  repeat' split
  all_goals first | rfl | (exfalso; omega)
def pb_q (P s : Nat → Nat → Nat → Bool) : Nat → Nat → Nat → Bool := fun a c d => pb_z P a c d && pb_x s a c d
theorem pb_q_cong {P Q : Nat → Nat → Nat → Bool} (s : Nat → Nat → Nat → Bool) (h : ∀ x y z, x < y → y < z → P x y z = Q x y z) : pb_q P s = pb_q Q s := by
  funext a c d
  unfold pb_q
  rw [pb_z_cong h]
/-- which threes are done when (i, j, k) is next -/
def pb_d (n i j k x y z : Nat) : Bool := decide (z < n) && decide (x < i ∨ (x = i ∧ (y < j ∨ (y = j ∧ z < k))))
theorem pb_d_k {n i j k : Nat} (hk : k < n) (s : Nat → Nat → Nat → Bool) (h1 : i < j) (h2 : j < k) : pb_pu (pb_q (pb_d n i j k) s) i j k (s i j k) = pb_q (pb_d n i j (k + 1)) s := by
  have e : pb_q (pb_d n i j (k + 1)) s = pb_q (fun x y z => decide (x = i ∧ y = j ∧ z = k) || pb_d n i j k x y z) s := by
    apply pb_q_cong
    intro x y z _ _
    unfold pb_d
    rw [Bool.eq_iff_iff]
    simp only [Bool.or_eq_true, Bool.and_eq_true, decide_eq_true_eq]
    omega
  rw [e]
  generalize pb_d n i j k = P
  funext a c d
  by_cases hd : a ≠ c ∧ c ≠ d ∧ a ≠ d
  case neg =>
    have e1 : ¬ (a = i ∧ c = k ∧ d = j) := by omega
    have e2 : ¬ (a = k ∧ c = j ∧ d = i) := by omega
    have e3 : ¬ (a = j ∧ c = i ∧ d = k) := by omega
    have e4 : ¬ (a = k ∧ c = i ∧ d = j) := by omega
    have e5 : ¬ (a = j ∧ c = k ∧ d = i) := by omega
    have e6 : ¬ (a = i ∧ c = j ∧ d = k) := by omega
    unfold pb_pu pb_q
    rw [if_neg e1, if_neg e2, if_neg e3, if_neg e4, if_neg e5, if_neg e6, pb_z_ne hd, pb_z_ne hd]
  obtain ⟨d1, d2, d3⟩ := hd
  unfold pb_pu pb_q pb_z pb_x
  rcases Nat.lt_or_gt_of_ne d1 with q1 | q1 <;> rcases Nat.lt_or_gt_of_ne d2 with q2 | q2 <;> rcases Nat.lt_or_gt_of_ne d3 with q3 | q3 <;> first | (exfalso; omega) | skip
  all_goals simp only [q1, q2, q3, Nat.lt_asymm q1, Nat.lt_asymm q2, Nat.lt_asymm q3, if_true, if_false]
  all_goals repeat' split
  all_goals first
    | (exfalso; omega)
    | (rename_i h; obtain ⟨rfl, rfl, rfl⟩ := h; simp; done)
    | (rw [decide_eq_false (by omega)]; simp; done)
    | (simp; done)
    | skip
theorem pb_d_j {n i j : Nat} (s : Nat → Nat → Nat → Bool) : pb_q (pb_d n i j n) s = pb_q (pb_d n i (j + 1) (j + 2)) s := by
  apply pb_q_cong
  intro x y z h1 h2
  unfold pb_d
  rw [Bool.eq_iff_iff]
  simp only [Bool.and_eq_true, decide_eq_true_eq]
  omega
theorem pb_d_i {n i j k : Nat} (h : n ≤ j) (s : Nat → Nat → Nat → Bool) : pb_q (pb_d n i j k) s = pb_q (pb_d n (i + 1) (i + 2) (i + 3)) s := by
  apply pb_q_cong
  intro x y z h1 h2
  unfold pb_d
  rw [Bool.eq_iff_iff]
  simp only [Bool.and_eq_true, decide_eq_true_eq]
  omega
theorem pb_d_0 {n : Nat} (s : Nat → Nat → Nat → Bool) : pb_q (pb_d n 0 1 2) s = fun _ _ _ => false := by
  have : pb_q (pb_d n 0 1 2) s = pb_q (fun _ _ _ => false) s := by
    apply pb_q_cong
    intro x y z h1 h2
    unfold pb_d
    rw [Bool.and_eq_false_iff]
    right
    rw [decide_eq_false_iff_not]
    omega
  rw [this]
  funext a c d
  unfold pb_q pb_z
  repeat' split
  all_goals rfl
theorem pb_z_g {n : Nat} (a c d : Nat) : pb_z (fun _ _ z => decide (z < n)) a c d = pb_g n a c d := by
  by_cases hd : a ≠ c ∧ c ≠ d ∧ a ≠ d
  case neg =>
    rw [pb_z_ne hd]
    symm
    rw [Bool.eq_false_iff]
    intro h
    rw [pb_g_iff] at h
    omega
  obtain ⟨d1, d2, d3⟩ := hd
  rw [Bool.eq_iff_iff, pb_g_iff]
  unfold pb_z
  rcases Nat.lt_or_gt_of_ne d1 with q1 | q1 <;> rcases Nat.lt_or_gt_of_ne d2 with q2 | q2 <;> rcases Nat.lt_or_gt_of_ne d3 with q3 | q3 <;> first | (exfalso; omega) | skip
  all_goals simp only [q1, q2, q3, Nat.lt_asymm q1, Nat.lt_asymm q2, Nat.lt_asymm q3, if_true, if_false, decide_eq_true_eq]
  all_goals omega
theorem pb_d_n {n j k : Nat} (s : Nat → Nat → Nat → Bool) : pb_q (pb_d n n j k) s = fun a c d => pb_g n a c d && pb_x s a c d := by
  have : pb_q (pb_d n n j k) s = pb_q (fun _ _ z => decide (z < n)) s := by
    apply pb_q_cong
    intro x y z h1 h2
    unfold pb_d
    rw [Bool.eq_iff_iff]
    simp only [Bool.and_eq_true, decide_eq_true_eq]
    omega
  rw [this]
  funext a c d
  unfold pb_q
  rw [pb_z_g]
/-- three loops, one in the other -/
theorem pt_three {Y : pt_Y} {n : Nat} (A : Nat → pt_S) (B : Nat → Nat → pt_S) (C : Nat → Nat → Nat → pt_S) (hA : ∀ i, i < n → pt_Go Y (A i) (B i (i + 1))) (hB : ∀ i j, i < j → j < n → pt_Go Y (B i j) (C i j (j + 1))) (hB' : ∀ i, i < n → pt_Go Y (B i n) (A (i + 1)))
    (hC : ∀ i j k, i < j → j < k → k < n → pt_Go Y (C i j k) (C i j (k + 1))) (hC' : ∀ i j, i < j → j < n → pt_Go Y (C i j n) (B i (j + 1))) : pt_Go Y (A 0) (A n) := by
  refine pt_for0 A fun i hi => (hA i hi).tr ((pt_fori (B i) (i := i + 1) (n := n) (by omega) fun j h1 h2 => ?_).tr (hB' i hi))
  exact (hB i j (by omega) h2).tr ((pt_fori (C i j) (i := j + 1) (n := n) (by omega) fun k h3 h4 => hC i j k (by omega) (by omega) h4).tr (hC' i j (by omega) h2))
theorem pt_all {N : Nat} {p : Nat → Bool} (h : (List.range N).all p = true) {i : Nat} (hi : i < N) : p i = true := List.all_eq_true.mp h i (List.mem_range.mpr hi)
/-- the number of threes ahead of a three -/
def rk_c (n i : Nat) : Nat → Nat
  | 0 => 0
  | b + 1 => rk_c n i b + if i < b then n - 1 - b else 0
def rk_0 (n : Nat) : Nat → Nat
  | 0 => 0
  | a + 1 => rk_0 n a + rk_c n a n
def rk_F (n i j k : Nat) : Nat := rk_0 n i + rk_c n i j + (k - j - 1)
theorem rk_k {n i j k : Nat} (h : j < k) : rk_F n i j (k + 1) = rk_F n i j k + 1 := by
  unfold rk_F
  omega
theorem rk_j {n i j : Nat} (h : i < j) (hj : j < n) : rk_F n i (j + 1) (j + 2) = rk_F n i j n := by
  unfold rk_F
  show rk_0 n i + (rk_c n i j + if i < j then n - 1 - j else 0) + _ = _
  rw [if_pos h]
  omega
theorem rk_i0 (n i : Nat) : ∀ b, b ≤ i + 1 → rk_c n i b = 0
  | 0, _ => rfl
  | b + 1, h => by
    show rk_c n i b + (if i < b then n - 1 - b else 0) = 0
    rw [rk_i0 n i b (by omega), if_neg (by omega)]
theorem rk_i {n i : Nat} (k : Nat) (hk : k ≤ n + 1) : rk_F n (i + 1) (i + 2) (i + 3) = rk_F n i n k := by
  unfold rk_F
  rw [rk_i0 n (i + 1) (i + 2) (by omega)]
  show rk_0 n i + rk_c n i n + 0 + _ = _
  omega
theorem rk_lt : ∀ n, n ≤ 10 → ∀ i, i < n → ∀ j, j < n → ∀ k, k < n → i < j → j < k → rk_F n i j k < rk_0 n n ∧ rk_0 n n ≤ 120 := by
  have h : ((List.range 11).all fun n => (List.range n).all fun i => (List.range n).all fun j => (List.range n).all fun k => !(decide (i < j) && decide (j < k)) || (decide (rk_F n i j k < rk_0 n n) && decide (rk_0 n n ≤ 120))) = true := by decide +kernel
  intro n hn i hi j hj k hk h1 h2
  have h3 := pt_all (pt_all (pt_all (pt_all h (i := n) (by omega)) hi) hj) hk
  simpa [h1, h2] using h3
