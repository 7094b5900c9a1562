/-! PointTables: places read, a table by places -/
theorem pt_wA_sw {M : pt_M} {k i k' i' : Nat} {g g' : Nat → Int32} (h : k ≠ k') : pt_wA (pt_wA M k i g) k' i' g' = pt_wA (pt_wA M k' i' g') k i g := by
  unfold pt_wA
  refine Prod.ext rfl (Prod.ext ?_ rfl)
  funext a b
  show (if a = k' ∧ b = i' then g' else if a = k ∧ b = i then g else M.2.1 a b) = if a = k ∧ b = i then g else if a = k' ∧ b = i' then g' else M.2.1 a b
  by_cases c : a = k' ∧ b = i'
  · rw [if_pos c, if_neg (fun z => h (z.1.symm.trans c.1)), if_pos c]
  · rw [if_neg c, if_neg c]
def sx_F (b : Nat → Nat) (p : Nat) : Int32 := ((nI (b p) <<< ((8 : Int32) &&& 31)) ||| nI (b (p + 1))).toInt16.toInt32
theorem sh_nI {M : pt_M} {L p : Nat} {b : Nat → Nat} (h : tp_P M L b) (hp : p + 1 < L) : sh_F M (nI p) = sx_F b p := by
  have := h.2.1
  unfold sh_F sx_F
  rw [nI_1, pt_nt_nI (by omega), pt_nt_nI (by omega), (h.2.2 p (by omega)).1, (h.2.2 (p + 1) hp).1]
def rp_M (M : pt_M) (b : Nat → Nat) (k : Nat) : pt_M := pt_wA (pt_wA M 21 0 (co_F (pt_A M 21 0) (fun i => sx_F b (4 * i)) k)) 22 0 (co_F (pt_A M 22 0) (fun i => sx_F b (4 * i + 2)) k)
theorem rp_zero (M : pt_M) (b : Nat → Nat) : rp_M M b 0 = M := by
  unfold rp_M
  rw [co_zero, co_zero, pt_wA_self, pt_wA_self]
theorem rp_21 {M : pt_M} {b : Nat → Nat} {k : Nat} : pt_A (rp_M M b k) 21 0 = co_F (pt_A M 21 0) (fun i => sx_F b (4 * i)) k := by
  unfold rp_M
  rw [pt_A_wA', if_neg (fun z => absurd z.1 (by decide)), pt_A_wA]
theorem rp_22 {M : pt_M} {b : Nat → Nat} {k : Nat} : pt_A (rp_M M b k) 22 0 = co_F (pt_A M 22 0) (fun i => sx_F b (4 * i + 2)) k := by
  unfold rp_M
  rw [pt_A_wA]
theorem rp_step (M : pt_M) (b : Nat → Nat) (k : Nat) : pt_wA (pt_wA (rp_M M b k) 21 0 (upd (pt_A (rp_M M b k) 21 0) k (sx_F b (4 * k)))) 22 0 (upd (pt_A (pt_wA (rp_M M b k) 21 0 (upd (pt_A (rp_M M b k) 21 0) k (sx_F b (4 * k)))) 22 0) k (sx_F b (4 * k + 2))) = rp_M M b (k + 1) := by
  have e : ∀ g, pt_A (pt_wA (rp_M M b k) 21 0 g) 22 0 = pt_A (rp_M M b k) 22 0 := fun g => by rw [pt_A_wA', if_neg (fun z => absurd z.1 (by decide))]
  rw [e, rp_21, rp_22, co_step _ (fun i => sx_F b (4 * i)), co_step _ (fun i => sx_F b (4 * i + 2))]
  unfold rp_M
  rw [pt_wA_sw (k := 22) (k' := 21) (by decide), pt_wA_wA, pt_wA_wA]
theorem rp_A {M : pt_M} {b : Nat → Nat} {k k' i : Nat} (h1 : k' ≠ 21) (h2 : k' ≠ 22) : pt_A (rp_M M b k) k' i = pt_A M k' i := by
  unfold rp_M
  rw [pt_A_wA', if_neg (fun z => h2 z.1), pt_A_wA', if_neg (fun z => h1 z.1)]
theorem rp_tp {M : pt_M} {L k : Nat} {b : Nat → Nat} (h : tp_P M L b) : tp_P (rp_M M b k) L b := ⟨h.1, h.2.1, fun p hp => by rw [rp_A (by decide) (by decide)]; exact h.2.2 p hp⟩
def rp_W (b : Nat → Nat) (k : Nat) : Bool := decide (10000 < ab_F (sx_F b (4 * k))) || decide (10000 < ab_F (sx_F b (4 * k + 2)))
def rp_F (n : Nat) (b : Nat → Nat) : Option Nat := fs_F (n - 0) 0 fun k => if rp_W b k then some k else none
theorem rX6_readPlaces_72 {vs : List pt_V} {M M' : pt_M} {x : Int32} {L : List (Nat × pt_V)} (hn : narrow .boolean (.int x) = .int x) (hvs : (vs.map pt_w).sum ≤ 3) (hX : M'.2.2.2.2 = M.2.2.2.2) (h : pt_Go YX6_readPlaces (0, pt_en 0 vs, [], M) (72, L, [pt_i x], M')) : pt_Does yX6_readPlaces YX6_readPlaces vs M (some (pt_i x)) M' := pt_does_go tX6_readPlaces_ok nX6_readPlaces hvs hX ⟨_, by with_unfolding_all rfl, rfl, _, rfl, hn⟩ h
theorem rX6_readPlaces_80 {vs : List pt_V} {M M' : pt_M} {x : Int32} {L : List (Nat × pt_V)} (hn : narrow .boolean (.int x) = .int x) (hvs : (vs.map pt_w).sum ≤ 3) (hX : M'.2.2.2.2 = M.2.2.2.2) (h : pt_Go YX6_readPlaces (0, pt_en 0 vs, [], M) (80, L, [pt_i x], M')) : pt_Does yX6_readPlaces YX6_readPlaces vs M (some (pt_i x)) M' := pt_does_go tX6_readPlaces_ok nX6_readPlaces hvs hX ⟨_, by with_unfolding_all rfl, rfl, _, rfl, hn⟩ h
set_option maxRecDepth 100000 in
theorem gX6_readPlaces_0_1 (x1 : Int32)  (M : pt_M) :
    pt_Go YX6_readPlaces (0, [(0, pt_r 2 0), (1, pt_i x1)], [], M)
      (2, [(0, pt_r 2 0), (1, pt_i x1), (2, pt_i 0)], [], M) :=
  pt_run_ok tX6_readPlaces_ok 2 [] (P := True) (by with_unfolding_all rfl) trivial
set_option maxRecDepth 100000 in
theorem gX6_readPlaces_2_1 (l1 : Int32) (l2 : Int32)  (M : pt_M) (h1 : ¬ l1 ≤ l2) (h2 : by_H M (l2 * 4)) (h3 : by_H M ((l2 * 4) + 1)) (h4 : pt_in l2 10) (h5 : by_H (pt_wA M 21 0 (upd (pt_A M 21 0) (pt_nt l2) (sh_F M (l2 * 4)))) ((l2 * 4) + 2)) (h6 : by_H (pt_wA M 21 0 (upd (pt_A M 21 0) (pt_nt l2) (sh_F M (l2 * 4)))) (((l2 * 4) + 2) + 1)) (h7 : ¬ 10000 < (ab_F (pt_A (pt_wA (pt_wA M 21 0 (upd (pt_A M 21 0) (pt_nt l2) (sh_F M (l2 * 4)))) 22 0 (upd (pt_A (pt_wA M 21 0 (upd (pt_A M 21 0) (pt_nt l2) (sh_F M (l2 * 4)))) 22 0) (pt_nt l2) (sh_F (pt_wA M 21 0 (upd (pt_A M 21 0) (pt_nt l2) (sh_F M (l2 * 4)))) ((l2 * 4) + 2)))) 21 0 (pt_nt l2)))) (h8 : ¬ (ab_F (pt_A (pt_wA (pt_wA M 21 0 (upd (pt_A M 21 0) (pt_nt l2) (sh_F M (l2 * 4)))) 22 0 (upd (pt_A (pt_wA M 21 0 (upd (pt_A M 21 0) (pt_nt l2) (sh_F M (l2 * 4)))) 22 0) (pt_nt l2) (sh_F (pt_wA M 21 0 (upd (pt_A M 21 0) (pt_nt l2) (sh_F M (l2 * 4)))) ((l2 * 4) + 2)))) 22 0 (pt_nt l2))) ≤ 10000) :
    pt_Go YX6_readPlaces (2, [(0, pt_r 2 0), (1, pt_i l1), (2, pt_i l2)], [], M)
      (72, [(0, pt_r 2 0), (1, pt_i l1), (2, pt_i l2)], [pt_i 0], (pt_wA (pt_wA M 21 0 (upd (pt_A M 21 0) (pt_nt l2) (sh_F M (l2 * 4)))) 22 0 (upd (pt_A (pt_wA M 21 0 (upd (pt_A M 21 0) (pt_nt l2) (sh_F M (l2 * 4)))) 22 0) (pt_nt l2) (sh_F (pt_wA M 21 0 (upd (pt_A M 21 0) (pt_nt l2) (sh_F M (l2 * 4)))) ((l2 * 4) + 2))))) :=
  pt_run_ok tX6_readPlaces_ok 40 [.inl false, .inr (2, some (pt_i (sh_F M (l2 * 4))), M), .inr (2, some (pt_i (sh_F (pt_wA M 21 0 (upd (pt_A M 21 0) (pt_nt l2) (sh_F M (l2 * 4)))) ((l2 * 4) + 2))), (pt_wA M 21 0 (upd (pt_A M 21 0) (pt_nt l2) (sh_F M (l2 * 4))))), .inr (1, some (pt_i (ab_F (pt_A (pt_wA (pt_wA M 21 0 (upd (pt_A M 21 0) (pt_nt l2) (sh_F M (l2 * 4)))) 22 0 (upd (pt_A (pt_wA M 21 0 (upd (pt_A M 21 0) (pt_nt l2) (sh_F M (l2 * 4)))) 22 0) (pt_nt l2) (sh_F (pt_wA M 21 0 (upd (pt_A M 21 0) (pt_nt l2) (sh_F M (l2 * 4)))) ((l2 * 4) + 2)))) 21 0 (pt_nt l2)))), (pt_wA (pt_wA M 21 0 (upd (pt_A M 21 0) (pt_nt l2) (sh_F M (l2 * 4)))) 22 0 (upd (pt_A (pt_wA M 21 0 (upd (pt_A M 21 0) (pt_nt l2) (sh_F M (l2 * 4)))) 22 0) (pt_nt l2) (sh_F (pt_wA M 21 0 (upd (pt_A M 21 0) (pt_nt l2) (sh_F M (l2 * 4)))) ((l2 * 4) + 2))))), .inl false, .inr (1, some (pt_i (ab_F (pt_A (pt_wA (pt_wA M 21 0 (upd (pt_A M 21 0) (pt_nt l2) (sh_F M (l2 * 4)))) 22 0 (upd (pt_A (pt_wA M 21 0 (upd (pt_A M 21 0) (pt_nt l2) (sh_F M (l2 * 4)))) 22 0) (pt_nt l2) (sh_F (pt_wA M 21 0 (upd (pt_A M 21 0) (pt_nt l2) (sh_F M (l2 * 4)))) ((l2 * 4) + 2)))) 22 0 (pt_nt l2)))), (pt_wA (pt_wA M 21 0 (upd (pt_A M 21 0) (pt_nt l2) (sh_F M (l2 * 4)))) 22 0 (upd (pt_A (pt_wA M 21 0 (upd (pt_A M 21 0) (pt_nt l2) (sh_F M (l2 * 4)))) 22 0) (pt_nt l2) (sh_F (pt_wA M 21 0 (upd (pt_A M 21 0) (pt_nt l2) (sh_F M (l2 * 4)))) ((l2 * 4) + 2))))), .inl false] (P := (¬ l1 ≤ l2) ∧ pt_Cal YX6_readPlaces (.invokevirtual 91) [pt_r 4 0, pt_i (l2 * 4)] M (some (pt_i (sh_F M (l2 * 4)))) M ∧ (pt_in l2 10) ∧ pt_Cal YX6_readPlaces (.invokevirtual 91) [pt_r 4 0, pt_i ((l2 * 4) + 2)] (pt_wA M 21 0 (upd (pt_A M 21 0) (pt_nt l2) (sh_F M (l2 * 4)))) (some (pt_i (sh_F (pt_wA M 21 0 (upd (pt_A M 21 0) (pt_nt l2) (sh_F M (l2 * 4)))) ((l2 * 4) + 2)))) (pt_wA M 21 0 (upd (pt_A M 21 0) (pt_nt l2) (sh_F M (l2 * 4)))) ∧ (pt_in l2 10) ∧ (pt_in l2 10) ∧ pt_Cal YX6_readPlaces (.invokestatic 94) [pt_i (pt_A (pt_wA (pt_wA M 21 0 (upd (pt_A M 21 0) (pt_nt l2) (sh_F M (l2 * 4)))) 22 0 (upd (pt_A (pt_wA M 21 0 (upd (pt_A M 21 0) (pt_nt l2) (sh_F M (l2 * 4)))) 22 0) (pt_nt l2) (sh_F (pt_wA M 21 0 (upd (pt_A M 21 0) (pt_nt l2) (sh_F M (l2 * 4)))) ((l2 * 4) + 2)))) 21 0 (pt_nt l2))] (pt_wA (pt_wA M 21 0 (upd (pt_A M 21 0) (pt_nt l2) (sh_F M (l2 * 4)))) 22 0 (upd (pt_A (pt_wA M 21 0 (upd (pt_A M 21 0) (pt_nt l2) (sh_F M (l2 * 4)))) 22 0) (pt_nt l2) (sh_F (pt_wA M 21 0 (upd (pt_A M 21 0) (pt_nt l2) (sh_F M (l2 * 4)))) ((l2 * 4) + 2)))) (some (pt_i (ab_F (pt_A (pt_wA (pt_wA M 21 0 (upd (pt_A M 21 0) (pt_nt l2) (sh_F M (l2 * 4)))) 22 0 (upd (pt_A (pt_wA M 21 0 (upd (pt_A M 21 0) (pt_nt l2) (sh_F M (l2 * 4)))) 22 0) (pt_nt l2) (sh_F (pt_wA M 21 0 (upd (pt_A M 21 0) (pt_nt l2) (sh_F M (l2 * 4)))) ((l2 * 4) + 2)))) 21 0 (pt_nt l2))))) (pt_wA (pt_wA M 21 0 (upd (pt_A M 21 0) (pt_nt l2) (sh_F M (l2 * 4)))) 22 0 (upd (pt_A (pt_wA M 21 0 (upd (pt_A M 21 0) (pt_nt l2) (sh_F M (l2 * 4)))) 22 0) (pt_nt l2) (sh_F (pt_wA M 21 0 (upd (pt_A M 21 0) (pt_nt l2) (sh_F M (l2 * 4)))) ((l2 * 4) + 2)))) ∧ (¬ 10000 < (ab_F (pt_A (pt_wA (pt_wA M 21 0 (upd (pt_A M 21 0) (pt_nt l2) (sh_F M (l2 * 4)))) 22 0 (upd (pt_A (pt_wA M 21 0 (upd (pt_A M 21 0) (pt_nt l2) (sh_F M (l2 * 4)))) 22 0) (pt_nt l2) (sh_F (pt_wA M 21 0 (upd (pt_A M 21 0) (pt_nt l2) (sh_F M (l2 * 4)))) ((l2 * 4) + 2)))) 21 0 (pt_nt l2)))) ∧ (pt_in l2 10) ∧ pt_Cal YX6_readPlaces (.invokestatic 94) [pt_i (pt_A (pt_wA (pt_wA M 21 0 (upd (pt_A M 21 0) (pt_nt l2) (sh_F M (l2 * 4)))) 22 0 (upd (pt_A (pt_wA M 21 0 (upd (pt_A M 21 0) (pt_nt l2) (sh_F M (l2 * 4)))) 22 0) (pt_nt l2) (sh_F (pt_wA M 21 0 (upd (pt_A M 21 0) (pt_nt l2) (sh_F M (l2 * 4)))) ((l2 * 4) + 2)))) 22 0 (pt_nt l2))] (pt_wA (pt_wA M 21 0 (upd (pt_A M 21 0) (pt_nt l2) (sh_F M (l2 * 4)))) 22 0 (upd (pt_A (pt_wA M 21 0 (upd (pt_A M 21 0) (pt_nt l2) (sh_F M (l2 * 4)))) 22 0) (pt_nt l2) (sh_F (pt_wA M 21 0 (upd (pt_A M 21 0) (pt_nt l2) (sh_F M (l2 * 4)))) ((l2 * 4) + 2)))) (some (pt_i (ab_F (pt_A (pt_wA (pt_wA M 21 0 (upd (pt_A M 21 0) (pt_nt l2) (sh_F M (l2 * 4)))) 22 0 (upd (pt_A (pt_wA M 21 0 (upd (pt_A M 21 0) (pt_nt l2) (sh_F M (l2 * 4)))) 22 0) (pt_nt l2) (sh_F (pt_wA M 21 0 (upd (pt_A M 21 0) (pt_nt l2) (sh_F M (l2 * 4)))) ((l2 * 4) + 2)))) 22 0 (pt_nt l2))))) (pt_wA (pt_wA M 21 0 (upd (pt_A M 21 0) (pt_nt l2) (sh_F M (l2 * 4)))) 22 0 (upd (pt_A (pt_wA M 21 0 (upd (pt_A M 21 0) (pt_nt l2) (sh_F M (l2 * 4)))) 22 0) (pt_nt l2) (sh_F (pt_wA M 21 0 (upd (pt_A M 21 0) (pt_nt l2) (sh_F M (l2 * 4)))) ((l2 * 4) + 2)))) ∧ (¬ (ab_F (pt_A (pt_wA (pt_wA M 21 0 (upd (pt_A M 21 0) (pt_nt l2) (sh_F M (l2 * 4)))) 22 0 (upd (pt_A (pt_wA M 21 0 (upd (pt_A M 21 0) (pt_nt l2) (sh_F M (l2 * 4)))) 22 0) (pt_nt l2) (sh_F (pt_wA M 21 0 (upd (pt_A M 21 0) (pt_nt l2) (sh_F M (l2 * 4)))) ((l2 * 4) + 2)))) 22 0 (pt_nt l2))) ≤ 10000) ∧ True) (by with_unfolding_all rfl) ⟨h1, (pt_callV (i := 0) kX6_readPlaces_91 mX5_shortAt rfl (by decide) rfl (dX5_shortAt h2 h3)), h4, (pt_callV (i := 0) kX6_readPlaces_91 mX5_shortAt rfl (by decide) rfl (dX5_shortAt h5 h6)), h4, h4, (pt_callS kX6_readPlaces_94 mJ9_abs_0f7a4 rfl (dJ9_abs (pt_A (pt_wA (pt_wA M 21 0 (upd (pt_A M 21 0) (pt_nt l2) (sh_F M (l2 * 4)))) 22 0 (upd (pt_A (pt_wA M 21 0 (upd (pt_A M 21 0) (pt_nt l2) (sh_F M (l2 * 4)))) 22 0) (pt_nt l2) (sh_F (pt_wA M 21 0 (upd (pt_A M 21 0) (pt_nt l2) (sh_F M (l2 * 4)))) ((l2 * 4) + 2)))) 21 0 (pt_nt l2)) (pt_wA (pt_wA M 21 0 (upd (pt_A M 21 0) (pt_nt l2) (sh_F M (l2 * 4)))) 22 0 (upd (pt_A (pt_wA M 21 0 (upd (pt_A M 21 0) (pt_nt l2) (sh_F M (l2 * 4)))) 22 0) (pt_nt l2) (sh_F (pt_wA M 21 0 (upd (pt_A M 21 0) (pt_nt l2) (sh_F M (l2 * 4)))) ((l2 * 4) + 2)))))), h7, h4, (pt_callS kX6_readPlaces_94 mJ9_abs_0f7a4 rfl (dJ9_abs (pt_A (pt_wA (pt_wA M 21 0 (upd (pt_A M 21 0) (pt_nt l2) (sh_F M (l2 * 4)))) 22 0 (upd (pt_A (pt_wA M 21 0 (upd (pt_A M 21 0) (pt_nt l2) (sh_F M (l2 * 4)))) 22 0) (pt_nt l2) (sh_F (pt_wA M 21 0 (upd (pt_A M 21 0) (pt_nt l2) (sh_F M (l2 * 4)))) ((l2 * 4) + 2)))) 22 0 (pt_nt l2)) (pt_wA (pt_wA M 21 0 (upd (pt_A M 21 0) (pt_nt l2) (sh_F M (l2 * 4)))) 22 0 (upd (pt_A (pt_wA M 21 0 (upd (pt_A M 21 0) (pt_nt l2) (sh_F M (l2 * 4)))) 22 0) (pt_nt l2) (sh_F (pt_wA M 21 0 (upd (pt_A M 21 0) (pt_nt l2) (sh_F M (l2 * 4)))) ((l2 * 4) + 2)))))), h8, trivial⟩
set_option maxRecDepth 100000 in
theorem gX6_readPlaces_2_2 (l1 : Int32) (l2 : Int32)  (M : pt_M) (h1 : ¬ l1 ≤ l2) (h2 : by_H M (l2 * 4)) (h3 : by_H M ((l2 * 4) + 1)) (h4 : pt_in l2 10) (h5 : by_H (pt_wA M 21 0 (upd (pt_A M 21 0) (pt_nt l2) (sh_F M (l2 * 4)))) ((l2 * 4) + 2)) (h6 : by_H (pt_wA M 21 0 (upd (pt_A M 21 0) (pt_nt l2) (sh_F M (l2 * 4)))) (((l2 * 4) + 2) + 1)) (h7 : ¬ 10000 < (ab_F (pt_A (pt_wA (pt_wA M 21 0 (upd (pt_A M 21 0) (pt_nt l2) (sh_F M (l2 * 4)))) 22 0 (upd (pt_A (pt_wA M 21 0 (upd (pt_A M 21 0) (pt_nt l2) (sh_F M (l2 * 4)))) 22 0) (pt_nt l2) (sh_F (pt_wA M 21 0 (upd (pt_A M 21 0) (pt_nt l2) (sh_F M (l2 * 4)))) ((l2 * 4) + 2)))) 21 0 (pt_nt l2)))) (h8 : (ab_F (pt_A (pt_wA (pt_wA M 21 0 (upd (pt_A M 21 0) (pt_nt l2) (sh_F M (l2 * 4)))) 22 0 (upd (pt_A (pt_wA M 21 0 (upd (pt_A M 21 0) (pt_nt l2) (sh_F M (l2 * 4)))) 22 0) (pt_nt l2) (sh_F (pt_wA M 21 0 (upd (pt_A M 21 0) (pt_nt l2) (sh_F M (l2 * 4)))) ((l2 * 4) + 2)))) 22 0 (pt_nt l2))) ≤ 10000) :
    pt_Go YX6_readPlaces (2, [(0, pt_r 2 0), (1, pt_i l1), (2, pt_i l2)], [], M)
      (2, [(0, pt_r 2 0), (1, pt_i l1), (2, pt_i (l2 + 1))], [], (pt_wA (pt_wA M 21 0 (upd (pt_A M 21 0) (pt_nt l2) (sh_F M (l2 * 4)))) 22 0 (upd (pt_A (pt_wA M 21 0 (upd (pt_A M 21 0) (pt_nt l2) (sh_F M (l2 * 4)))) 22 0) (pt_nt l2) (sh_F (pt_wA M 21 0 (upd (pt_A M 21 0) (pt_nt l2) (sh_F M (l2 * 4)))) ((l2 * 4) + 2))))) :=
  pt_run_ok tX6_readPlaces_ok 41 [.inl false, .inr (2, some (pt_i (sh_F M (l2 * 4))), M), .inr (2, some (pt_i (sh_F (pt_wA M 21 0 (upd (pt_A M 21 0) (pt_nt l2) (sh_F M (l2 * 4)))) ((l2 * 4) + 2))), (pt_wA M 21 0 (upd (pt_A M 21 0) (pt_nt l2) (sh_F M (l2 * 4))))), .inr (1, some (pt_i (ab_F (pt_A (pt_wA (pt_wA M 21 0 (upd (pt_A M 21 0) (pt_nt l2) (sh_F M (l2 * 4)))) 22 0 (upd (pt_A (pt_wA M 21 0 (upd (pt_A M 21 0) (pt_nt l2) (sh_F M (l2 * 4)))) 22 0) (pt_nt l2) (sh_F (pt_wA M 21 0 (upd (pt_A M 21 0) (pt_nt l2) (sh_F M (l2 * 4)))) ((l2 * 4) + 2)))) 21 0 (pt_nt l2)))), (pt_wA (pt_wA M 21 0 (upd (pt_A M 21 0) (pt_nt l2) (sh_F M (l2 * 4)))) 22 0 (upd (pt_A (pt_wA M 21 0 (upd (pt_A M 21 0) (pt_nt l2) (sh_F M (l2 * 4)))) 22 0) (pt_nt l2) (sh_F (pt_wA M 21 0 (upd (pt_A M 21 0) (pt_nt l2) (sh_F M (l2 * 4)))) ((l2 * 4) + 2))))), .inl false, .inr (1, some (pt_i (ab_F (pt_A (pt_wA (pt_wA M 21 0 (upd (pt_A M 21 0) (pt_nt l2) (sh_F M (l2 * 4)))) 22 0 (upd (pt_A (pt_wA M 21 0 (upd (pt_A M 21 0) (pt_nt l2) (sh_F M (l2 * 4)))) 22 0) (pt_nt l2) (sh_F (pt_wA M 21 0 (upd (pt_A M 21 0) (pt_nt l2) (sh_F M (l2 * 4)))) ((l2 * 4) + 2)))) 22 0 (pt_nt l2)))), (pt_wA (pt_wA M 21 0 (upd (pt_A M 21 0) (pt_nt l2) (sh_F M (l2 * 4)))) 22 0 (upd (pt_A (pt_wA M 21 0 (upd (pt_A M 21 0) (pt_nt l2) (sh_F M (l2 * 4)))) 22 0) (pt_nt l2) (sh_F (pt_wA M 21 0 (upd (pt_A M 21 0) (pt_nt l2) (sh_F M (l2 * 4)))) ((l2 * 4) + 2))))), .inl true] (P := (¬ l1 ≤ l2) ∧ pt_Cal YX6_readPlaces (.invokevirtual 91) [pt_r 4 0, pt_i (l2 * 4)] M (some (pt_i (sh_F M (l2 * 4)))) M ∧ (pt_in l2 10) ∧ pt_Cal YX6_readPlaces (.invokevirtual 91) [pt_r 4 0, pt_i ((l2 * 4) + 2)] (pt_wA M 21 0 (upd (pt_A M 21 0) (pt_nt l2) (sh_F M (l2 * 4)))) (some (pt_i (sh_F (pt_wA M 21 0 (upd (pt_A M 21 0) (pt_nt l2) (sh_F M (l2 * 4)))) ((l2 * 4) + 2)))) (pt_wA M 21 0 (upd (pt_A M 21 0) (pt_nt l2) (sh_F M (l2 * 4)))) ∧ (pt_in l2 10) ∧ (pt_in l2 10) ∧ pt_Cal YX6_readPlaces (.invokestatic 94) [pt_i (pt_A (pt_wA (pt_wA M 21 0 (upd (pt_A M 21 0) (pt_nt l2) (sh_F M (l2 * 4)))) 22 0 (upd (pt_A (pt_wA M 21 0 (upd (pt_A M 21 0) (pt_nt l2) (sh_F M (l2 * 4)))) 22 0) (pt_nt l2) (sh_F (pt_wA M 21 0 (upd (pt_A M 21 0) (pt_nt l2) (sh_F M (l2 * 4)))) ((l2 * 4) + 2)))) 21 0 (pt_nt l2))] (pt_wA (pt_wA M 21 0 (upd (pt_A M 21 0) (pt_nt l2) (sh_F M (l2 * 4)))) 22 0 (upd (pt_A (pt_wA M 21 0 (upd (pt_A M 21 0) (pt_nt l2) (sh_F M (l2 * 4)))) 22 0) (pt_nt l2) (sh_F (pt_wA M 21 0 (upd (pt_A M 21 0) (pt_nt l2) (sh_F M (l2 * 4)))) ((l2 * 4) + 2)))) (some (pt_i (ab_F (pt_A (pt_wA (pt_wA M 21 0 (upd (pt_A M 21 0) (pt_nt l2) (sh_F M (l2 * 4)))) 22 0 (upd (pt_A (pt_wA M 21 0 (upd (pt_A M 21 0) (pt_nt l2) (sh_F M (l2 * 4)))) 22 0) (pt_nt l2) (sh_F (pt_wA M 21 0 (upd (pt_A M 21 0) (pt_nt l2) (sh_F M (l2 * 4)))) ((l2 * 4) + 2)))) 21 0 (pt_nt l2))))) (pt_wA (pt_wA M 21 0 (upd (pt_A M 21 0) (pt_nt l2) (sh_F M (l2 * 4)))) 22 0 (upd (pt_A (pt_wA M 21 0 (upd (pt_A M 21 0) (pt_nt l2) (sh_F M (l2 * 4)))) 22 0) (pt_nt l2) (sh_F (pt_wA M 21 0 (upd (pt_A M 21 0) (pt_nt l2) (sh_F M (l2 * 4)))) ((l2 * 4) + 2)))) ∧ (¬ 10000 < (ab_F (pt_A (pt_wA (pt_wA M 21 0 (upd (pt_A M 21 0) (pt_nt l2) (sh_F M (l2 * 4)))) 22 0 (upd (pt_A (pt_wA M 21 0 (upd (pt_A M 21 0) (pt_nt l2) (sh_F M (l2 * 4)))) 22 0) (pt_nt l2) (sh_F (pt_wA M 21 0 (upd (pt_A M 21 0) (pt_nt l2) (sh_F M (l2 * 4)))) ((l2 * 4) + 2)))) 21 0 (pt_nt l2)))) ∧ (pt_in l2 10) ∧ pt_Cal YX6_readPlaces (.invokestatic 94) [pt_i (pt_A (pt_wA (pt_wA M 21 0 (upd (pt_A M 21 0) (pt_nt l2) (sh_F M (l2 * 4)))) 22 0 (upd (pt_A (pt_wA M 21 0 (upd (pt_A M 21 0) (pt_nt l2) (sh_F M (l2 * 4)))) 22 0) (pt_nt l2) (sh_F (pt_wA M 21 0 (upd (pt_A M 21 0) (pt_nt l2) (sh_F M (l2 * 4)))) ((l2 * 4) + 2)))) 22 0 (pt_nt l2))] (pt_wA (pt_wA M 21 0 (upd (pt_A M 21 0) (pt_nt l2) (sh_F M (l2 * 4)))) 22 0 (upd (pt_A (pt_wA M 21 0 (upd (pt_A M 21 0) (pt_nt l2) (sh_F M (l2 * 4)))) 22 0) (pt_nt l2) (sh_F (pt_wA M 21 0 (upd (pt_A M 21 0) (pt_nt l2) (sh_F M (l2 * 4)))) ((l2 * 4) + 2)))) (some (pt_i (ab_F (pt_A (pt_wA (pt_wA M 21 0 (upd (pt_A M 21 0) (pt_nt l2) (sh_F M (l2 * 4)))) 22 0 (upd (pt_A (pt_wA M 21 0 (upd (pt_A M 21 0) (pt_nt l2) (sh_F M (l2 * 4)))) 22 0) (pt_nt l2) (sh_F (pt_wA M 21 0 (upd (pt_A M 21 0) (pt_nt l2) (sh_F M (l2 * 4)))) ((l2 * 4) + 2)))) 22 0 (pt_nt l2))))) (pt_wA (pt_wA M 21 0 (upd (pt_A M 21 0) (pt_nt l2) (sh_F M (l2 * 4)))) 22 0 (upd (pt_A (pt_wA M 21 0 (upd (pt_A M 21 0) (pt_nt l2) (sh_F M (l2 * 4)))) 22 0) (pt_nt l2) (sh_F (pt_wA M 21 0 (upd (pt_A M 21 0) (pt_nt l2) (sh_F M (l2 * 4)))) ((l2 * 4) + 2)))) ∧ ((ab_F (pt_A (pt_wA (pt_wA M 21 0 (upd (pt_A M 21 0) (pt_nt l2) (sh_F M (l2 * 4)))) 22 0 (upd (pt_A (pt_wA M 21 0 (upd (pt_A M 21 0) (pt_nt l2) (sh_F M (l2 * 4)))) 22 0) (pt_nt l2) (sh_F (pt_wA M 21 0 (upd (pt_A M 21 0) (pt_nt l2) (sh_F M (l2 * 4)))) ((l2 * 4) + 2)))) 22 0 (pt_nt l2))) ≤ 10000) ∧ True) (by with_unfolding_all rfl) ⟨h1, (pt_callV (i := 0) kX6_readPlaces_91 mX5_shortAt rfl (by decide) rfl (dX5_shortAt h2 h3)), h4, (pt_callV (i := 0) kX6_readPlaces_91 mX5_shortAt rfl (by decide) rfl (dX5_shortAt h5 h6)), h4, h4, (pt_callS kX6_readPlaces_94 mJ9_abs_0f7a4 rfl (dJ9_abs (pt_A (pt_wA (pt_wA M 21 0 (upd (pt_A M 21 0) (pt_nt l2) (sh_F M (l2 * 4)))) 22 0 (upd (pt_A (pt_wA M 21 0 (upd (pt_A M 21 0) (pt_nt l2) (sh_F M (l2 * 4)))) 22 0) (pt_nt l2) (sh_F (pt_wA M 21 0 (upd (pt_A M 21 0) (pt_nt l2) (sh_F M (l2 * 4)))) ((l2 * 4) + 2)))) 21 0 (pt_nt l2)) (pt_wA (pt_wA M 21 0 (upd (pt_A M 21 0) (pt_nt l2) (sh_F M (l2 * 4)))) 22 0 (upd (pt_A (pt_wA M 21 0 (upd (pt_A M 21 0) (pt_nt l2) (sh_F M (l2 * 4)))) 22 0) (pt_nt l2) (sh_F (pt_wA M 21 0 (upd (pt_A M 21 0) (pt_nt l2) (sh_F M (l2 * 4)))) ((l2 * 4) + 2)))))), h7, h4, (pt_callS kX6_readPlaces_94 mJ9_abs_0f7a4 rfl (dJ9_abs (pt_A (pt_wA (pt_wA M 21 0 (upd (pt_A M 21 0) (pt_nt l2) (sh_F M (l2 * 4)))) 22 0 (upd (pt_A (pt_wA M 21 0 (upd (pt_A M 21 0) (pt_nt l2) (sh_F M (l2 * 4)))) 22 0) (pt_nt l2) (sh_F (pt_wA M 21 0 (upd (pt_A M 21 0) (pt_nt l2) (sh_F M (l2 * 4)))) ((l2 * 4) + 2)))) 22 0 (pt_nt l2)) (pt_wA (pt_wA M 21 0 (upd (pt_A M 21 0) (pt_nt l2) (sh_F M (l2 * 4)))) 22 0 (upd (pt_A (pt_wA M 21 0 (upd (pt_A M 21 0) (pt_nt l2) (sh_F M (l2 * 4)))) 22 0) (pt_nt l2) (sh_F (pt_wA M 21 0 (upd (pt_A M 21 0) (pt_nt l2) (sh_F M (l2 * 4)))) ((l2 * 4) + 2)))))), h8, trivial⟩
set_option maxRecDepth 100000 in
theorem gX6_readPlaces_2_3 (l1 : Int32) (l2 : Int32)  (M : pt_M) (h1 : ¬ l1 ≤ l2) (h2 : by_H M (l2 * 4)) (h3 : by_H M ((l2 * 4) + 1)) (h4 : pt_in l2 10) (h5 : by_H (pt_wA M 21 0 (upd (pt_A M 21 0) (pt_nt l2) (sh_F M (l2 * 4)))) ((l2 * 4) + 2)) (h6 : by_H (pt_wA M 21 0 (upd (pt_A M 21 0) (pt_nt l2) (sh_F M (l2 * 4)))) (((l2 * 4) + 2) + 1)) (h7 : 10000 < (ab_F (pt_A (pt_wA (pt_wA M 21 0 (upd (pt_A M 21 0) (pt_nt l2) (sh_F M (l2 * 4)))) 22 0 (upd (pt_A (pt_wA M 21 0 (upd (pt_A M 21 0) (pt_nt l2) (sh_F M (l2 * 4)))) 22 0) (pt_nt l2) (sh_F (pt_wA M 21 0 (upd (pt_A M 21 0) (pt_nt l2) (sh_F M (l2 * 4)))) ((l2 * 4) + 2)))) 21 0 (pt_nt l2)))) :
    pt_Go YX6_readPlaces (2, [(0, pt_r 2 0), (1, pt_i l1), (2, pt_i l2)], [], M)
      (72, [(0, pt_r 2 0), (1, pt_i l1), (2, pt_i l2)], [pt_i 0], (pt_wA (pt_wA M 21 0 (upd (pt_A M 21 0) (pt_nt l2) (sh_F M (l2 * 4)))) 22 0 (upd (pt_A (pt_wA M 21 0 (upd (pt_A M 21 0) (pt_nt l2) (sh_F M (l2 * 4)))) 22 0) (pt_nt l2) (sh_F (pt_wA M 21 0 (upd (pt_A M 21 0) (pt_nt l2) (sh_F M (l2 * 4)))) ((l2 * 4) + 2))))) :=
  pt_run_ok tX6_readPlaces_ok 33 [.inl false, .inr (2, some (pt_i (sh_F M (l2 * 4))), M), .inr (2, some (pt_i (sh_F (pt_wA M 21 0 (upd (pt_A M 21 0) (pt_nt l2) (sh_F M (l2 * 4)))) ((l2 * 4) + 2))), (pt_wA M 21 0 (upd (pt_A M 21 0) (pt_nt l2) (sh_F M (l2 * 4))))), .inr (1, some (pt_i (ab_F (pt_A (pt_wA (pt_wA M 21 0 (upd (pt_A M 21 0) (pt_nt l2) (sh_F M (l2 * 4)))) 22 0 (upd (pt_A (pt_wA M 21 0 (upd (pt_A M 21 0) (pt_nt l2) (sh_F M (l2 * 4)))) 22 0) (pt_nt l2) (sh_F (pt_wA M 21 0 (upd (pt_A M 21 0) (pt_nt l2) (sh_F M (l2 * 4)))) ((l2 * 4) + 2)))) 21 0 (pt_nt l2)))), (pt_wA (pt_wA M 21 0 (upd (pt_A M 21 0) (pt_nt l2) (sh_F M (l2 * 4)))) 22 0 (upd (pt_A (pt_wA M 21 0 (upd (pt_A M 21 0) (pt_nt l2) (sh_F M (l2 * 4)))) 22 0) (pt_nt l2) (sh_F (pt_wA M 21 0 (upd (pt_A M 21 0) (pt_nt l2) (sh_F M (l2 * 4)))) ((l2 * 4) + 2))))), .inl true] (P := (¬ l1 ≤ l2) ∧ pt_Cal YX6_readPlaces (.invokevirtual 91) [pt_r 4 0, pt_i (l2 * 4)] M (some (pt_i (sh_F M (l2 * 4)))) M ∧ (pt_in l2 10) ∧ pt_Cal YX6_readPlaces (.invokevirtual 91) [pt_r 4 0, pt_i ((l2 * 4) + 2)] (pt_wA M 21 0 (upd (pt_A M 21 0) (pt_nt l2) (sh_F M (l2 * 4)))) (some (pt_i (sh_F (pt_wA M 21 0 (upd (pt_A M 21 0) (pt_nt l2) (sh_F M (l2 * 4)))) ((l2 * 4) + 2)))) (pt_wA M 21 0 (upd (pt_A M 21 0) (pt_nt l2) (sh_F M (l2 * 4)))) ∧ (pt_in l2 10) ∧ (pt_in l2 10) ∧ pt_Cal YX6_readPlaces (.invokestatic 94) [pt_i (pt_A (pt_wA (pt_wA M 21 0 (upd (pt_A M 21 0) (pt_nt l2) (sh_F M (l2 * 4)))) 22 0 (upd (pt_A (pt_wA M 21 0 (upd (pt_A M 21 0) (pt_nt l2) (sh_F M (l2 * 4)))) 22 0) (pt_nt l2) (sh_F (pt_wA M 21 0 (upd (pt_A M 21 0) (pt_nt l2) (sh_F M (l2 * 4)))) ((l2 * 4) + 2)))) 21 0 (pt_nt l2))] (pt_wA (pt_wA M 21 0 (upd (pt_A M 21 0) (pt_nt l2) (sh_F M (l2 * 4)))) 22 0 (upd (pt_A (pt_wA M 21 0 (upd (pt_A M 21 0) (pt_nt l2) (sh_F M (l2 * 4)))) 22 0) (pt_nt l2) (sh_F (pt_wA M 21 0 (upd (pt_A M 21 0) (pt_nt l2) (sh_F M (l2 * 4)))) ((l2 * 4) + 2)))) (some (pt_i (ab_F (pt_A (pt_wA (pt_wA M 21 0 (upd (pt_A M 21 0) (pt_nt l2) (sh_F M (l2 * 4)))) 22 0 (upd (pt_A (pt_wA M 21 0 (upd (pt_A M 21 0) (pt_nt l2) (sh_F M (l2 * 4)))) 22 0) (pt_nt l2) (sh_F (pt_wA M 21 0 (upd (pt_A M 21 0) (pt_nt l2) (sh_F M (l2 * 4)))) ((l2 * 4) + 2)))) 21 0 (pt_nt l2))))) (pt_wA (pt_wA M 21 0 (upd (pt_A M 21 0) (pt_nt l2) (sh_F M (l2 * 4)))) 22 0 (upd (pt_A (pt_wA M 21 0 (upd (pt_A M 21 0) (pt_nt l2) (sh_F M (l2 * 4)))) 22 0) (pt_nt l2) (sh_F (pt_wA M 21 0 (upd (pt_A M 21 0) (pt_nt l2) (sh_F M (l2 * 4)))) ((l2 * 4) + 2)))) ∧ (10000 < (ab_F (pt_A (pt_wA (pt_wA M 21 0 (upd (pt_A M 21 0) (pt_nt l2) (sh_F M (l2 * 4)))) 22 0 (upd (pt_A (pt_wA M 21 0 (upd (pt_A M 21 0) (pt_nt l2) (sh_F M (l2 * 4)))) 22 0) (pt_nt l2) (sh_F (pt_wA M 21 0 (upd (pt_A M 21 0) (pt_nt l2) (sh_F M (l2 * 4)))) ((l2 * 4) + 2)))) 21 0 (pt_nt l2)))) ∧ True) (by with_unfolding_all rfl) ⟨h1, (pt_callV (i := 0) kX6_readPlaces_91 mX5_shortAt rfl (by decide) rfl (dX5_shortAt h2 h3)), h4, (pt_callV (i := 0) kX6_readPlaces_91 mX5_shortAt rfl (by decide) rfl (dX5_shortAt h5 h6)), h4, h4, (pt_callS kX6_readPlaces_94 mJ9_abs_0f7a4 rfl (dJ9_abs (pt_A (pt_wA (pt_wA M 21 0 (upd (pt_A M 21 0) (pt_nt l2) (sh_F M (l2 * 4)))) 22 0 (upd (pt_A (pt_wA M 21 0 (upd (pt_A M 21 0) (pt_nt l2) (sh_F M (l2 * 4)))) 22 0) (pt_nt l2) (sh_F (pt_wA M 21 0 (upd (pt_A M 21 0) (pt_nt l2) (sh_F M (l2 * 4)))) ((l2 * 4) + 2)))) 21 0 (pt_nt l2)) (pt_wA (pt_wA M 21 0 (upd (pt_A M 21 0) (pt_nt l2) (sh_F M (l2 * 4)))) 22 0 (upd (pt_A (pt_wA M 21 0 (upd (pt_A M 21 0) (pt_nt l2) (sh_F M (l2 * 4)))) 22 0) (pt_nt l2) (sh_F (pt_wA M 21 0 (upd (pt_A M 21 0) (pt_nt l2) (sh_F M (l2 * 4)))) ((l2 * 4) + 2)))))), h7, trivial⟩
set_option maxRecDepth 100000 in
theorem gX6_readPlaces_2_4 (l1 : Int32) (l2 : Int32)  (M : pt_M) (h1 : l1 ≤ l2) :
    pt_Go YX6_readPlaces (2, [(0, pt_r 2 0), (1, pt_i l1), (2, pt_i l2)], [], M)
      (80, [(0, pt_r 2 0), (1, pt_i l1), (2, pt_i l2)], [pt_i 1], M) :=
  pt_run_ok tX6_readPlaces_ok 4 [.inl true] (P := (l1 ≤ l2) ∧ True) (by with_unfolding_all rfl) ⟨h1, trivial⟩
theorem dX6_readPlaces {n L : Nat} {b : Nat → Nat} {M : pt_M} (hn : n ≤ 10) (htp : tp_P M L b) (hL : 4 * n ≤ L) : (rp_F n b = none → pt_Does yX6_readPlaces YX6_readPlaces [pt_r 2 0, pt_i (nI n)] M (some (pt_i 1)) (rp_M M b n)) ∧ (∀ k, rp_F n b = some k → pt_Does yX6_readPlaces YX6_readPlaces [pt_r 2 0, pt_i (nI n)] M (some (pt_i 0)) (rp_M M b (k + 1))) := by
  have h140 := htp.2.1
  have K := pt_nest (Y := YX6_readPlaces) (σ := (0, [(0, pt_r 2 0), (1, pt_i (nI n))], [], M)) (τ := (80, [], [pt_i 1], rp_M M b n)) (R := fun k => (72, [], [pt_i 0], rp_M M b (k + 1))) (n := n) (i := 0)
    (S := fun k => (2, [(0, pt_r 2 0), (1, pt_i (nI n)), (2, pt_i (nI k))], [], rp_M M b k)) (f := fun k => if rp_W b k then some k else none)
    (Nat.zero_le n) ((gX6_readPlaces_0_1 (nI n) M).toM (rp_zero M b).symm) ((gX6_readPlaces_2_4 (nI n) (nI n) _ (Int32.le_refl _)).tr pt_dropA) fun k _ hk => by
      have htk := rp_tp (k := k) htp
      have e4 : nI k * 4 = nI (4 * k) := by rw [show (4 : Int32) = nI 4 from rfl, pk_mul, Nat.mul_comm]
      have e41 : nI (4 * k) + 1 = nI (4 * k + 1) := nI_1 _
      have e42 : nI (4 * k) + 2 = nI (4 * k + 2) := nI_add (4 * k) 2
      have e43 : nI (4 * k + 2) + 1 = nI (4 * k + 2 + 1) := nI_1 _
      have ek : pt_nt (nI k) = k := pt_nt_nI (by omega)
      have v1 := sh_nI htk (p := 4 * k) (by omega)
      have htk2 : ∀ g, tp_P (pt_wA (rp_M M b k) 21 0 g) L b := fun g => ⟨by rw [pt_F_wA]; exact htk.1, htk.2.1, fun p hp => by rw [pt_A_wA', if_neg (fun z => absurd z.1 (by decide))]; exact htk.2.2 p hp⟩
      have v2 : ∀ g, sh_F (pt_wA (rp_M M b k) 21 0 g) (nI (4 * k + 2)) = sx_F b (4 * k + 2) := fun g => sh_nI (htk2 g) (by omega)
      have r1 : pt_A (rp_M M b (k + 1)) 21 0 k = sx_F b (4 * k) := by rw [rp_21]; exact if_pos (Nat.lt_succ_self k)
      have r2 : pt_A (rp_M M b (k + 1)) 22 0 k = sx_F b (4 * k + 2) := by rw [rp_22]; exact if_pos (Nat.lt_succ_self k)
      have c0 : ¬ nI n ≤ nI k := nI_ge hk (by omega)
      have c1 : by_H (rp_M M b k) (nI (4 * k)) := tp_by htk (by omega)
      have c2 : by_H (rp_M M b k) (nI (4 * k + 1)) := tp_by htk (by omega)
      have c3 : pt_in (nI k) 10 := pt_in_nI (by omega) (by decide)
      have c4 : ∀ g, by_H (pt_wA (rp_M M b k) 21 0 g) (nI (4 * k + 2)) := fun g => tp_by (htk2 g) (by omega)
      have c5 : ∀ g, by_H (pt_wA (rp_M M b k) 21 0 g) (nI (4 * k + 2 + 1)) := fun g => tp_by (htk2 g) (by omega)
      have g1 := gX6_readPlaces_2_1 (nI n) (nI k) (rp_M M b k) c0
      have g2 := gX6_readPlaces_2_2 (nI n) (nI k) (rp_M M b k) c0
      have g3 := gX6_readPlaces_2_3 (nI n) (nI k) (rp_M M b k) c0
      rw [e4, e41, e42, e43, ek, v1, v2, rp_step, r1, r2] at g1 g2
      rw [e4, e41, e42, e43, ek, v1, v2, rp_step, r1] at g3
      clear v1 v2 e4 e41 e42 e43
      unfold rp_W
      generalize (10000 : Int32) = T at g1 g2 g3 ⊢
      by_cases d1 : T < ab_F (sx_F b (4 * k))
      · refine ⟨fun v z => ?_, fun z => by simp [d1] at z⟩
        simp only [d1, decide_true, Bool.true_or, if_true, Option.some.injEq] at z
        subst z
        exact (g3 c1 c2 c3 (c4 _) (c5 _) d1).tr pt_dropA
      · by_cases d2 : T < ab_F (sx_F b (4 * k + 2))
        · refine ⟨fun v z => ?_, fun z => by simp [d2] at z⟩
          simp only [d2, decide_true, Bool.or_true, if_true, Option.some.injEq] at z
          subst z
          exact (g1 c1 c2 c3 (c4 _) (c5 _) d1 (Int32.not_le.mpr d2)).tr pt_dropA
        · refine ⟨fun v z => by simp [d1, d2] at z, fun _ => ?_⟩
          exact (g2 c1 c2 c3 (c4 _) (c5 _) d1 (Int32.not_lt.mp d2)).to (by rw [nI_1])
  exact ⟨fun hf => rX6_readPlaces_80 rfl (Nat.le_of_ble_eq_true rfl) rfl (K.2 hf), fun k hf => rX6_readPlaces_72 rfl (Nat.le_of_ble_eq_true rfl) rfl (K.1 k hf)⟩
def ar_F (X Y : Nat → Int32) (i j k : Nat) : Int32 := ((X j - X i) * (Y k - Y i)) - ((Y j - Y i) * (X k - X i))
def as_F (X Y : Nat → Int32) (i j k : Nat) : Bool := decide (¬ ar_F X Y i j k ≤ 0)
def ps_F (n : Nat) (X Y : Nat → Int32) : Option (Nat × Nat × Nat) := fs_F (n - 0) 0 fun i => fs_F (n - (i + 1)) (i + 1) fun j => fs_F (n - (j + 1)) (j + 1) fun k => if ar_F X Y i j k = 0 then some (i, j, k) else none
def ps_M (M : pt_M) (n : Nat) (X Y : Nat → Int32) (i j k : Nat) : pt_M := tw_F (hd_F M (pt_R M 0) (nI n)) (pt_R M 0) (pb_q (pb_d n i j k) (as_F X Y))
theorem rX6_placeSpare_111 {vs : List pt_V} {M M' : pt_M} {x : Int32} {L : List (Nat × pt_V)} (hvs : (vs.map pt_w).sum ≤ 6) (hX : M'.2.2.2.2 = M.2.2.2.2) (h : pt_Go YX6_placeSpare (0, pt_en 0 vs, [], M) (111, L, [pt_i x], M')) : pt_Does yX6_placeSpare YX6_placeSpare vs M (some (pt_i x)) M' := pt_does_go tX6_placeSpare_ok nX6_placeSpare hvs hX ⟨_, by with_unfolding_all rfl, rfl, _, rfl, rfl⟩ h
theorem rX6_placeSpare_152 {vs : List pt_V} {M M' : pt_M} {x : Int32} {L : List (Nat × pt_V)} (hvs : (vs.map pt_w).sum ≤ 6) (hX : M'.2.2.2.2 = M.2.2.2.2) (h : pt_Go YX6_placeSpare (0, pt_en 0 vs, [], M) (152, L, [pt_i x], M')) : pt_Does yX6_placeSpare YX6_placeSpare vs M (some (pt_i x)) M' := pt_does_go tX6_placeSpare_ok nX6_placeSpare hvs hX ⟨_, by with_unfolding_all rfl, rfl, _, rfl, rfl⟩ h
set_option maxRecDepth 100000 in
theorem gX6_placeSpare_0_1 (x1 : Int32)  (M : pt_M) (h1 : (pt_R M 0) < 7) :
    pt_Go YX6_placeSpare (0, [(0, pt_r 2 0), (1, pt_i x1)], [], M)
      (10, [(0, pt_r 2 0), (1, pt_i x1), (2, pt_i 0)], [], (bg_F M (pt_R M 0) x1)) :=
  pt_run_ok tX6_placeSpare_ok 6 [.inr (2, none, (bg_F M (pt_R M 0) x1))] (P := pt_Cal YX6_placeSpare (.invokevirtual 99) [pt_r 3 (pt_R M 0), pt_i x1] M none (bg_F M (pt_R M 0) x1) ∧ True) (by with_unfolding_all rfl) ⟨(pt_callV (i := (pt_R M 0)) kX6_placeSpare_99 mX4_begin rfl h1 rfl (dX4_begin h1)), trivial⟩
set_option maxRecDepth 100000 in
theorem gX6_placeSpare_10_1 (l1 : Int32) (l2 : Int32)  (M : pt_M) (h1 : ¬ l1 ≤ l2) :
    pt_Go YX6_placeSpare (10, [(0, pt_r 2 0), (1, pt_i l1), (2, pt_i l2)], [], M)
      (19, [(0, pt_r 2 0), (1, pt_i l1), (2, pt_i l2), (3, pt_i (l2 + 1))], [], M) :=
  pt_run_ok tX6_placeSpare_ok 7 [.inl false] (P := (¬ l1 ≤ l2) ∧ True) (by with_unfolding_all rfl) ⟨h1, trivial⟩
set_option maxRecDepth 100000 in
theorem gX6_placeSpare_10_2 (l1 : Int32) (l2 : Int32)  (M : pt_M) (h1 : l1 ≤ l2) :
    pt_Go YX6_placeSpare (10, [(0, pt_r 2 0), (1, pt_i l1), (2, pt_i l2)], [], M)
      (152, [(0, pt_r 2 0), (1, pt_i l1), (2, pt_i l2)], [pt_i (-1)], M) :=
  pt_run_ok tX6_placeSpare_ok 4 [.inl true] (P := (l1 ≤ l2) ∧ True) (by with_unfolding_all rfl) ⟨h1, trivial⟩
set_option maxRecDepth 100000 in
theorem gX6_placeSpare_19_1 (l1 : Int32) (l2 : Int32) (l3 : Int32)  (M : pt_M) (h1 : ¬ l1 ≤ l3) :
    pt_Go YX6_placeSpare (19, [(0, pt_r 2 0), (1, pt_i l1), (2, pt_i l2), (3, pt_i l3)], [], M)
      (29, [(0, pt_r 2 0), (1, pt_i l1), (2, pt_i l2), (3, pt_i l3), (4, pt_i (l3 + 1))], [], M) :=
  pt_run_ok tX6_placeSpare_ok 7 [.inl false] (P := (¬ l1 ≤ l3) ∧ True) (by with_unfolding_all rfl) ⟨h1, trivial⟩
set_option maxRecDepth 100000 in
theorem gX6_placeSpare_19_2 (l1 : Int32) (l2 : Int32) (l3 : Int32)  (M : pt_M) (h1 : l1 ≤ l3) :
    pt_Go YX6_placeSpare (19, [(0, pt_r 2 0), (1, pt_i l1), (2, pt_i l2), (3, pt_i l3)], [], M)
      (10, [(0, pt_r 2 0), (1, pt_i l1), (2, pt_i (l2 + 1))], [], M) :=
  (pt_run_ok tX6_placeSpare_ok 5 [.inl true] (P := (l1 ≤ l3) ∧ True) (by with_unfolding_all rfl) ⟨h1, trivial⟩ : pt_Go YX6_placeSpare _ (10, [(0, pt_r 2 0), (1, pt_i l1), (2, pt_i (l2 + 1)), (3, pt_i l3)], [], M)).tr (pt_pick [0, 1, 2] (by with_unfolding_all rfl))
set_option maxRecDepth 100000 in
theorem gX6_placeSpare_29_1 (l1 : Int32) (l2 : Int32) (l3 : Int32) (l4 : Int32)  (M : pt_M) (h1 : ¬ l1 ≤ l4) (h2 : pt_in l3 10) (h3 : pt_in l2 10) (h4 : pt_in l4 10) (h5 : ((((pt_A M 21 0 (pt_nt l3)) - (pt_A M 21 0 (pt_nt l2))) * ((pt_A M 22 0 (pt_nt l4)) - (pt_A M 22 0 (pt_nt l2)))) - (((pt_A M 22 0 (pt_nt l3)) - (pt_A M 22 0 (pt_nt l2))) * ((pt_A M 21 0 (pt_nt l4)) - (pt_A M 21 0 (pt_nt l2))))) = 0) :
    pt_Go YX6_placeSpare (29, [(0, pt_r 2 0), (1, pt_i l1), (2, pt_i l2), (3, pt_i l3), (4, pt_i l4)], [], M)
      (111, [(0, pt_r 2 0), (1, pt_i l1), (2, pt_i l2), (3, pt_i l3), (4, pt_i l4), (5, pt_i ((((pt_A M 21 0 (pt_nt l3)) - (pt_A M 21 0 (pt_nt l2))) * ((pt_A M 22 0 (pt_nt l4)) - (pt_A M 22 0 (pt_nt l2)))) - (((pt_A M 22 0 (pt_nt l3)) - (pt_A M 22 0 (pt_nt l2))) * ((pt_A M 21 0 (pt_nt l4)) - (pt_A M 21 0 (pt_nt l2))))))], [pt_i (((l2 * 100) + (l3 * 10)) + l4)], M) :=
  pt_run_ok tX6_placeSpare_ok 54 [.inl false, .inl false] (P := (¬ l1 ≤ l4) ∧ (pt_in l3 10) ∧ (pt_in l2 10) ∧ (pt_in l4 10) ∧ (pt_in l2 10) ∧ (pt_in l3 10) ∧ (pt_in l2 10) ∧ (pt_in l4 10) ∧ (pt_in l2 10) ∧ (((((pt_A M 21 0 (pt_nt l3)) - (pt_A M 21 0 (pt_nt l2))) * ((pt_A M 22 0 (pt_nt l4)) - (pt_A M 22 0 (pt_nt l2)))) - (((pt_A M 22 0 (pt_nt l3)) - (pt_A M 22 0 (pt_nt l2))) * ((pt_A M 21 0 (pt_nt l4)) - (pt_A M 21 0 (pt_nt l2))))) = 0) ∧ True) (by with_unfolding_all rfl) ⟨h1, h2, h3, h4, h3, h2, h3, h4, h3, h5, trivial⟩
set_option maxRecDepth 100000 in
theorem gX6_placeSpare_29_2 (l1 : Int32) (l2 : Int32) (l3 : Int32) (l4 : Int32)  (M : pt_M) (h1 : ¬ l1 ≤ l4) (h2 : pt_in l3 10) (h3 : pt_in l2 10) (h4 : pt_in l4 10) (h5 : ¬ ((((pt_A M 21 0 (pt_nt l3)) - (pt_A M 21 0 (pt_nt l2))) * ((pt_A M 22 0 (pt_nt l4)) - (pt_A M 22 0 (pt_nt l2)))) - (((pt_A M 22 0 (pt_nt l3)) - (pt_A M 22 0 (pt_nt l2))) * ((pt_A M 21 0 (pt_nt l4)) - (pt_A M 21 0 (pt_nt l2))))) = 0) (h6 : ¬ ((((pt_A M 21 0 (pt_nt l3)) - (pt_A M 21 0 (pt_nt l2))) * ((pt_A M 22 0 (pt_nt l4)) - (pt_A M 22 0 (pt_nt l2)))) - (((pt_A M 22 0 (pt_nt l3)) - (pt_A M 22 0 (pt_nt l2))) * ((pt_A M 21 0 (pt_nt l4)) - (pt_A M 21 0 (pt_nt l2))))) ≤ 0) (h7 : (pt_R M 0) < 7) (h8 : pu_P l2 l3 l4) :
    pt_Go YX6_placeSpare (29, [(0, pt_r 2 0), (1, pt_i l1), (2, pt_i l2), (3, pt_i l3), (4, pt_i l4)], [], M)
      (29, [(0, pt_r 2 0), (1, pt_i l1), (2, pt_i l2), (3, pt_i l3), (4, pt_i (l4 + 1))], [], (pu_F M (pt_R M 0) l2 l3 l4 1)) :=
  (pt_run_ok tX6_placeSpare_ok 57 [.inl false, .inl true, .inl false, .inr (5, none, (pu_F M (pt_R M 0) l2 l3 l4 1))] (P := (¬ l1 ≤ l4) ∧ (pt_in l3 10) ∧ (pt_in l2 10) ∧ (pt_in l4 10) ∧ (pt_in l2 10) ∧ (pt_in l3 10) ∧ (pt_in l2 10) ∧ (pt_in l4 10) ∧ (pt_in l2 10) ∧ (¬ ((((pt_A M 21 0 (pt_nt l3)) - (pt_A M 21 0 (pt_nt l2))) * ((pt_A M 22 0 (pt_nt l4)) - (pt_A M 22 0 (pt_nt l2)))) - (((pt_A M 22 0 (pt_nt l3)) - (pt_A M 22 0 (pt_nt l2))) * ((pt_A M 21 0 (pt_nt l4)) - (pt_A M 21 0 (pt_nt l2))))) = 0) ∧ (¬ ((((pt_A M 21 0 (pt_nt l3)) - (pt_A M 21 0 (pt_nt l2))) * ((pt_A M 22 0 (pt_nt l4)) - (pt_A M 22 0 (pt_nt l2)))) - (((pt_A M 22 0 (pt_nt l3)) - (pt_A M 22 0 (pt_nt l2))) * ((pt_A M 21 0 (pt_nt l4)) - (pt_A M 21 0 (pt_nt l2))))) ≤ 0) ∧ pt_Cal YX6_placeSpare (.invokevirtual 102) [pt_r 3 (pt_R M 0), pt_i l2, pt_i l3, pt_i l4, pt_i 1] M none (pu_F M (pt_R M 0) l2 l3 l4 1) ∧ True) (by with_unfolding_all rfl) ⟨h1, h2, h3, h4, h3, h2, h3, h4, h3, h5, h6, (pt_callV (i := (pt_R M 0)) kX6_placeSpare_102 mX4_put rfl h7 rfl (dX4_putP h7 h8)), trivial⟩ : pt_Go YX6_placeSpare _ (29, [(0, pt_r 2 0), (1, pt_i l1), (2, pt_i l2), (3, pt_i l3), (4, pt_i (l4 + 1)), (5, pt_i ((((pt_A M 21 0 (pt_nt l3)) - (pt_A M 21 0 (pt_nt l2))) * ((pt_A M 22 0 (pt_nt l4)) - (pt_A M 22 0 (pt_nt l2)))) - (((pt_A M 22 0 (pt_nt l3)) - (pt_A M 22 0 (pt_nt l2))) * ((pt_A M 21 0 (pt_nt l4)) - (pt_A M 21 0 (pt_nt l2))))))], [], (pu_F M (pt_R M 0) l2 l3 l4 1))).tr (pt_pick [0, 1, 2, 3, 4] (by with_unfolding_all rfl))
set_option maxRecDepth 100000 in
theorem gX6_placeSpare_29_3 (l1 : Int32) (l2 : Int32) (l3 : Int32) (l4 : Int32)  (M : pt_M) (h1 : ¬ l1 ≤ l4) (h2 : pt_in l3 10) (h3 : pt_in l2 10) (h4 : pt_in l4 10) (h5 : ¬ ((((pt_A M 21 0 (pt_nt l3)) - (pt_A M 21 0 (pt_nt l2))) * ((pt_A M 22 0 (pt_nt l4)) - (pt_A M 22 0 (pt_nt l2)))) - (((pt_A M 22 0 (pt_nt l3)) - (pt_A M 22 0 (pt_nt l2))) * ((pt_A M 21 0 (pt_nt l4)) - (pt_A M 21 0 (pt_nt l2))))) = 0) (h6 : ((((pt_A M 21 0 (pt_nt l3)) - (pt_A M 21 0 (pt_nt l2))) * ((pt_A M 22 0 (pt_nt l4)) - (pt_A M 22 0 (pt_nt l2)))) - (((pt_A M 22 0 (pt_nt l3)) - (pt_A M 22 0 (pt_nt l2))) * ((pt_A M 21 0 (pt_nt l4)) - (pt_A M 21 0 (pt_nt l2))))) ≤ 0) (h7 : (pt_R M 0) < 7) (h8 : pu_P l2 l3 l4) :
    pt_Go YX6_placeSpare (29, [(0, pt_r 2 0), (1, pt_i l1), (2, pt_i l2), (3, pt_i l3), (4, pt_i l4)], [], M)
      (29, [(0, pt_r 2 0), (1, pt_i l1), (2, pt_i l2), (3, pt_i l3), (4, pt_i (l4 + 1))], [], (pu_F M (pt_R M 0) l2 l3 l4 0)) :=
  (pt_run_ok tX6_placeSpare_ok 56 [.inl false, .inl true, .inl true, .inr (5, none, (pu_F M (pt_R M 0) l2 l3 l4 0))] (P := (¬ l1 ≤ l4) ∧ (pt_in l3 10) ∧ (pt_in l2 10) ∧ (pt_in l4 10) ∧ (pt_in l2 10) ∧ (pt_in l3 10) ∧ (pt_in l2 10) ∧ (pt_in l4 10) ∧ (pt_in l2 10) ∧ (¬ ((((pt_A M 21 0 (pt_nt l3)) - (pt_A M 21 0 (pt_nt l2))) * ((pt_A M 22 0 (pt_nt l4)) - (pt_A M 22 0 (pt_nt l2)))) - (((pt_A M 22 0 (pt_nt l3)) - (pt_A M 22 0 (pt_nt l2))) * ((pt_A M 21 0 (pt_nt l4)) - (pt_A M 21 0 (pt_nt l2))))) = 0) ∧ (((((pt_A M 21 0 (pt_nt l3)) - (pt_A M 21 0 (pt_nt l2))) * ((pt_A M 22 0 (pt_nt l4)) - (pt_A M 22 0 (pt_nt l2)))) - (((pt_A M 22 0 (pt_nt l3)) - (pt_A M 22 0 (pt_nt l2))) * ((pt_A M 21 0 (pt_nt l4)) - (pt_A M 21 0 (pt_nt l2))))) ≤ 0) ∧ pt_Cal YX6_placeSpare (.invokevirtual 102) [pt_r 3 (pt_R M 0), pt_i l2, pt_i l3, pt_i l4, pt_i 0] M none (pu_F M (pt_R M 0) l2 l3 l4 0) ∧ True) (by with_unfolding_all rfl) ⟨h1, h2, h3, h4, h3, h2, h3, h4, h3, h5, h6, (pt_callV (i := (pt_R M 0)) kX6_placeSpare_102 mX4_put rfl h7 rfl (dX4_putP h7 h8)), trivial⟩ : pt_Go YX6_placeSpare _ (29, [(0, pt_r 2 0), (1, pt_i l1), (2, pt_i l2), (3, pt_i l3), (4, pt_i (l4 + 1)), (5, pt_i ((((pt_A M 21 0 (pt_nt l3)) - (pt_A M 21 0 (pt_nt l2))) * ((pt_A M 22 0 (pt_nt l4)) - (pt_A M 22 0 (pt_nt l2)))) - (((pt_A M 22 0 (pt_nt l3)) - (pt_A M 22 0 (pt_nt l2))) * ((pt_A M 21 0 (pt_nt l4)) - (pt_A M 21 0 (pt_nt l2))))))], [], (pu_F M (pt_R M 0) l2 l3 l4 0))).tr (pt_pick [0, 1, 2, 3, 4] (by with_unfolding_all rfl))
set_option maxRecDepth 100000 in
theorem gX6_placeSpare_29_4 (l1 : Int32) (l2 : Int32) (l3 : Int32) (l4 : Int32)  (M : pt_M) (h1 : l1 ≤ l4) :
    pt_Go YX6_placeSpare (29, [(0, pt_r 2 0), (1, pt_i l1), (2, pt_i l2), (3, pt_i l3), (4, pt_i l4)], [], M)
      (19, [(0, pt_r 2 0), (1, pt_i l1), (2, pt_i l2), (3, pt_i (l3 + 1))], [], M) :=
  (pt_run_ok tX6_placeSpare_ok 5 [.inl true] (P := (l1 ≤ l4) ∧ True) (by with_unfolding_all rfl) ⟨h1, trivial⟩ : pt_Go YX6_placeSpare _ (19, [(0, pt_r 2 0), (1, pt_i l1), (2, pt_i l2), (3, pt_i (l3 + 1)), (4, pt_i l4)], [], M)).tr (pt_pick [0, 1, 2, 3] (by with_unfolding_all rfl))
theorem dX6_placeSpare {n : Nat} {X Y : Nat → Int32} {M : pt_M} (ht : pt_R M 0 < 7) (hn : n ≤ 10) (hX : ∀ i, i < n → pt_A M 21 0 i = X i) (hY : ∀ i, i < n → pt_A M 22 0 i = Y i) :
    (ps_F n X Y = none → pt_Does yX6_placeSpare YX6_placeSpare [pt_r 2 0, pt_i (nI n)] M (some (pt_i (-1))) (mt_F M (pt_R M 0) n (as_F X Y))) ∧ (∀ q, ps_F n X Y = some q → pt_Does yX6_placeSpare YX6_placeSpare [pt_r 2 0, pt_i (nI n)] M (some (pt_i ((nI q.1 * 100) + (nI q.2.1 * 10) + nI q.2.2))) (ps_M M n X Y q.1 q.2.1 q.2.2)) := by
  have K := pt_nest (Y := YX6_placeSpare) (σ := (0, [(0, pt_r 2 0), (1, pt_i (nI n))], [], M)) (τ := (152, [], [pt_i (-1)], mt_F M (pt_R M 0) n (as_F X Y))) (R := fun q : Nat × Nat × Nat => (111, [], [pt_i ((nI q.1 * 100) + (nI q.2.1 * 10) + nI q.2.2)], ps_M M n X Y q.1 q.2.1 q.2.2)) (n := n) (i := 0)
    (S := fun i => (10, [(0, pt_r 2 0), (1, pt_i (nI n)), (2, pt_i (nI i))], [], ps_M M n X Y i (i + 1) (i + 2))) (f := fun i => fs_F (n - (i + 1)) (i + 1) fun j => fs_F (n - (j + 1)) (j + 1) fun k => if ar_F X Y i j k = 0 then some (i, j, k) else none)
    (Nat.zero_le n) ((gX6_placeSpare_0_1 (nI n) M ht).to (by rw [bg_tw, ← pb_d_0 (as_F X Y)]; rfl)) (((gX6_placeSpare_10_2 (nI n) (nI n) _ (Int32.le_refl _)).tr pt_dropA).toM (by unfold mt_F ps_M; rw [pb_d_n])) fun i _ hi =>
    pt_nest (S := fun j => (19, [(0, pt_r 2 0), (1, pt_i (nI n)), (2, pt_i (nI i)), (3, pt_i (nI j))], [], ps_M M n X Y i j (j + 1))) (by omega) ((gX6_placeSpare_10_1 (nI n) (nI i) _ (nI_ge hi (by omega))).to (by rw [nI_1])) ((gX6_placeSpare_19_2 (nI n) (nI i) (nI n) _ (Int32.le_refl _)).to (by unfold ps_M; rw [nI_1, pb_d_i (Nat.le_refl n)])) fun j hj0 hj =>
    pt_nest (S := fun k => (29, [(0, pt_r 2 0), (1, pt_i (nI n)), (2, pt_i (nI i)), (3, pt_i (nI j)), (4, pt_i (nI k))], [], ps_M M n X Y i j k)) (by omega) ((gX6_placeSpare_19_1 (nI n) (nI i) (nI j) _ (nI_ge hj (by omega))).to (by rw [nI_1])) ((gX6_placeSpare_29_4 (nI n) (nI i) (nI j) (nI n) _ (Int32.le_refl _)).to (by unfold ps_M; rw [nI_1, pb_d_j])) fun k hk0 hk => by
      have hx : ∀ a, a < n → pt_A (ps_M M n X Y i j k) 21 0 (pt_nt (nI a)) = X a := fun a ha => by
        rw [pt_nt_nI (by omega)]
        exact (congrFun (tw_A (by decide)) a).trans (hX a ha)
      have hy : ∀ a, a < n → pt_A (ps_M M n X Y i j k) 22 0 (pt_nt (nI a)) = Y a := fun a ha => by
        rw [pt_nt_nI (by omega)]
        exact (congrFun (tw_A (by decide)) a).trans (hY a ha)
      have g1 := gX6_placeSpare_29_1 (nI n) (nI i) (nI j) (nI k) (ps_M M n X Y i j k) (nI_ge hk (by omega)) (pt_in_nI (show j < 10 by omega) (by decide)) (pt_in_nI (show i < 10 by omega) (by decide)) (pt_in_nI (show k < 10 by omega) (by decide))
      have g2 := gX6_placeSpare_29_2 (nI n) (nI i) (nI j) (nI k) (ps_M M n X Y i j k) (nI_ge hk (by omega)) (pt_in_nI (show j < 10 by omega) (by decide)) (pt_in_nI (show i < 10 by omega) (by decide)) (pt_in_nI (show k < 10 by omega) (by decide))
      have g3 := gX6_placeSpare_29_3 (nI n) (nI i) (nI j) (nI k) (ps_M M n X Y i j k) (nI_ge hk (by omega)) (pt_in_nI (show j < 10 by omega) (by decide)) (pt_in_nI (show i < 10 by omega) (by decide)) (pt_in_nI (show k < 10 by omega) (by decide))
      rw [hx i (by omega), hx j (by omega), hx k hk, hy i (by omega), hy j (by omega), hy k hk] at g1 g2 g3
      have e8 : pu_P (nI i) (nI j) (nI k) := pu_nI (by omega) (by omega) (by omega)
      by_cases c : ar_F X Y i j k = 0
      · refine ⟨fun v z => ?_, fun z => by simp [c] at z⟩
        simp only [c, if_true, Option.some.injEq] at z
        subst z
        exact (g1 c).tr pt_dropA
      · refine ⟨fun v z => by simp [c] at z, fun _ => ?_⟩
        by_cases d : ar_F X Y i j k ≤ 0
        · refine (g3 c d ht e8).to ?_
          have hb : as_F X Y i j k = false := by simp [as_F, d]
          rw [nI_1]
          unfold ps_M
          rw [show pu_F (tw_F (hd_F M (pt_R M 0) (nI n)) (pt_R M 0) (pb_q (pb_d n i j k) (as_F X Y))) (pt_R (tw_F (hd_F M (pt_R M 0) (nI n)) (pt_R M 0) (pb_q (pb_d n i j k) (as_F X Y))) 0) (nI i) (nI j) (nI k) 0 = pu_F (tw_F (hd_F M (pt_R M 0) (nI n)) (pt_R M 0) (pb_q (pb_d n i j k) (as_F X Y))) (pt_R M 0) (nI i) (nI j) (nI k) (pt_b (as_F X Y i j k)) by rw [hb]; rfl, pu_tw _ (by omega) (by omega) (by omega), pb_d_k hk _ (by omega) (by omega)]
        · refine (g2 c d ht e8).to ?_
          have hb : as_F X Y i j k = true := by simp [as_F, d]
          rw [nI_1]
          unfold ps_M
          rw [show pu_F (tw_F (hd_F M (pt_R M 0) (nI n)) (pt_R M 0) (pb_q (pb_d n i j k) (as_F X Y))) (pt_R (tw_F (hd_F M (pt_R M 0) (nI n)) (pt_R M 0) (pb_q (pb_d n i j k) (as_F X Y))) 0) (nI i) (nI j) (nI k) 1 = pu_F (tw_F (hd_F M (pt_R M 0) (nI n)) (pt_R M 0) (pb_q (pb_d n i j k) (as_F X Y))) (pt_R M 0) (nI i) (nI j) (nI k) (pt_b (as_F X Y i j k)) by rw [hb]; rfl, pu_tw _ (by omega) (by omega) (by omega), pb_d_k hk _ (by omega) (by omega)]
  exact ⟨fun hf => rX6_placeSpare_152 (Nat.le_of_ble_eq_true rfl) rfl (K.2 hf), fun q hf => rX6_placeSpare_111 (Nat.le_of_ble_eq_true rfl) rfl (K.1 q hf)⟩
theorem rX6_placeByTape_45 {vs : List pt_V} {M M' : pt_M} {x : Int32} {L : List (Nat × pt_V)} (hvs : (vs.map pt_w).sum ≤ 4) (hX : M'.2.2.2.2 = M.2.2.2.2) (h : pt_Go YX6_placeByTape (0, pt_en 0 vs, [], M) (45, L, [pt_i x], M')) : pt_Does yX6_placeByTape YX6_placeByTape vs M (some (pt_i x)) M' := pt_does_go tX6_placeByTape_ok nX6_placeByTape hvs hX ⟨_, by with_unfolding_all rfl, rfl, _, rfl, rfl⟩ h
theorem rX6_placeByTape_63 {vs : List pt_V} {M M' : pt_M} {x : Int32} {L : List (Nat × pt_V)} (hvs : (vs.map pt_w).sum ≤ 4) (hX : M'.2.2.2.2 = M.2.2.2.2) (h : pt_Go YX6_placeByTape (0, pt_en 0 vs, [], M) (63, L, [pt_i x], M')) : pt_Does yX6_placeByTape YX6_placeByTape vs M (some (pt_i x)) M' := pt_does_go tX6_placeByTape_ok nX6_placeByTape hvs hX ⟨_, by with_unfolding_all rfl, rfl, _, rfl, rfl⟩ h
theorem rX6_placeByTape_70 {vs : List pt_V} {M M' : pt_M} {x : Int32} {L : List (Nat × pt_V)} (hvs : (vs.map pt_w).sum ≤ 4) (hX : M'.2.2.2.2 = M.2.2.2.2) (h : pt_Go YX6_placeByTape (0, pt_en 0 vs, [], M) (70, L, [pt_i x], M')) : pt_Does yX6_placeByTape YX6_placeByTape vs M (some (pt_i x)) M' := pt_does_go tX6_placeByTape_ok nX6_placeByTape hvs hX ⟨_, by with_unfolding_all rfl, rfl, _, rfl, rfl⟩ h
set_option maxRecDepth 100000 in
theorem gX6_placeByTape_0_1 (x1 : Int32) (r : Int32) (M2 : pt_M) (M3 : pt_M) (M : pt_M) (h1 : sl_P x1) (h2 : ((pt_F M 4 1 0) - (pt_F M 4 1 0) / 4 * 4) = 0) (h3 : sz_P ((pt_F M 4 1 0) / 4)) (h4 : pt_Does yX6_readPlaces YX6_readPlaces [pt_r 2 0, pt_i ((pt_F M 4 1 0) / 4)] M (some (pt_i 1)) M2) (h5 : pt_Does yX6_placeSpare YX6_placeSpare [pt_r 2 0, pt_i ((pt_F M 4 1 0) / 4)] M2 (some (pt_i r)) M3) (h6 : ¬ r = (-1)) :
    pt_Go YX6_placeByTape (0, [(0, pt_r 2 0), (1, pt_i x1)], [], M)
      (63, [(0, pt_r 2 0), (1, pt_i x1), (2, pt_i ((pt_F M 4 1 0) / 4)), (3, pt_i r)], [pt_i 2], (pt_wF M3 2 7 0 r)) :=
  pt_run_ok tX6_placeByTape_ok 33 [.inr (1, some (pt_i 1), M), .inl false, .inl false, .inr (1, some (pt_i 1), M), .inl false, .inr (2, some (pt_i 1), M2), .inl true, .inr (2, some (pt_i r), M3), .inl false] (P := (¬ (4 : Int32) = 0) ∧ pt_Cal YX6_placeByTape (.invokestatic 75) [pt_i x1] M (some (pt_i 1)) M ∧ (¬ (1 : Int32) = (0 : Int32)) ∧ (¬ (4 : Int32) = 0) ∧ (((pt_F M 4 1 0) - (pt_F M 4 1 0) / 4 * 4) = 0) ∧ pt_Cal YX6_placeByTape (.invokestatic 79) [pt_i ((pt_F M 4 1 0) / 4)] M (some (pt_i 1)) M ∧ (¬ (1 : Int32) = (0 : Int32)) ∧ pt_Cal YX6_placeByTape (.invokevirtual 82) [pt_r 2 0, pt_i ((pt_F M 4 1 0) / 4)] M (some (pt_i 1)) M2 ∧ (¬ (1 : Int32) = (0 : Int32)) ∧ pt_Cal YX6_placeByTape (.invokevirtual 85) [pt_r 2 0, pt_i ((pt_F M 4 1 0) / 4)] M2 (some (pt_i r)) M3 ∧ (¬ r = (-1)) ∧ True) (by with_unfolding_all rfl) ⟨(by decide), (pt_callS kX6_placeByTape_75 mX6_isSlot rfl (dX6_isSlot_1 h1)), (by decide), (by decide), h2, (pt_callS kX6_placeByTape_79 mX6_isSize rfl (dX6_isSize_1 h3)), (by decide), (pt_callV (i := 0) kX6_placeByTape_82 mX6_readPlaces rfl (by decide) rfl h4), (by decide), (pt_callV (i := 0) kX6_placeByTape_85 mX6_placeSpare rfl (by decide) rfl h5), h6, trivial⟩
set_option maxRecDepth 100000 in
theorem gX6_placeByTape_0_2 (x1 : Int32) (r : Int32) (M2 : pt_M) (M3 : pt_M) (M : pt_M) (h1 : sl_P x1) (h2 : ((pt_F M 4 1 0) - (pt_F M 4 1 0) / 4 * 4) = 0) (h3 : sz_P ((pt_F M 4 1 0) / 4)) (h4 : pt_Does yX6_readPlaces YX6_readPlaces [pt_r 2 0, pt_i ((pt_F M 4 1 0) / 4)] M (some (pt_i 1)) M2) (h5 : pt_Does yX6_placeSpare YX6_placeSpare [pt_r 2 0, pt_i ((pt_F M 4 1 0) / 4)] M2 (some (pt_i r)) M3) (h6 : r = (-1)) (h7 : kp_P M3 x1) :
    pt_Go YX6_placeByTape (0, [(0, pt_r 2 0), (1, pt_i x1)], [], M)
      (70, [(0, pt_r 2 0), (1, pt_i x1), (2, pt_i ((pt_F M 4 1 0) / 4)), (3, pt_i r)], [pt_i 0], (kp_M M3 x1)) :=
  pt_run_ok tX6_placeByTape_ok 33 [.inr (1, some (pt_i 1), M), .inl false, .inl false, .inr (1, some (pt_i 1), M), .inl false, .inr (2, some (pt_i 1), M2), .inl true, .inr (2, some (pt_i r), M3), .inl true, .inr (2, none, (kp_M M3 x1))] (P := (¬ (4 : Int32) = 0) ∧ pt_Cal YX6_placeByTape (.invokestatic 75) [pt_i x1] M (some (pt_i 1)) M ∧ (¬ (1 : Int32) = (0 : Int32)) ∧ (¬ (4 : Int32) = 0) ∧ (((pt_F M 4 1 0) - (pt_F M 4 1 0) / 4 * 4) = 0) ∧ pt_Cal YX6_placeByTape (.invokestatic 79) [pt_i ((pt_F M 4 1 0) / 4)] M (some (pt_i 1)) M ∧ (¬ (1 : Int32) = (0 : Int32)) ∧ pt_Cal YX6_placeByTape (.invokevirtual 82) [pt_r 2 0, pt_i ((pt_F M 4 1 0) / 4)] M (some (pt_i 1)) M2 ∧ (¬ (1 : Int32) = (0 : Int32)) ∧ pt_Cal YX6_placeByTape (.invokevirtual 85) [pt_r 2 0, pt_i ((pt_F M 4 1 0) / 4)] M2 (some (pt_i r)) M3 ∧ (r = (-1)) ∧ pt_Cal YX6_placeByTape (.invokevirtual 88) [pt_r 2 0, pt_i x1] M3 none (kp_M M3 x1) ∧ True) (by with_unfolding_all rfl) ⟨(by decide), (pt_callS kX6_placeByTape_75 mX6_isSlot rfl (dX6_isSlot_1 h1)), (by decide), (by decide), h2, (pt_callS kX6_placeByTape_79 mX6_isSize rfl (dX6_isSize_1 h3)), (by decide), (pt_callV (i := 0) kX6_placeByTape_82 mX6_readPlaces rfl (by decide) rfl h4), (by decide), (pt_callV (i := 0) kX6_placeByTape_85 mX6_placeSpare rfl (by decide) rfl h5), h6, (pt_callV (i := 0) kX6_placeByTape_88 mX6_keepSpare rfl (by decide) rfl (dX6_keepSpare h7)), trivial⟩
set_option maxRecDepth 100000 in
theorem gX6_placeByTape_0_3 (x1 : Int32) (r : Int32) (M2 : pt_M) (M3 : pt_M) (M : pt_M) (h1 : sl_P x1) (h2 : ((pt_F M 4 1 0) - (pt_F M 4 1 0) / 4 * 4) = 0) (h3 : sz_P ((pt_F M 4 1 0) / 4)) (h4 : pt_Does yX6_readPlaces YX6_readPlaces [pt_r 2 0, pt_i ((pt_F M 4 1 0) / 4)] M (some (pt_i 0)) M2) :
    pt_Go YX6_placeByTape (0, [(0, pt_r 2 0), (1, pt_i x1)], [], M)
      (45, [(0, pt_r 2 0), (1, pt_i x1), (2, pt_i ((pt_F M 4 1 0) / 4))], [pt_i 1], M2) :=
  pt_run_ok tX6_placeByTape_ok 23 [.inr (1, some (pt_i 1), M), .inl false, .inl false, .inr (1, some (pt_i 1), M), .inl false, .inr (2, some (pt_i 0), M2), .inl false] (P := (¬ (4 : Int32) = 0) ∧ pt_Cal YX6_placeByTape (.invokestatic 75) [pt_i x1] M (some (pt_i 1)) M ∧ (¬ (1 : Int32) = (0 : Int32)) ∧ (¬ (4 : Int32) = 0) ∧ (((pt_F M 4 1 0) - (pt_F M 4 1 0) / 4 * 4) = 0) ∧ pt_Cal YX6_placeByTape (.invokestatic 79) [pt_i ((pt_F M 4 1 0) / 4)] M (some (pt_i 1)) M ∧ (¬ (1 : Int32) = (0 : Int32)) ∧ pt_Cal YX6_placeByTape (.invokevirtual 82) [pt_r 2 0, pt_i ((pt_F M 4 1 0) / 4)] M (some (pt_i 0)) M2 ∧ ((0 : Int32) = (0 : Int32)) ∧ True) (by with_unfolding_all rfl) ⟨(by decide), (pt_callS kX6_placeByTape_75 mX6_isSlot rfl (dX6_isSlot_1 h1)), (by decide), (by decide), h2, (pt_callS kX6_placeByTape_79 mX6_isSize rfl (dX6_isSize_1 h3)), (by decide), (pt_callV (i := 0) kX6_placeByTape_82 mX6_readPlaces rfl (by decide) rfl h4), (by decide), trivial⟩
set_option maxRecDepth 100000 in
theorem gX6_placeByTape_0_4 (x1 : Int32) (r : Int32) (M2 : pt_M) (M3 : pt_M) (M : pt_M) (h1 : sl_P x1) (h2 : ((pt_F M 4 1 0) - (pt_F M 4 1 0) / 4 * 4) = 0) (h3 : ¬ sz_P ((pt_F M 4 1 0) / 4)) :
    pt_Go YX6_placeByTape (0, [(0, pt_r 2 0), (1, pt_i x1)], [], M)
      (45, [(0, pt_r 2 0), (1, pt_i x1), (2, pt_i ((pt_F M 4 1 0) / 4))], [pt_i 1], M) :=
  pt_run_ok tX6_placeByTape_ok 19 [.inr (1, some (pt_i 1), M), .inl false, .inl false, .inr (1, some (pt_i 0), M), .inl true] (P := (¬ (4 : Int32) = 0) ∧ pt_Cal YX6_placeByTape (.invokestatic 75) [pt_i x1] M (some (pt_i 1)) M ∧ (¬ (1 : Int32) = (0 : Int32)) ∧ (¬ (4 : Int32) = 0) ∧ (((pt_F M 4 1 0) - (pt_F M 4 1 0) / 4 * 4) = 0) ∧ pt_Cal YX6_placeByTape (.invokestatic 79) [pt_i ((pt_F M 4 1 0) / 4)] M (some (pt_i 0)) M ∧ ((0 : Int32) = (0 : Int32)) ∧ True) (by with_unfolding_all rfl) ⟨(by decide), (pt_callS kX6_placeByTape_75 mX6_isSlot rfl (dX6_isSlot_1 h1)), (by decide), (by decide), h2, (pt_callS kX6_placeByTape_79 mX6_isSize rfl (dX6_isSize_0 h3)), (by decide), trivial⟩
set_option maxRecDepth 100000 in
theorem gX6_placeByTape_0_5 (x1 : Int32) (r : Int32) (M2 : pt_M) (M3 : pt_M) (M : pt_M) (h1 : sl_P x1) (h2 : ¬ ((pt_F M 4 1 0) - (pt_F M 4 1 0) / 4 * 4) = 0) :
    pt_Go YX6_placeByTape (0, [(0, pt_r 2 0), (1, pt_i x1)], [], M)
      (45, [(0, pt_r 2 0), (1, pt_i x1), (2, pt_i ((pt_F M 4 1 0) / 4))], [pt_i 1], M) :=
  pt_run_ok tX6_placeByTape_ok 16 [.inr (1, some (pt_i 1), M), .inl false, .inl true] (P := (¬ (4 : Int32) = 0) ∧ pt_Cal YX6_placeByTape (.invokestatic 75) [pt_i x1] M (some (pt_i 1)) M ∧ (¬ (1 : Int32) = (0 : Int32)) ∧ (¬ (4 : Int32) = 0) ∧ (¬ ((pt_F M 4 1 0) - (pt_F M 4 1 0) / 4 * 4) = 0) ∧ True) (by with_unfolding_all rfl) ⟨(by decide), (pt_callS kX6_placeByTape_75 mX6_isSlot rfl (dX6_isSlot_1 h1)), (by decide), (by decide), h2, trivial⟩
set_option maxRecDepth 100000 in
theorem gX6_placeByTape_0_6 (x1 : Int32) (r : Int32) (M2 : pt_M) (M3 : pt_M) (M : pt_M) (h1 : ¬ sl_P x1) :
    pt_Go YX6_placeByTape (0, [(0, pt_r 2 0), (1, pt_i x1)], [], M)
      (45, [(0, pt_r 2 0), (1, pt_i x1), (2, pt_i ((pt_F M 4 1 0) / 4))], [pt_i 1], M) :=
  pt_run_ok tX6_placeByTape_ok 10 [.inr (1, some (pt_i 0), M), .inl true] (P := (¬ (4 : Int32) = 0) ∧ pt_Cal YX6_placeByTape (.invokestatic 75) [pt_i x1] M (some (pt_i 0)) M ∧ ((0 : Int32) = (0 : Int32)) ∧ True) (by with_unfolding_all rfl) ⟨(by decide), (pt_callS kX6_placeByTape_75 mX6_isSlot rfl (dX6_isSlot_0 h1)), (by decide), trivial⟩
theorem dX6_placeByTape_p1 (x1 : Int32) (r : Int32) (M2 : pt_M) (M3 : pt_M) (M : pt_M) (h1 : sl_P x1) (h2 : ((pt_F M 4 1 0) - (pt_F M 4 1 0) / 4 * 4) = 0) (h3 : sz_P ((pt_F M 4 1 0) / 4)) (h4 : pt_Does yX6_readPlaces YX6_readPlaces [pt_r 2 0, pt_i ((pt_F M 4 1 0) / 4)] M (some (pt_i 1)) M2) (h5 : pt_Does yX6_placeSpare YX6_placeSpare [pt_r 2 0, pt_i ((pt_F M 4 1 0) / 4)] M2 (some (pt_i r)) M3) (h6 : ¬ r = (-1)) : pt_Does yX6_placeByTape YX6_placeByTape [pt_r 2 0, pt_i x1] M (some (pt_i 2)) (pt_wF M3 2 7 0 r) :=
  rX6_placeByTape_63 (Nat.le_of_ble_eq_true rfl) ((dX_x5 h5).trans (dX_x5 h4)) (gX6_placeByTape_0_1 x1 r M2 M3 M h1 h2 h3 h4 h5 h6)
theorem dX6_placeByTape_p2 (x1 : Int32) (r : Int32) (M2 : pt_M) (M3 : pt_M) (M : pt_M) (h1 : sl_P x1) (h2 : ((pt_F M 4 1 0) - (pt_F M 4 1 0) / 4 * 4) = 0) (h3 : sz_P ((pt_F M 4 1 0) / 4)) (h4 : pt_Does yX6_readPlaces YX6_readPlaces [pt_r 2 0, pt_i ((pt_F M 4 1 0) / 4)] M (some (pt_i 1)) M2) (h5 : pt_Does yX6_placeSpare YX6_placeSpare [pt_r 2 0, pt_i ((pt_F M 4 1 0) / 4)] M2 (some (pt_i r)) M3) (h6 : r = (-1)) (h7 : kp_P M3 x1) : pt_Does yX6_placeByTape YX6_placeByTape [pt_r 2 0, pt_i x1] M (some (pt_i 0)) (kp_M M3 x1) :=
  rX6_placeByTape_70 (Nat.le_of_ble_eq_true rfl) ((dX_x5 h5).trans (dX_x5 h4)) (gX6_placeByTape_0_2 x1 r M2 M3 M h1 h2 h3 h4 h5 h6 h7)
theorem dX6_placeByTape_p3 (x1 : Int32) (r : Int32) (M2 : pt_M) (M3 : pt_M) (M : pt_M) (h1 : sl_P x1) (h2 : ((pt_F M 4 1 0) - (pt_F M 4 1 0) / 4 * 4) = 0) (h3 : sz_P ((pt_F M 4 1 0) / 4)) (h4 : pt_Does yX6_readPlaces YX6_readPlaces [pt_r 2 0, pt_i ((pt_F M 4 1 0) / 4)] M (some (pt_i 0)) M2) : pt_Does yX6_placeByTape YX6_placeByTape [pt_r 2 0, pt_i x1] M (some (pt_i 1)) M2 :=
  rX6_placeByTape_45 (Nat.le_of_ble_eq_true rfl) (dX_x5 h4) (gX6_placeByTape_0_3 x1 r M2 M3 M h1 h2 h3 h4)
theorem dX6_placeByTape_p4 (x1 : Int32) (r : Int32) (M2 : pt_M) (M3 : pt_M) (M : pt_M) (h1 : sl_P x1) (h2 : ((pt_F M 4 1 0) - (pt_F M 4 1 0) / 4 * 4) = 0) (h3 : ¬ sz_P ((pt_F M 4 1 0) / 4)) : pt_Does yX6_placeByTape YX6_placeByTape [pt_r 2 0, pt_i x1] M (some (pt_i 1)) M :=
  rX6_placeByTape_45 (Nat.le_of_ble_eq_true rfl) rfl (gX6_placeByTape_0_4 x1 r M2 M3 M h1 h2 h3)
theorem dX6_placeByTape_p5 (x1 : Int32) (r : Int32) (M2 : pt_M) (M3 : pt_M) (M : pt_M) (h1 : sl_P x1) (h2 : ¬ ((pt_F M 4 1 0) - (pt_F M 4 1 0) / 4 * 4) = 0) : pt_Does yX6_placeByTape YX6_placeByTape [pt_r 2 0, pt_i x1] M (some (pt_i 1)) M :=
  rX6_placeByTape_45 (Nat.le_of_ble_eq_true rfl) rfl (gX6_placeByTape_0_5 x1 r M2 M3 M h1 h2)
theorem dX6_placeByTape_p6 (x1 : Int32) (r : Int32) (M2 : pt_M) (M3 : pt_M) (M : pt_M) (h1 : ¬ sl_P x1) : pt_Does yX6_placeByTape YX6_placeByTape [pt_r 2 0, pt_i x1] M (some (pt_i 1)) M :=
  rX6_placeByTape_45 (Nat.le_of_ble_eq_true rfl) rfl (gX6_placeByTape_0_6 x1 r M2 M3 M h1)
theorem rX6_sweptByTape_30 {vs : List pt_V} {M M' : pt_M} {x : Int32} {L : List (Nat × pt_V)} (hn : narrow .boolean (.int x) = .int x) (hvs : (vs.map pt_w).sum ≤ 3) (hX : M'.2.2.2.2 = M.2.2.2.2) (h : pt_Go YX6_sweptByTape (0, pt_en 0 vs, [], M) (30, L, [pt_i x], M')) : pt_Does yX6_sweptByTape YX6_sweptByTape vs M (some (pt_i x)) M' := pt_does_go tX6_sweptByTape_ok nX6_sweptByTape hvs hX ⟨_, by with_unfolding_all rfl, rfl, _, rfl, hn⟩ h
theorem rX6_sweptByTape_49 {vs : List pt_V} {M M' : pt_M} {x : Int32} {L : List (Nat × pt_V)} (hn : narrow .boolean (.int x) = .int x) (hvs : (vs.map pt_w).sum ≤ 3) (hX : M'.2.2.2.2 = M.2.2.2.2) (h : pt_Go YX6_sweptByTape (0, pt_en 0 vs, [], M) (49, L, [pt_i x], M')) : pt_Does yX6_sweptByTape YX6_sweptByTape vs M (some (pt_i x)) M' := pt_does_go tX6_sweptByTape_ok nX6_sweptByTape hvs hX ⟨_, by with_unfolding_all rfl, rfl, _, rfl, hn⟩ h
set_option maxRecDepth 100000 in
theorem gX6_sweptByTape_0_1 (x1 : Int32) (x2 : Int32) (M2 : pt_M) (M3 : pt_M) (M : pt_M) (h1 : sl_P x1) (h2 : sz_P x2) (h3 : pt_Does yX3_read YX3_read [pt_r 6 0, pt_r 4 0, pt_i x2] M (some (pt_i 1)) M2) (h4 : pt_Does yX3_fill YX3_fill [pt_r 6 0, pt_r 3 (pt_R M2 0), pt_i x2] M2 none M3) (h5 : kp_P M3 x1) :
    pt_Go YX6_sweptByTape (0, [(0, pt_r 2 0), (1, pt_i x1), (2, pt_i x2)], [], M)
      (49, [(0, pt_r 2 0), (1, pt_i x1), (2, pt_i x2)], [pt_i 1], (kp_M M3 x1)) :=
  pt_run_ok tX6_sweptByTape_ok 23 [.inr (1, some (pt_i 1), M), .inl false, .inr (1, some (pt_i 1), M), .inl false, .inr (3, some (pt_i 1), M2), .inl true, .inr (3, none, M3), .inr (2, none, (kp_M M3 x1))] (P := pt_Cal YX6_sweptByTape (.invokestatic 75) [pt_i x1] M (some (pt_i 1)) M ∧ (¬ (1 : Int32) = (0 : Int32)) ∧ pt_Cal YX6_sweptByTape (.invokestatic 79) [pt_i x2] M (some (pt_i 1)) M ∧ (¬ (1 : Int32) = (0 : Int32)) ∧ pt_Cal YX6_sweptByTape (.invokevirtual 221) [pt_r 6 0, pt_r 4 0, pt_i x2] M (some (pt_i 1)) M2 ∧ (¬ (1 : Int32) = (0 : Int32)) ∧ pt_Cal YX6_sweptByTape (.invokevirtual 225) [pt_r 6 0, pt_r 3 (pt_R M2 0), pt_i x2] M2 none M3 ∧ pt_Cal YX6_sweptByTape (.invokevirtual 88) [pt_r 2 0, pt_i x1] M3 none (kp_M M3 x1) ∧ True) (by with_unfolding_all rfl) ⟨(pt_callS kX6_sweptByTape_75 mX6_isSlot rfl (dX6_isSlot_1 h1)), (by decide), (pt_callS kX6_sweptByTape_79 mX6_isSize rfl (dX6_isSize_1 h2)), (by decide), (pt_callV (i := 0) kX6_sweptByTape_221 mX3_read rfl (by decide) rfl h3), (by decide), (pt_callV (i := 0) kX6_sweptByTape_225 mX3_fill rfl (by decide) rfl h4), (pt_callV (i := 0) kX6_sweptByTape_88 mX6_keepSpare rfl (by decide) rfl (dX6_keepSpare h5)), trivial⟩
set_option maxRecDepth 100000 in
theorem gX6_sweptByTape_0_2 (x1 : Int32) (x2 : Int32) (M2 : pt_M) (M3 : pt_M) (M : pt_M) (h1 : sl_P x1) (h2 : sz_P x2) (h3 : pt_Does yX3_read YX3_read [pt_r 6 0, pt_r 4 0, pt_i x2] M (some (pt_i 0)) M2) :
    pt_Go YX6_sweptByTape (0, [(0, pt_r 2 0), (1, pt_i x1), (2, pt_i x2)], [], M)
      (30, [(0, pt_r 2 0), (1, pt_i x1), (2, pt_i x2)], [pt_i 0], M2) :=
  pt_run_ok tX6_sweptByTape_ok 14 [.inr (1, some (pt_i 1), M), .inl false, .inr (1, some (pt_i 1), M), .inl false, .inr (3, some (pt_i 0), M2), .inl false] (P := pt_Cal YX6_sweptByTape (.invokestatic 75) [pt_i x1] M (some (pt_i 1)) M ∧ (¬ (1 : Int32) = (0 : Int32)) ∧ pt_Cal YX6_sweptByTape (.invokestatic 79) [pt_i x2] M (some (pt_i 1)) M ∧ (¬ (1 : Int32) = (0 : Int32)) ∧ pt_Cal YX6_sweptByTape (.invokevirtual 221) [pt_r 6 0, pt_r 4 0, pt_i x2] M (some (pt_i 0)) M2 ∧ ((0 : Int32) = (0 : Int32)) ∧ True) (by with_unfolding_all rfl) ⟨(pt_callS kX6_sweptByTape_75 mX6_isSlot rfl (dX6_isSlot_1 h1)), (by decide), (pt_callS kX6_sweptByTape_79 mX6_isSize rfl (dX6_isSize_1 h2)), (by decide), (pt_callV (i := 0) kX6_sweptByTape_221 mX3_read rfl (by decide) rfl h3), (by decide), trivial⟩
set_option maxRecDepth 100000 in
theorem gX6_sweptByTape_0_3 (x1 : Int32) (x2 : Int32) (M2 : pt_M) (M3 : pt_M) (M : pt_M) (h1 : sl_P x1) (h2 : ¬ sz_P x2) :
    pt_Go YX6_sweptByTape (0, [(0, pt_r 2 0), (1, pt_i x1), (2, pt_i x2)], [], M)
      (30, [(0, pt_r 2 0), (1, pt_i x1), (2, pt_i x2)], [pt_i 0], M) :=
  pt_run_ok tX6_sweptByTape_ok 7 [.inr (1, some (pt_i 1), M), .inl false, .inr (1, some (pt_i 0), M), .inl true] (P := pt_Cal YX6_sweptByTape (.invokestatic 75) [pt_i x1] M (some (pt_i 1)) M ∧ (¬ (1 : Int32) = (0 : Int32)) ∧ pt_Cal YX6_sweptByTape (.invokestatic 79) [pt_i x2] M (some (pt_i 0)) M ∧ ((0 : Int32) = (0 : Int32)) ∧ True) (by with_unfolding_all rfl) ⟨(pt_callS kX6_sweptByTape_75 mX6_isSlot rfl (dX6_isSlot_1 h1)), (by decide), (pt_callS kX6_sweptByTape_79 mX6_isSize rfl (dX6_isSize_0 h2)), (by decide), trivial⟩
set_option maxRecDepth 100000 in
theorem gX6_sweptByTape_0_4 (x1 : Int32) (x2 : Int32) (M2 : pt_M) (M3 : pt_M) (M : pt_M) (h1 : ¬ sl_P x1) :
    pt_Go YX6_sweptByTape (0, [(0, pt_r 2 0), (1, pt_i x1), (2, pt_i x2)], [], M)
      (30, [(0, pt_r 2 0), (1, pt_i x1), (2, pt_i x2)], [pt_i 0], M) :=
  pt_run_ok tX6_sweptByTape_ok 4 [.inr (1, some (pt_i 0), M), .inl true] (P := pt_Cal YX6_sweptByTape (.invokestatic 75) [pt_i x1] M (some (pt_i 0)) M ∧ ((0 : Int32) = (0 : Int32)) ∧ True) (by with_unfolding_all rfl) ⟨(pt_callS kX6_sweptByTape_75 mX6_isSlot rfl (dX6_isSlot_0 h1)), (by decide), trivial⟩
theorem dX6_sweptByTape_p1 (x1 : Int32) (x2 : Int32) (M2 : pt_M) (M3 : pt_M) (M : pt_M) (h1 : sl_P x1) (h2 : sz_P x2) (h3 : pt_Does yX3_read YX3_read [pt_r 6 0, pt_r 4 0, pt_i x2] M (some (pt_i 1)) M2) (h4 : pt_Does yX3_fill YX3_fill [pt_r 6 0, pt_r 3 (pt_R M2 0), pt_i x2] M2 none M3) (h5 : kp_P M3 x1) : pt_Does yX6_sweptByTape YX6_sweptByTape [pt_r 2 0, pt_i x1, pt_i x2] M (some (pt_i 1)) (kp_M M3 x1) :=
  rX6_sweptByTape_49 pt_nar1 (Nat.le_of_ble_eq_true rfl) ((dX_x5 h4).trans (dX_x5 h3)) (gX6_sweptByTape_0_1 x1 x2 M2 M3 M h1 h2 h3 h4 h5)
theorem dX6_sweptByTape_p2 (x1 : Int32) (x2 : Int32) (M2 : pt_M) (M3 : pt_M) (M : pt_M) (h1 : sl_P x1) (h2 : sz_P x2) (h3 : pt_Does yX3_read YX3_read [pt_r 6 0, pt_r 4 0, pt_i x2] M (some (pt_i 0)) M2) : pt_Does yX6_sweptByTape YX6_sweptByTape [pt_r 2 0, pt_i x1, pt_i x2] M (some (pt_i 0)) M2 :=
  rX6_sweptByTape_30 pt_nar0 (Nat.le_of_ble_eq_true rfl) (dX_x5 h3) (gX6_sweptByTape_0_2 x1 x2 M2 M3 M h1 h2 h3)
theorem dX6_sweptByTape_p3 (x1 : Int32) (x2 : Int32) (M2 : pt_M) (M3 : pt_M) (M : pt_M) (h1 : sl_P x1) (h2 : ¬ sz_P x2) : pt_Does yX6_sweptByTape YX6_sweptByTape [pt_r 2 0, pt_i x1, pt_i x2] M (some (pt_i 0)) M :=
  rX6_sweptByTape_30 pt_nar0 (Nat.le_of_ble_eq_true rfl) rfl (gX6_sweptByTape_0_3 x1 x2 M2 M3 M h1 h2)
theorem dX6_sweptByTape_p4 (x1 : Int32) (x2 : Int32) (M2 : pt_M) (M3 : pt_M) (M : pt_M) (h1 : ¬ sl_P x1) : pt_Does yX6_sweptByTape YX6_sweptByTape [pt_r 2 0, pt_i x1, pt_i x2] M (some (pt_i 0)) M :=
  rX6_sweptByTape_30 pt_nar0 (Nat.le_of_ble_eq_true rfl) rfl (gX6_sweptByTape_0_4 x1 x2 M2 M3 M h1)
/-! System.arraycopy into OUT; setOut -/
def cy_P (k : Nat) (x : Int32) (N : Nat) : Prop := x = nI N ∧ N ≤ (if k = 16 then 45 else 120)
set_option maxRecDepth 100000 in
theorem pt_ckcy : (pt_wi 451 (Cond.methodLink RX6 278 arraycopyName) && (pt_wi 453 (Cond.native arraycopyName) && (pt_wi 452 (Cond.static arraycopyName) && pt_wi 67 (Cond.initialized "java/lang/System")))) = true := by decide +kernel
theorem pt_copyW {p : Program} {l : Launch} {e : Env} {R : Room} {s : State} {m : MethodId} {args : Array Value} {below : List Frame} {meth : Method} {c : Code} {H : Heap} {locs : List Loc} {cells slots : Nat} {Q : State → Prop} {pc : Nat} {ls : Array Slot} {rest : List Value} {A : Nat → Prop} {D : va_G} {cA : Nat → ClassId} {cc : ByteArray} {a0 a n0 n1 N : Nat} {f g : Nat → Int32} (hexec : p.tables.exec = Jvm.exec) (hb : c.code = cc) (hml : c.maxLocals = ls.size) (hown : s.vm.findClass RX6 = some m.cls)
    (hlink : (Cond.methodLink RX6 278 arraycopyName).before args s = true) (hnat : (Cond.native arraycopyName).before args s = true) (hstat : (Cond.static arraycopyName).before args s = true) (hini : (Cond.initialized "java/lang/System").before args s = true)
    (hK : va_K D vwCl [(cA 0, .int), (cA 1, .byte), (cA 2, .long), (cA 3, .object "PointTables$Table")] s) (hS : va_S A s.heap H locs) (h0 : va_at D vwCl (a0, .inl (cA 0, n0, .inl f)) H) (h1 : va_at D vwCl (a, .inl (cA 0, n1, .inl g)) H) (hAa : A a) (e0 : N ≤ n0) (e1 : N ≤ n1) (hN : N < 2 ^ 31)
    (hframes : 1 ≤ R.frames) (hlocals : (rest.map fun v => v.category).sum + (nativeFrameWords "java/lang/System" "arraycopy" 5 + 11) ≤ R.locals) (hdg : decode cc pc = .ok (.invokestatic 278, 3))
    (kk : ∀ (H1 : Heap) (locs1 : List Loc), va_at D vwCl (a, .inl (cA 0, n1, .inl (va_cpy f g 0 0 N))) H1 → (∀ q, q ≠ a → H1[q]? = H[q]?) → va_S A s.heap H1 locs1 → W p l e R s m args below meth c H1 locs1 cells slots Q (F0 m (pc + 3) ls rest)) : W p l e R s m args below meth c H locs cells slots Q (F0 m pc ls (.int (nI N) :: .int 0 :: .ref a :: .int 0 :: .ref a0 :: rest)) := by
  have hNI : (nI N).toInt = (N : Int) := nI_toInt hN
  have hc : (nI N).toNatClampNeg = N := pt_nt_nI hN
  intro T hT X
  have hc0 : H[a0]? = some (vp_cell (cA 0) (n0, .inl f)) := h0
  have hc1 : H[a]? = some (vp_cell (cA 0) (n1, .inl g)) := h1
  obtain ⟨-, k0, hk0, cm0, hkk0⟩ := (hK.2 0 _ rfl).1 n0 (fun j => .int (f j))
  obtain ⟨-, k1, hk1, cm1, hkk1⟩ := (hK.2 0 _ rfl).1 n1 (fun j => .int (g j))
  obtain ⟨vm', X', step⟩ := X.arraycopy hexec hown hlink hnat hstat hini (src := a0) (dst := a) (cs := vp_cell (cA 0) (n0, .inl f)) (cd := vp_cell (cA 0) (n1, .inl g)) (srcPos := 0) (destPos := 0) (n := nI N) (by rw [hT]; exact hc0) (by rw [hT]; exact hc1)
    (fun _ h => by cases h) (fun _ h => by cases h) (fun h => by cases h) (fun h => by cases h) hk0 hk1 hkk0 hkk1 (by simp [refKind]) (by decide) (by decide) (nI_pos hN)
    (by rw [hNI]; show ¬ (0 : Int) + _ > ((arrV (cA 0) n0 (fun j => .int (f j))).slots.size : Int); rw [arrV_size]; omega)
    (by rw [hNI]; show ¬ (0 : Int) + _ > ((arrV (cA 0) n1 (fun j => .int (g j))).slots.size : Int); rw [arrV_size]; omega)
    (fun vm₁ _ i hi => by
      have hz : ((0 : Int32).toNatClampNeg + i) = i := Nat.zero_add i
      have ei : (vp_cell (cA 0) (n0, .inl f)).slots.getD ((0 : Int32).toNatClampNeg + i) .null = .int (f i) := by
        rw [hz]
        rw [hc] at hi
        show (arrV (cA 0) n0 (fun j => .int (f j))).slots.getD _ _ = _
        rw [Array.getD_eq_getD_getElem?, arrV_read _ _ (by omega)]
        rfl
      rw [ei]
      exact ⟨rfl, trivial⟩)
    (g := F0 m pc ls (.int (nI N) :: .int 0 :: .ref a :: .int 0 :: .ref a0 :: rest)) rfl (by rw [hml]) (rest := rest) rfl (by rw [hb]; exact hdg) hframes (by show 2 * 0 + _ + _ ≤ _; omega)
  have ec : copied (vp_cell (cA 0) (n0, .inl f)) (vp_cell (cA 0) (n1, .inl g)) 0 0 (nI N) = vp_cell (cA 0) (n1, .inl (va_cpy f g (0 : Int32).toNatClampNeg (0 : Int32).toNatClampNeg (nI N).toNatClampNeg)) := va_copied (fun z => Value.int z) (cA 0) (cA 0) f g (show (0 : Int32).toNatClampNeg + (nI N).toNatClampNeg ≤ n0 by rw [hc]; exact (Nat.zero_add N).symm ▸ e0)
  rw [hc, show (0 : Int32).toNatClampNeg = 0 from rfl] at ec
  rw [ec] at X' step
  have hl : a < H.size := (Array.getElem?_eq_some_iff.mp hc1).1
  have hheap : ((T.setVm vm').setCell a (vp_cell (cA 0) (n1, .inl (va_cpy f g 0 0 N)))).heap = H.setIfInBounds a (vp_cell (cA 0) (n1, .inl (va_cpy f g 0 0 N))) := by rw [← hT]; rfl
  have oq : ∀ q : Nat, q ≠ a → (H.setIfInBounds a (vp_cell (cA 0) (n1, .inl (va_cpy f g 0 0 N))))[q]? = H[q]? := fun q hq => by simp [Array.getElem?_setIfInBounds, Ne.symm hq]
  obtain ⟨t, a1, b1⟩ := kk _ _ (show (H.setIfInBounds a _)[a]? = some _ by simp [Array.getElem?_setIfInBounds, hl]) oq ⟨by simp; exact hS.1, fun q g1 g2 => by
      rw [oq q (fun e => g2 (by rw [e]; exact hAa))]
      exact hS.2.1 q g1 g2, fun q hq => by
      rcases List.mem_append.mp hq with h | h
      · exact hS.2.2 q h
      · obtain ⟨z, -, hz⟩ := List.mem_map.mp h
        rw [← hz]
        exact hAa⟩ _ hheap X'
  exact ⟨t, step t a1, b1⟩
theorem pt_dcy : decode cX6_setOut 29 = .ok (.invokestatic 278, 3) := by decide +kernel
theorem pt_copy {k i n N : Nat} {L : List (Nat × pt_V)} {M : pt_M} (ha : pt_ak k = some (0, n)) (hi : i < pt_ct k) (hN : N ≤ n) (hN2 : N ≤ 120) : pt_Go YX6_setOut (29, L, [pt_i (nI N), pt_i 0, pt_r 20 0, pt_i 0, pt_r k i], M) (32, L, [], pt_wA M 20 0 (co_F (pt_A M 20 0) (pt_A M k i) N)) := by
  obtain ⟨k, rfl⟩ := pt_ak0 ha
  intro p l e s m args below meth c D ad cA A cells slots Q hC hA H locs ls g1 g2 g3 g4
  obtain ⟨hx, hb, hr, hml, hown, hts, hlk, hW, hAd⟩ := hC
  have hck := pt_ckcy
  simp only [Bool.and_eq_true] at hck
  obtain ⟨k1, k2, k3, k4⟩ := hck
  have hce := pt_ce_a (ad := ad) (cA := cA) (M := M) (i := i) (pt_ob_ak ha) ha (by decide)
  have ha2 : pt_ak 20 = some (0, 120) := rfl
  have hi2 : 0 < pt_ct 20 := by decide
  have hce2 := pt_ce_a (ad := ad) (cA := cA) (M := M) (i := 0) (pt_ob_ak ha2) ha2 (by decide)
  have hdm := pt_dm_of hi2 hce2
  refine pt_copyW hx hb (hml.trans g4.1.symm) hown (hts _ (pt_wi_ok k1)) (hts _ (pt_wi_ok k2)) (hts _ (pt_wi_ok k3)) (hts _ (pt_wi_ok k4)) hW.1 g3 (g1 _ _ _ hi hce) (g1 _ _ _ hi2 hce2) (hAd _ _ hdm) hN hN2 (by omega) (by decide) (show 0 + (nativeFrameWords "java/lang/System" "arraycopy" 5 + 11) ≤ 21 by decide) pt_dcy fun H1 locs1 e1 e2 e3 => ?_
  refine hA H1 locs1 ls ?_ g2 e3 g4
  refine g1.put hW hdm (pt_ce_a (pt_ob_ak ha2) ha2 (by decide)) ?_ e2 (fun k' i' _ h => pt_ce_wA h)
  rw [pt_A_wA]
  have : co_F (pt_A M 20 0) (pt_A M (k + 1) i) N = va_cpy (pt_A M (k + 1) i) (pt_A M 20 0) 0 0 N := by
    funext q
    show (if q < N then _ else _) = if 0 ≤ q ∧ q < 0 + N then _ else _
    by_cases c : q < N
    · rw [if_pos c, if_pos ⟨Nat.zero_le q, by omega⟩, Nat.zero_add, Nat.sub_zero]
    · rw [if_neg c, if_neg (by omega)]
  rw [this]
  exact e1
/-! OUT -/
def ou_M (M : pt_M) (k i N : Nat) : pt_M := pt_wA (pt_wF M 2 6 0 (nI N)) 20 0 (co_F (pt_A M 20 0) (pt_A M k i) N)
theorem mi_le {N n : Nat} (h : N ≤ n) (hn : n < 2 ^ 31) : mi_F (nI N) (nI n) = nI N := if_neg (nI_nlt h hn)
theorem mi_ge {N n : Nat} (h : n < N) (hN : N < 2 ^ 31) : mi_F (nI N) (nI n) = nI n := if_pos ((nI_ltI (by omega) hN).mpr h)
theorem rX6_setOut_32 {vs : List pt_V} {M M' : pt_M} {L : List (Nat × pt_V)} (hvs : (vs.map pt_w).sum ≤ 3) (hX : M'.2.2.2.2 = M.2.2.2.2) (h : pt_Go YX6_setOut (0, pt_en 0 vs, [], M) (32, L, [], M')) : pt_Does yX6_setOut YX6_setOut vs M none M' := pt_does_go tX6_setOut_ok nX6_setOut hvs hX ⟨_, by with_unfolding_all rfl, rfl, rfl⟩ h
set_option maxRecDepth 100000 in
theorem gX6_setOut12_0_1 (u : Nat) (x : Int32)  (M : pt_M) (h1 : u < 7) :
    pt_Go YX6_setOut (0, [(0, pt_r 2 0), (1, pt_r 12 u), (2, pt_i x)], [], M)
      (29, [], [pt_i (pt_F (pt_wF M 2 6 0 (mi_F x (mi_F (nI 120) (nI 120)))) 2 6 0), pt_i 0, pt_r 20 0, pt_i 0, pt_r 12 u], (pt_wF M 2 6 0 (mi_F x (mi_F (nI 120) (nI 120))))) :=
  (pt_run_ok tX6_setOut_ok 17 [.inr (2, some (pt_i (mi_F (nI 120) (nI 120))), M), .inr (2, some (pt_i (mi_F x (mi_F (nI 120) (nI 120)))), M)] (P := (u < 7) ∧ pt_Cal YX6_setOut (.invokestatic 275) [pt_i (nI 120), pt_i (nI 120)] M (some (pt_i (mi_F (nI 120) (nI 120)))) M ∧ pt_Cal YX6_setOut (.invokestatic 275) [pt_i x, pt_i (mi_F (nI 120) (nI 120))] M (some (pt_i (mi_F x (mi_F (nI 120) (nI 120))))) M ∧ True) (by with_unfolding_all rfl) ⟨h1, (pt_callS kX6_setOut_275 mJ9_min_7cf53 rfl (dJ9_min (nI 120) (nI 120) M)), (pt_callS kX6_setOut_275 mJ9_min_7cf53 rfl (dJ9_min x (mi_F (nI 120) (nI 120)) M)), trivial⟩ : pt_Go YX6_setOut _ (29, [(0, pt_r 2 0), (1, pt_r 12 u), (2, pt_i x)], [pt_i (pt_F (pt_wF M 2 6 0 (mi_F x (mi_F (nI 120) (nI 120)))) 2 6 0), pt_i 0, pt_r 20 0, pt_i 0, pt_r 12 u], (pt_wF M 2 6 0 (mi_F x (mi_F (nI 120) (nI 120)))))).tr (pt_pick [] (by with_unfolding_all rfl))
set_option maxRecDepth 100000 in
theorem gX6_setOut13_0_1 (u : Nat) (x : Int32)  (M : pt_M) (h1 : u < 7) :
    pt_Go YX6_setOut (0, [(0, pt_r 2 0), (1, pt_r 13 u), (2, pt_i x)], [], M)
      (29, [], [pt_i (pt_F (pt_wF M 2 6 0 (mi_F x (mi_F (nI 120) (nI 120)))) 2 6 0), pt_i 0, pt_r 20 0, pt_i 0, pt_r 13 u], (pt_wF M 2 6 0 (mi_F x (mi_F (nI 120) (nI 120))))) :=
  (pt_run_ok tX6_setOut_ok 17 [.inr (2, some (pt_i (mi_F (nI 120) (nI 120))), M), .inr (2, some (pt_i (mi_F x (mi_F (nI 120) (nI 120)))), M)] (P := (u < 7) ∧ pt_Cal YX6_setOut (.invokestatic 275) [pt_i (nI 120), pt_i (nI 120)] M (some (pt_i (mi_F (nI 120) (nI 120)))) M ∧ pt_Cal YX6_setOut (.invokestatic 275) [pt_i x, pt_i (mi_F (nI 120) (nI 120))] M (some (pt_i (mi_F x (mi_F (nI 120) (nI 120))))) M ∧ True) (by with_unfolding_all rfl) ⟨h1, (pt_callS kX6_setOut_275 mJ9_min_7cf53 rfl (dJ9_min (nI 120) (nI 120) M)), (pt_callS kX6_setOut_275 mJ9_min_7cf53 rfl (dJ9_min x (mi_F (nI 120) (nI 120)) M)), trivial⟩ : pt_Go YX6_setOut _ (29, [(0, pt_r 2 0), (1, pt_r 13 u), (2, pt_i x)], [pt_i (pt_F (pt_wF M 2 6 0 (mi_F x (mi_F (nI 120) (nI 120)))) 2 6 0), pt_i 0, pt_r 20 0, pt_i 0, pt_r 13 u], (pt_wF M 2 6 0 (mi_F x (mi_F (nI 120) (nI 120)))))).tr (pt_pick [] (by with_unfolding_all rfl))
set_option maxRecDepth 100000 in
theorem gX6_setOut16_0_1 (x : Int32)  (M : pt_M) :
    pt_Go YX6_setOut (0, [(0, pt_r 2 0), (1, pt_r 16 0), (2, pt_i x)], [], M)
      (29, [], [pt_i (pt_F (pt_wF M 2 6 0 (mi_F x (mi_F (nI 45) (nI 120)))) 2 6 0), pt_i 0, pt_r 20 0, pt_i 0, pt_r 16 0], (pt_wF M 2 6 0 (mi_F x (mi_F (nI 45) (nI 120))))) :=
  (pt_run_ok tX6_setOut_ok 17 [.inr (2, some (pt_i (mi_F (nI 45) (nI 120))), M), .inr (2, some (pt_i (mi_F x (mi_F (nI 45) (nI 120)))), M)] (P := pt_Cal YX6_setOut (.invokestatic 275) [pt_i (nI 45), pt_i (nI 120)] M (some (pt_i (mi_F (nI 45) (nI 120)))) M ∧ pt_Cal YX6_setOut (.invokestatic 275) [pt_i x, pt_i (mi_F (nI 45) (nI 120))] M (some (pt_i (mi_F x (mi_F (nI 45) (nI 120))))) M ∧ True) (by with_unfolding_all rfl) ⟨(pt_callS kX6_setOut_275 mJ9_min_7cf53 rfl (dJ9_min (nI 45) (nI 120) M)), (pt_callS kX6_setOut_275 mJ9_min_7cf53 rfl (dJ9_min x (mi_F (nI 45) (nI 120)) M)), trivial⟩ : pt_Go YX6_setOut _ (29, [(0, pt_r 2 0), (1, pt_r 16 0), (2, pt_i x)], [pt_i (pt_F (pt_wF M 2 6 0 (mi_F x (mi_F (nI 45) (nI 120)))) 2 6 0), pt_i 0, pt_r 20 0, pt_i 0, pt_r 16 0], (pt_wF M 2 6 0 (mi_F x (mi_F (nI 45) (nI 120)))))).tr (pt_pick [] (by with_unfolding_all rfl))
theorem dX6_setOut_12 {u N : Nat} {M : pt_M} (hu : u < 7) (hN : N ≤ 120) : pt_Does yX6_setOut YX6_setOut [pt_r 2 0, pt_r 12 u, pt_i (nI N)] M none (ou_M M 12 u N) := by
  have e : mi_F (nI N) (mi_F (nI 120) (nI 120)) = nI N := by rw [mi_le (show 120 ≤ 120 by decide) (by decide), mi_le hN (by decide)]
  have g := gX6_setOut12_0_1 u (nI N) M hu
  have ef : pt_F (pt_wF M 2 6 0 (nI N)) 2 6 0 = nI N := by rw [pt_F_wF]; exact if_pos ⟨rfl, rfl, rfl⟩
  rw [e, ef] at g
  exact rX6_setOut_32 (Nat.le_of_ble_eq_true rfl) rfl (g.tr (pt_copy rfl hu hN (by omega)))
theorem dX6_setOut_t12 {u N : Nat} {x : Int32} {M : pt_M} (h : cy_P 12 x N) (hu : u < 7) : pt_Does yX6_setOut YX6_setOut [pt_r 2 0, pt_r 12 u, pt_i x] M none (ou_M M 12 u N) := by
  obtain ⟨rfl, h2⟩ := h
  exact dX6_setOut_12 hu h2
theorem dX6_setOut_13 {u N : Nat} {M : pt_M} (hu : u < 7) (hN : N ≤ 120) : pt_Does yX6_setOut YX6_setOut [pt_r 2 0, pt_r 13 u, pt_i (nI N)] M none (ou_M M 13 u N) := by
  have e : mi_F (nI N) (mi_F (nI 120) (nI 120)) = nI N := by rw [mi_le (show 120 ≤ 120 by decide) (by decide), mi_le hN (by decide)]
  have g := gX6_setOut13_0_1 u (nI N) M hu
  have ef : pt_F (pt_wF M 2 6 0 (nI N)) 2 6 0 = nI N := by rw [pt_F_wF]; exact if_pos ⟨rfl, rfl, rfl⟩
  rw [e, ef] at g
  exact rX6_setOut_32 (Nat.le_of_ble_eq_true rfl) rfl (g.tr (pt_copy rfl hu hN (by omega)))
theorem dX6_setOut_t13 {u N : Nat} {x : Int32} {M : pt_M} (h : cy_P 13 x N) (hu : u < 7) : pt_Does yX6_setOut YX6_setOut [pt_r 2 0, pt_r 13 u, pt_i x] M none (ou_M M 13 u N) := by
  obtain ⟨rfl, h2⟩ := h
  exact dX6_setOut_13 hu h2
theorem dX6_setOut_16 {N : Nat} {M : pt_M} (hN : N ≤ 45) : pt_Does yX6_setOut YX6_setOut [pt_r 2 0, pt_r 16 0, pt_i (nI N)] M none (ou_M M 16 0 N) := by
  have e : mi_F (nI N) (mi_F (nI 45) (nI 120)) = nI N := by rw [mi_le (show 45 ≤ 120 by decide) (by decide), mi_le hN (by decide)]
  have g := gX6_setOut16_0_1 (nI N) M
  have ef : pt_F (pt_wF M 2 6 0 (nI N)) 2 6 0 = nI N := by rw [pt_F_wF]; exact if_pos ⟨rfl, rfl, rfl⟩
  rw [e, ef] at g
  exact rX6_setOut_32 (Nat.le_of_ble_eq_true rfl) rfl (g.tr (pt_copy rfl (by decide) hN (by omega)))
theorem dX6_setOut_t16 {N : Nat} {x : Int32} {M : pt_M} (h : cy_P 16 x N) : pt_Does yX6_setOut YX6_setOut [pt_r 2 0, pt_r 16 0, pt_i x] M none (ou_M M 16 0 N) := by
  obtain ⟨rfl, h2⟩ := h
  exact dX6_setOut_16 h2
