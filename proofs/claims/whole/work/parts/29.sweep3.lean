/-! Sweeper.find, read -/
def sN_F (n : Nat) : Nat := n * (n - 1) / 2
theorem so_tab : ((List.range 11).all fun n => decide (so_F (nI n) = nI (sN_F n)) && decide (sN_F n ≤ 45)) = true := by decide +kernel
theorem so_nI {n : Nat} (hn : n ≤ 10) : so_F (nI n) = nI (sN_F n) ∧ sN_F n ≤ 45 := by
  have h := pt_all so_tab (i := n) (by omega)
  simp only [Bool.and_eq_true, decide_eq_true_eq] at h
  exact h
theorem so_of {M : pt_M} {n : Nat} (hn : n ≤ 10) (h : ∀ p, p < n → (∃ v, v < n ∧ pt_A M 17 0 p = nI v) ∧ ∃ w, w < 1024 ∧ pt_A M 18 0 p = nI w) : so_P M n := by
  intro p hp
  obtain ⟨⟨v, hv, e1⟩, w, hw, e2⟩ := h p hp
  unfold og_F sg_F
  rw [e1, e2, pt_nt_nI (by omega), pt_nt_nI (by omega)]
  exact ⟨rfl, hv, rfl, hw⟩
theorem sa_17 {M : pt_M} {q : Nat} (hq : q + 1 < 2 ^ 31) : pt_A (sa_M M (nI q)) 17 0 = upd (upd (pt_A M 17 0) q (pt_A M 17 0 (q + 1))) (q + 1) (pt_A M 17 0 q) := by
  unfold sa_M
  rw [pt_A_wA, nI_1, pt_nt_nI hq, pt_nt_nI (by omega)]
theorem sa_18 {M : pt_M} {n q : Nat} (hn : n ≤ 10) (h : so_P M n) (hq : q + 1 < n) : pt_A (sa_M M (nI q)) 18 0 = fun p => if p = og_F M (q + 1) then nI ((if og_F M (q + 1) = og_F M q then sg_F M (og_F M q) ||| 2 ^ og_F M (q + 1) else sg_F M (og_F M (q + 1))) ||| 2 ^ og_F M q) else if p = og_F M q then nI (sg_F M (og_F M q) ||| 2 ^ og_F M (q + 1)) else pt_A M 18 0 p := by
  obtain ⟨a1, a2, -, -⟩ := h q (by omega)
  obtain ⟨b1, b2, -, -⟩ := h (q + 1) hq
  generalize hoa : og_F M q = a at *
  generalize hob : og_F M (q + 1) = b at *
  obtain ⟨-, -, c1, c2⟩ := h a a2
  obtain ⟨-, -, d1, d2⟩ := h b b2
  have e : pt_A (sa_M M (nI q)) 18 0 = upd (upd (pt_A M 18 0) a (pt_A M 18 0 a ||| ((1 : Int32) <<< (nI b &&& 31)))) b (upd (pt_A M 18 0) a (pt_A M 18 0 a ||| ((1 : Int32) <<< (nI b &&& 31))) b ||| ((1 : Int32) <<< (nI a &&& 31))) := by
    unfold sa_M
    rw [pt_A_wA', if_neg (fun z => absurd z.1 (by decide)), pt_A_wA, nI_1, pt_nt_nI (show q < 2 ^ 31 by omega), pt_nt_nI (show q + 1 < 2 ^ 31 by omega), a1, b1, pt_nt_nI (show a < 2 ^ 31 by omega), pt_nt_nI (show b < 2 ^ 31 by omega)]
  rw [e, pt_shl1 b (by omega), pt_shl1 a (by omega), c1, pt_or]
  funext p
  unfold upd
  by_cases e1 : p = b
  · rw [if_pos e1, if_pos e1]
    by_cases e2 : b = a
    · rw [if_pos e2, if_pos e2, pt_or]
    · rw [if_neg e2, if_neg e2, d1, pt_or]
  · rw [if_neg e1, if_neg e1]
theorem sa_so {M : pt_M} {n q : Nat} (hn : n ≤ 10) (h : so_P M n) (hq : q + 1 < n) : so_P (sa_M M (nI q)) n := by
  obtain ⟨a1, a2, -, -⟩ := h q (by omega)
  obtain ⟨b1, b2, -, -⟩ := h (q + 1) hq
  have q1 : ∀ a, a < n → 2 ^ a < 2 ^ 10 := fun a ha => p2_lt (by omega)
  refine so_of hn fun p hp => ?_
  obtain ⟨p1, p2, p3, p4⟩ := h p hp
  constructor
  · rw [sa_17 (by omega)]
    unfold upd
    split
    · exact ⟨_, a2, a1⟩
    · split
      · exact ⟨_, b2, b1⟩
      · exact ⟨_, p2, p1⟩
  · rw [sa_18 hn h hq]
    dsimp only
    split
    · refine ⟨_, Nat.or_lt_two_pow (n := 10) ?_ (q1 _ a2), rfl⟩
      split
      · exact Nat.or_lt_two_pow (h _ a2).2.2.2 (q1 _ b2)
      · exact (h _ b2).2.2.2
    · split
      · exact ⟨_, Nat.or_lt_two_pow (n := 10) (h _ a2).2.2.2 (q1 _ b2), rfl⟩
      · exact ⟨_, p4, p3⟩
/-- what stays under the sweeper's work -/
def ks_P (M M' : pt_M) : Prop := pt_F M' = pt_F M ∧ (∀ k i, k ≠ 16 → k ≠ 17 → k ≠ 18 → k ≠ 19 → pt_A M' k i = pt_A M k i) ∧ M'.2.2 = M.2.2
theorem ks_P.rf {M : pt_M} : ks_P M M := ⟨rfl, fun _ _ _ _ _ _ => rfl, rfl⟩
theorem ks_P.tr {M M' M'' : pt_M} (h : ks_P M M') (h' : ks_P M' M'') : ks_P M M'' := ⟨h'.1.trans h.1, fun k i a b c d => (h'.2.1 k i a b c d).trans (h.2.1 k i a b c d), h'.2.2.trans h.2.2⟩
theorem ks_w {M : pt_M} {k i : Nat} {g : Nat → Int32} (h : k = 16 ∨ k = 17 ∨ k = 18 ∨ k = 19) : ks_P M (pt_wA M k i g) := ⟨rfl, fun k' i' a b c d => if_neg (fun z => by rcases h with rfl | rfl | rfl | rfl <;> (first | exact a z.1 | exact b z.1 | exact c z.1 | exact d z.1)), rfl⟩
theorem ks_sa {M : pt_M} {x : Int32} : ks_P M (sa_M M x) := (ks_w (by decide)).tr (ks_w (by decide))
theorem ks_sb {M : pt_M} {n : Nat} : ks_P M (sb_M M n) := (ks_w (by decide)).tr (ks_w (by decide))
theorem tb_P.ks {M M' : pt_M} {t n : Nat} {B : Nat → Nat → Nat → Bool} (h : tb_P M t n B) (hk : ks_P M M') : tb_P M' t n B := ⟨h.1, h.2.1, by rw [hk.1]; exact h.2.2.1, fun i j hi hj => by rw [hk.2.1 11 t (by decide) (by decide) (by decide) (by decide)]; exact h.2.2.2 i j hi hj⟩
theorem sb_so {M : pt_M} {n : Nat} (hn : n ≤ 10) : so_P (sb_M M n) n := so_of hn fun p hp => ⟨⟨p, hp, by show (if p < n then nI p else _) = _; rw [if_pos hp]⟩, 0, by decide, by show (if p < n then (0 : Int32) else _) = _; rw [if_pos hp]; rfl⟩
def fm_M (n : Nat) (B : Nat → Nat → Nat → Bool) (M : pt_M) : Nat → pt_M
  | 0 => M
  | k + 1 => match lp_F n B (og_F (fm_M n B M k)) (sS_F (fm_M n B M k)) with
    | none => fm_M n B M k
    | some q => sa_M (pt_wA (fm_M n B M k) 16 0 (upd (pt_A (fm_M n B M k) 16 0) k (nI q))) (nI q)
theorem lp_lt {n q : Nat} {B : Nat → Nat → Nat → Bool} {o : Nat → Nat} {S : Nat → Nat → Bool} (h : lp_F n B o S = some q) : q + 1 < n := by
  refine fs_lt (P := fun q => q + 1 < n) (fun a w h1 h2 h3 => ?_) h
  split at h3
  · cases h3
    omega
  · cases h3
theorem fm_ok {M : pt_M} {n : Nat} {B : Nat → Nat → Nat → Bool} (hn : n ≤ 10) (h : so_P M n) : ∀ k, so_P (fm_M n B M k) n ∧ ks_P M (fm_M n B M k)
  | 0 => ⟨h, ks_P.rf⟩
  | k + 1 => by
    obtain ⟨i1, i2⟩ := fm_ok (B := B) hn h k
    show so_P (match lp_F n B (og_F (fm_M n B M k)) (sS_F (fm_M n B M k)) with | none => _ | some q => _) n ∧ ks_P M (match lp_F n B (og_F (fm_M n B M k)) (sS_F (fm_M n B M k)) with | none => _ | some q => _)
    cases hl : lp_F n B (og_F (fm_M n B M k)) (sS_F (fm_M n B M k)) with
    | none => exact ⟨i1, i2⟩
    | some q => exact ⟨sa_so hn (show so_P (pt_wA _ 16 0 _) n from i1) (lp_lt hl), i2.tr ((ks_w (by decide)).tr ks_sa)⟩
theorem rX3_find_33 {vs : List pt_V} {M M' : pt_M} {x : Int32} {L : List (Nat × pt_V)} (hn : narrow .boolean (.int x) = .int x) (hvs : (vs.map pt_w).sum ≤ 4) (hX : M'.2.2.2.2 = M.2.2.2.2) (h : pt_Go YX3_find (0, pt_en 0 vs, [], M) (33, L, [pt_i x], M')) : pt_Does yX3_find YX3_find vs M (some (pt_i x)) M' := pt_does_go tX3_find_ok nX3_find hvs hX ⟨_, by with_unfolding_all rfl, rfl, _, rfl, hn⟩ h
theorem rX3_find_53 {vs : List pt_V} {M M' : pt_M} {x : Int32} {L : List (Nat × pt_V)} (hn : narrow .boolean (.int x) = .int x) (hvs : (vs.map pt_w).sum ≤ 4) (hX : M'.2.2.2.2 = M.2.2.2.2) (h : pt_Go YX3_find (0, pt_en 0 vs, [], M) (53, L, [pt_i x], M')) : pt_Does yX3_find YX3_find vs M (some (pt_i x)) M' := pt_does_go tX3_find_ok nX3_find hvs hX ⟨_, by with_unfolding_all rfl, rfl, _, rfl, hn⟩ h
set_option maxRecDepth 100000 in
theorem gX3_find_0_1 (t : Nat) (n : Nat) (B : Nat → Nat → Nat → Bool) (M : pt_M) (h1 : t < 7) (h2 : bn_P (pt_F M 3 0 t)) :
    pt_Go YX3_find (0, [(0, pt_r 6 0), (1, pt_r 3 t)], [], M)
      (10, [(0, pt_r 6 0), (1, pt_r 3 t), (2, pt_i 0)], [], (sb_M M (pt_nt (pt_F M 3 0 t)))) :=
  pt_run_ok tX3_find_ok 6 [.inr (2, none, (sb_M M (pt_nt (pt_F M 3 0 t))))] (P := (t < 7) ∧ pt_Cal YX3_find (.invokevirtual 34) [pt_r 6 0, pt_i (pt_F M 3 0 t)] M none (sb_M M (pt_nt (pt_F M 3 0 t))) ∧ True) (by with_unfolding_all rfl) ⟨h1, (pt_callV (i := 0) kX3_find_34 mX3_begin rfl (by decide) rfl (dX3_begin h2)), trivial⟩
set_option maxRecDepth 100000 in
theorem gX3_find_10_1 (t : Nat) (l2 : Int32) (n : Nat) (B : Nat → Nat → Nat → Bool) (M : pt_M) (h1 : t < 7) (h2 : ¬ (so_F (pt_F M 3 0 t)) ≤ l2) (h3 : tb_P M t n B) (h4 : so_P M n) (h5 : (lp_I n B M) = (-1)) :
    pt_Go YX3_find (10, [(0, pt_r 6 0), (1, pt_r 3 t), (2, pt_i l2)], [], M)
      (33, [(0, pt_r 6 0), (1, pt_r 3 t), (2, pt_i l2), (3, pt_i (lp_I n B M))], [pt_i 0], M) :=
  pt_run_ok tX3_find_ok 13 [.inr (1, some (pt_i (so_F (pt_F M 3 0 t))), M), .inl false, .inr (2, some (pt_i (lp_I n B M)), M), .inl false] (P := (t < 7) ∧ pt_Cal YX3_find (.invokestatic 30) [pt_i (pt_F M 3 0 t)] M (some (pt_i (so_F (pt_F M 3 0 t)))) M ∧ (¬ (so_F (pt_F M 3 0 t)) ≤ l2) ∧ pt_Cal YX3_find (.invokevirtual 54) [pt_r 6 0, pt_r 3 t] M (some (pt_i (lp_I n B M))) M ∧ ((lp_I n B M) = (-1)) ∧ True) (by with_unfolding_all rfl) ⟨h1, (pt_callN (h := "PointTables") (idx := 30) (fun _ z => z.2) kX3_find_30 mX6_swapsOf rfl (dX6_swapsOf (pt_F M 3 0 t) M)), h2, (pt_callV (i := 0) kX3_find_54 mX3_leastPlace rfl (by decide) rfl (dX3_leastPlace h3 h4)), h5, trivial⟩
set_option maxRecDepth 100000 in
theorem gX3_find_10_2 (t : Nat) (l2 : Int32) (n : Nat) (B : Nat → Nat → Nat → Bool) (M : pt_M) (h1 : t < 7) (h2 : ¬ (so_F (pt_F M 3 0 t)) ≤ l2) (h3 : tb_P M t n B) (h4 : so_P M n) (h5 : ¬ (lp_I n B M) = (-1)) (h6 : pt_in l2 45) (h7 : sa_H (pt_wA M 16 0 (upd (pt_A M 16 0) (pt_nt l2) (lp_I n B M))) (lp_I n B M)) :
    pt_Go YX3_find (10, [(0, pt_r 6 0), (1, pt_r 3 t), (2, pt_i l2)], [], M)
      (10, [(0, pt_r 6 0), (1, pt_r 3 t), (2, pt_i (l2 + 1))], [], (sa_M (pt_wA M 16 0 (upd (pt_A M 16 0) (pt_nt l2) (lp_I n B M))) (lp_I n B M))) :=
  (pt_run_ok tX3_find_ok 22 [.inr (1, some (pt_i (so_F (pt_F M 3 0 t))), M), .inl false, .inr (2, some (pt_i (lp_I n B M)), M), .inl true, .inr (2, none, (sa_M (pt_wA M 16 0 (upd (pt_A M 16 0) (pt_nt l2) (lp_I n B M))) (lp_I n B M)))] (P := (t < 7) ∧ pt_Cal YX3_find (.invokestatic 30) [pt_i (pt_F M 3 0 t)] M (some (pt_i (so_F (pt_F M 3 0 t)))) M ∧ (¬ (so_F (pt_F M 3 0 t)) ≤ l2) ∧ pt_Cal YX3_find (.invokevirtual 54) [pt_r 6 0, pt_r 3 t] M (some (pt_i (lp_I n B M))) M ∧ (¬ (lp_I n B M) = (-1)) ∧ (pt_in l2 45) ∧ pt_Cal YX3_find (.invokevirtual 41) [pt_r 6 0, pt_i (lp_I n B M)] (pt_wA M 16 0 (upd (pt_A M 16 0) (pt_nt l2) (lp_I n B M))) none (sa_M (pt_wA M 16 0 (upd (pt_A M 16 0) (pt_nt l2) (lp_I n B M))) (lp_I n B M)) ∧ True) (by with_unfolding_all rfl) ⟨h1, (pt_callN (h := "PointTables") (idx := 30) (fun _ z => z.2) kX3_find_30 mX6_swapsOf rfl (dX6_swapsOf (pt_F M 3 0 t) M)), h2, (pt_callV (i := 0) kX3_find_54 mX3_leastPlace rfl (by decide) rfl (dX3_leastPlace h3 h4)), h5, h6, (pt_callV (i := 0) kX3_find_41 mX3_swapAt rfl (by decide) rfl (dX3_swapAt h7)), trivial⟩ : pt_Go YX3_find _ (10, [(0, pt_r 6 0), (1, pt_r 3 t), (2, pt_i (l2 + 1)), (3, pt_i (lp_I n B M))], [], (sa_M (pt_wA M 16 0 (upd (pt_A M 16 0) (pt_nt l2) (lp_I n B M))) (lp_I n B M)))).tr (pt_pick [0, 1, 2] (by with_unfolding_all rfl))
set_option maxRecDepth 100000 in
theorem gX3_find_10_3 (t : Nat) (l2 : Int32) (n : Nat) (B : Nat → Nat → Nat → Bool) (M : pt_M) (h1 : t < 7) (h2 : (so_F (pt_F M 3 0 t)) ≤ l2) :
    pt_Go YX3_find (10, [(0, pt_r 6 0), (1, pt_r 3 t), (2, pt_i l2)], [], M)
      (53, [(0, pt_r 6 0), (1, pt_r 3 t), (2, pt_i l2)], [pt_i 1], M) :=
  pt_run_ok tX3_find_ok 6 [.inr (1, some (pt_i (so_F (pt_F M 3 0 t))), M), .inl true] (P := (t < 7) ∧ pt_Cal YX3_find (.invokestatic 30) [pt_i (pt_F M 3 0 t)] M (some (pt_i (so_F (pt_F M 3 0 t)))) M ∧ ((so_F (pt_F M 3 0 t)) ≤ l2) ∧ True) (by with_unfolding_all rfl) ⟨h1, (pt_callN (h := "PointTables") (idx := 30) (fun _ z => z.2) kX3_find_30 mX6_swapsOf rfl (dX6_swapsOf (pt_F M 3 0 t) M)), h2, trivial⟩
def fd_F (n : Nat) (B : Nat → Nat → Nat → Bool) (M : pt_M) : Option Nat := fs_F (sN_F n - 0) 0 fun k => if (lp_F n B (og_F (fm_M n B M k)) (sS_F (fm_M n B M k))).isNone then some k else none
theorem dX3_find {t n : Nat} {B : Nat → Nat → Nat → Bool} {M : pt_M} (h : tb_P M t n B) : (fd_F n B (sb_M M n) = none → pt_Does yX3_find YX3_find [pt_r 6 0, pt_r 3 t] M (some (pt_i 1)) (fm_M n B (sb_M M n) (sN_F n))) ∧ (∀ k, fd_F n B (sb_M M n) = some k → pt_Does yX3_find YX3_find [pt_r 6 0, pt_r 3 t] M (some (pt_i 0)) (fm_M n B (sb_M M n) k)) := by
  have ht := h.1
  have hn := h.2.1
  have hs := h.2.2.1
  obtain ⟨hso, h45⟩ := so_nI hn
  have hks : ∀ k, ks_P M (fm_M n B (sb_M M n) k) := fun k => ks_sb.tr (fm_ok (B := B) hn (sb_so hn) k).2
  have hF : ∀ k, pt_F (fm_M n B (sb_M M n) k) 3 0 t = nI n := fun k => by rw [(hks k).1]; exact hs
  have K := pt_nest (Y := YX3_find) (σ := (0, [(0, pt_r 6 0), (1, pt_r 3 t)], [], M)) (τ := (53, [], [pt_i 1], fm_M n B (sb_M M n) (sN_F n))) (R := fun k => (33, [], [pt_i 0], fm_M n B (sb_M M n) k)) (n := sN_F n) (i := 0)
    (S := fun k => (10, [(0, pt_r 6 0), (1, pt_r 3 t), (2, pt_i (nI k))], [], fm_M n B (sb_M M n) k)) (f := fun k => if (lp_F n B (og_F (fm_M n B (sb_M M n) k)) (sS_F (fm_M n B (sb_M M n) k))).isNone then some k else none)
    (Nat.zero_le _) ((gX3_find_0_1 t n B M ht ⟨n, hs, hn⟩).toM (by rw [hs, pt_nt_nI (by omega)]; rfl)) ((gX3_find_10_3 t (nI (sN_F n)) n B (fm_M n B (sb_M M n) (sN_F n)) ht (by rw [hF, hso]; exact Int32.le_refl _)).tr pt_dropA) fun k _ hk => by
      have hso' := (fm_ok (B := B) hn (sb_so (M := M) hn) k).1
      have htb := h.ks (hks k)
      have hlt : ¬ so_F (pt_F (fm_M n B (sb_M M n) k) 3 0 t) ≤ nI k := by rw [hF, hso]; exact nI_ge hk (by omega)
      cases hl : lp_F n B (og_F (fm_M n B (sb_M M n) k)) (sS_F (fm_M n B (sb_M M n) k)) with
      | none =>
        have e : lp_I n B (fm_M n B (sb_M M n) k) = -1 := by unfold lp_I; rw [hl]
        refine ⟨fun v z => ?_, fun z => by simp at z⟩
        simp only [Option.isNone_none, if_true, Option.some.injEq] at z
        subst z
        exact (gX3_find_10_1 t (nI k) n B (fm_M n B (sb_M M n) k) ht hlt htb hso' e).tr pt_dropA
      | some q =>
        have hq := lp_lt hl
        have e : lp_I n B (fm_M n B (sb_M M n) k) = nI q := by unfold lp_I; rw [hl]
        refine ⟨fun v z => by simp at z, fun _ => ?_⟩
        obtain ⟨a1, a2, -, -⟩ := hso' q (by omega)
        obtain ⟨b1, b2, -, -⟩ := hso' (q + 1) hq
        have hH : sa_H (pt_wA (fm_M n B (sb_M M n) k) 16 0 (upd (pt_A (fm_M n B (sb_M M n) k) 16 0) (pt_nt (nI k)) (lp_I n B (fm_M n B (sb_M M n) k)))) (lp_I n B (fm_M n B (sb_M M n) k)) := by
          rw [e]
          refine ⟨pt_in_nI (by omega) (by decide), by rw [nI_1]; exact pt_in_nI (by omega) (by decide), ?_, ?_⟩
          · rw [pt_A_wA', if_neg (fun z => absurd z.1 (by decide)), pt_nt_nI (by omega), a1]
            exact pt_in_nI (by omega) (by decide)
          · rw [pt_A_wA', if_neg (fun z => absurd z.1 (by decide)), nI_1, pt_nt_nI (by omega), b1]
            exact pt_in_nI (by omega) (by decide)
        refine (gX3_find_10_2 t (nI k) n B (fm_M n B (sb_M M n) k) ht hlt htb hso' (by rw [e]; exact nI_m1 (by omega)) (pt_in_nI (by omega) (by decide)) hH).to ?_
        have e2 : fm_M n B (sb_M M n) (k + 1) = sa_M (pt_wA (fm_M n B (sb_M M n) k) 16 0 (upd (pt_A (fm_M n B (sb_M M n) k) 16 0) k (nI q))) (nI q) := by
          show (match lp_F n B (og_F (fm_M n B (sb_M M n) k)) (sS_F (fm_M n B (sb_M M n) k)) with | none => _ | some q => _) = _
          rw [hl]
        rw [nI_1, e2, e, pt_nt_nI (by omega)]
  exact ⟨fun hf => rX3_find_53 rfl (Nat.le_of_ble_eq_true rfl) (by rw [(hks _).2.2]) (K.2 hf), fun k hf => rX3_find_33 rfl (Nat.le_of_ble_eq_true rfl) (by rw [(hks _).2.2]) (K.1 k hf)⟩
/-! reading a sweep off the tape -/
def rd_F (n q : Nat) (o : Nat → Nat) : Bool := decide (q + 2 ≤ n) && decide (o q ≤ o (q + 1))
def rm_M (n : Nat) (b : Nat → Nat) (M : pt_M) : Nat → pt_M
  | 0 => M
  | k + 1 => if rd_F n (b k) (og_F (rm_M n b M k)) then sa_M (pt_wA (rm_M n b M k) 19 0 (upd (pt_A (rm_M n b M k) 19 0) (10 * og_F (rm_M n b M k) (b k) + og_F (rm_M n b M k) (b k + 1)) (nI k))) (nI (b k)) else rm_M n b M k
theorem rm_ok {M : pt_M} {n : Nat} {b : Nat → Nat} (hn : n ≤ 10) (h : so_P M n) : ∀ k, so_P (rm_M n b M k) n ∧ ks_P M (rm_M n b M k)
  | 0 => ⟨h, ks_P.rf⟩
  | k + 1 => by
    obtain ⟨i1, i2⟩ := rm_ok (b := b) hn h k
    show so_P (if _ then _ else _) n ∧ ks_P M (if _ then _ else _)
    split
    · rename_i hr
      unfold rd_F at hr
      simp only [Bool.and_eq_true, decide_eq_true_eq] at hr
      exact ⟨sa_so hn (show so_P (pt_wA _ 19 0 _) n from i1) (by omega), i2.tr ((ks_w (by decide)).tr ks_sa)⟩
    · exact ⟨i1, i2⟩
/-- the tape: L bytes b -/
def tp_P (M : pt_M) (L : Nat) (b : Nat → Nat) : Prop := pt_F M 4 1 0 = nI L ∧ L ≤ 140 ∧ ∀ p, p < L → pt_A M 14 0 p = nI (b p) ∧ b p < 256
theorem tp_by {M : pt_M} {L p : Nat} {b : Nat → Nat} (h : tp_P M L b) (hp : p < L) : by_H M (nI p) := by
  obtain ⟨h1, h2, -⟩ := h
  refine ⟨nI_pos (by omega), ?_, pt_in_nI (by omega) (by decide)⟩
  rw [h1]
  exact nI_ge hp (by omega)
theorem tp_P.ks {M M' : pt_M} {L : Nat} {b : Nat → Nat} (h : tp_P M L b) (hk : ks_P M M') : tp_P M' L b := ⟨by rw [hk.1]; exact h.1, h.2.1, fun p hp => by rw [hk.2.1 14 0 (by decide) (by decide) (by decide) (by decide)]; exact h.2.2 p hp⟩
theorem rX3_read_12 {vs : List pt_V} {M M' : pt_M} {x : Int32} {L : List (Nat × pt_V)} (hn : narrow .boolean (.int x) = .int x) (hvs : (vs.map pt_w).sum ≤ 5) (hX : M'.2.2.2.2 = M.2.2.2.2) (h : pt_Go YX3_read (0, pt_en 0 vs, [], M) (12, L, [pt_i x], M')) : pt_Does yX3_read YX3_read vs M (some (pt_i x)) M' := pt_does_go tX3_read_ok nX3_read hvs hX ⟨_, by with_unfolding_all rfl, rfl, _, rfl, hn⟩ h
theorem rX3_read_68 {vs : List pt_V} {M M' : pt_M} {x : Int32} {L : List (Nat × pt_V)} (hn : narrow .boolean (.int x) = .int x) (hvs : (vs.map pt_w).sum ≤ 5) (hX : M'.2.2.2.2 = M.2.2.2.2) (h : pt_Go YX3_read (0, pt_en 0 vs, [], M) (68, L, [pt_i x], M')) : pt_Does yX3_read YX3_read vs M (some (pt_i x)) M' := pt_does_go tX3_read_ok nX3_read hvs hX ⟨_, by with_unfolding_all rfl, rfl, _, rfl, hn⟩ h
theorem rX3_read_108 {vs : List pt_V} {M M' : pt_M} {x : Int32} {L : List (Nat × pt_V)} (hn : narrow .boolean (.int x) = .int x) (hvs : (vs.map pt_w).sum ≤ 5) (hX : M'.2.2.2.2 = M.2.2.2.2) (h : pt_Go YX3_read (0, pt_en 0 vs, [], M) (108, L, [pt_i x], M')) : pt_Does yX3_read YX3_read vs M (some (pt_i x)) M' := pt_does_go tX3_read_ok nX3_read hvs hX ⟨_, by with_unfolding_all rfl, rfl, _, rfl, hn⟩ h
set_option maxRecDepth 100000 in
theorem gX3_read_0_1 (x2 : Int32)  (M : pt_M) (h1 : ¬ (pt_F M 4 1 0) = (so_F x2)) :
    pt_Go YX3_read (0, [(0, pt_r 6 0), (1, pt_r 4 0), (2, pt_i x2)], [], M)
      (12, [(0, pt_r 6 0), (1, pt_r 4 0), (2, pt_i x2)], [pt_i 0], M) :=
  pt_run_ok tX3_read_ok 6 [.inr (1, some (pt_i (so_F x2)), M), .inl false] (P := pt_Cal YX3_read (.invokestatic 30) [pt_i x2] M (some (pt_i (so_F x2))) M ∧ (¬ (pt_F M 4 1 0) = (so_F x2)) ∧ True) (by with_unfolding_all rfl) ⟨(pt_callN (h := "PointTables") (idx := 30) (fun _ z => z.2) kX3_read_30 mX6_swapsOf rfl (dX6_swapsOf x2 M)), h1, trivial⟩
set_option maxRecDepth 100000 in
theorem gX3_read_0_2 (x2 : Int32)  (M : pt_M) (h1 : (pt_F M 4 1 0) = (so_F x2)) (h2 : bn_P x2) :
    pt_Go YX3_read (0, [(0, pt_r 6 0), (1, pt_r 4 0), (2, pt_i x2)], [], M)
      (20, [(0, pt_r 6 0), (1, pt_r 4 0), (2, pt_i x2), (3, pt_i 0)], [], (sb_M M (pt_nt x2))) :=
  pt_run_ok tX3_read_ok 10 [.inr (1, some (pt_i (so_F x2)), M), .inl true, .inr (2, none, (sb_M M (pt_nt x2)))] (P := pt_Cal YX3_read (.invokestatic 30) [pt_i x2] M (some (pt_i (so_F x2))) M ∧ ((pt_F M 4 1 0) = (so_F x2)) ∧ pt_Cal YX3_read (.invokevirtual 34) [pt_r 6 0, pt_i x2] M none (sb_M M (pt_nt x2)) ∧ True) (by with_unfolding_all rfl) ⟨(pt_callN (h := "PointTables") (idx := 30) (fun _ z => z.2) kX3_read_30 mX6_swapsOf rfl (dX6_swapsOf x2 M)), h1, (pt_callV (i := 0) kX3_read_34 mX3_begin rfl (by decide) rfl (dX3_begin h2)), trivial⟩
set_option maxRecDepth 100000 in
theorem gX3_read_20_1 (l2 : Int32) (l3 : Int32)  (M : pt_M) (h1 : ¬ (pt_F M 4 1 0) ≤ l3) (h2 : by_H M l3) (h3 : ¬ (pt_A M 14 0 (pt_nt l3)) < 0) (h4 : ¬ (l2 - 2) < (pt_A M 14 0 (pt_nt l3))) (h5 : pt_in (pt_A M 14 0 (pt_nt l3)) 10) (h6 : pt_in ((pt_A M 14 0 (pt_nt l3)) + 1) 10) (h7 : ¬ (pt_A M 17 0 (pt_nt (pt_A M 14 0 (pt_nt l3)))) ≤ (pt_A M 17 0 (pt_nt ((pt_A M 14 0 (pt_nt l3)) + 1)))) :
    pt_Go YX3_read (20, [(0, pt_r 6 0), (1, pt_r 4 0), (2, pt_i l2), (3, pt_i l3)], [], M)
      (68, [(0, pt_r 6 0), (1, pt_r 4 0), (2, pt_i l2), (3, pt_i l3), (4, pt_i (pt_A M 14 0 (pt_nt l3)))], [pt_i 0], M) :=
  pt_run_ok tX3_read_ok 27 [.inl false, .inr (2, some (pt_i (pt_A M 14 0 (pt_nt l3))), M), .inl false, .inl false, .inl false] (P := (¬ (pt_F M 4 1 0) ≤ l3) ∧ pt_Cal YX3_read (.invokevirtual 38) [pt_r 4 0, pt_i l3] M (some (pt_i (pt_A M 14 0 (pt_nt l3)))) M ∧ (¬ (pt_A M 14 0 (pt_nt l3)) < 0) ∧ (¬ (l2 - 2) < (pt_A M 14 0 (pt_nt l3))) ∧ (pt_in (pt_A M 14 0 (pt_nt l3)) 10) ∧ (pt_in ((pt_A M 14 0 (pt_nt l3)) + 1) 10) ∧ (¬ (pt_A M 17 0 (pt_nt (pt_A M 14 0 (pt_nt l3)))) ≤ (pt_A M 17 0 (pt_nt ((pt_A M 14 0 (pt_nt l3)) + 1)))) ∧ True) (by with_unfolding_all rfl) ⟨h1, (pt_callV (i := 0) kX3_read_38 mX5_byteAt rfl (by decide) rfl (dX5_byteAt h2)), h3, h4, h5, h6, h7, trivial⟩
set_option maxRecDepth 100000 in
theorem gX3_read_20_2 (l2 : Int32) (l3 : Int32)  (M : pt_M) (h1 : ¬ (pt_F M 4 1 0) ≤ l3) (h2 : by_H M l3) (h3 : ¬ (pt_A M 14 0 (pt_nt l3)) < 0) (h4 : ¬ (l2 - 2) < (pt_A M 14 0 (pt_nt l3))) (h5 : pt_in (pt_A M 14 0 (pt_nt l3)) 10) (h6 : pt_in ((pt_A M 14 0 (pt_nt l3)) + 1) 10) (h7 : (pt_A M 17 0 (pt_nt (pt_A M 14 0 (pt_nt l3)))) ≤ (pt_A M 17 0 (pt_nt ((pt_A M 14 0 (pt_nt l3)) + 1)))) (h8 : pt_in (((pt_A M 17 0 (pt_nt (pt_A M 14 0 (pt_nt l3)))) * 10) + (pt_A M 17 0 (pt_nt ((pt_A M 14 0 (pt_nt l3)) + 1)))) 100) (h9 : sa_H (pt_wA M 19 0 (upd (pt_A M 19 0) (pt_nt (((pt_A M 17 0 (pt_nt (pt_A M 14 0 (pt_nt l3)))) * 10) + (pt_A M 17 0 (pt_nt ((pt_A M 14 0 (pt_nt l3)) + 1))))) l3)) (pt_A M 14 0 (pt_nt l3))) :
    pt_Go YX3_read (20, [(0, pt_r 6 0), (1, pt_r 4 0), (2, pt_i l2), (3, pt_i l3)], [], M)
      (20, [(0, pt_r 6 0), (1, pt_r 4 0), (2, pt_i l2), (3, pt_i (l3 + 1))], [], (sa_M (pt_wA M 19 0 (upd (pt_A M 19 0) (pt_nt (((pt_A M 17 0 (pt_nt (pt_A M 14 0 (pt_nt l3)))) * 10) + (pt_A M 17 0 (pt_nt ((pt_A M 14 0 (pt_nt l3)) + 1))))) l3)) (pt_A M 14 0 (pt_nt l3)))) :=
  (pt_run_ok tX3_read_ok 48 [.inl false, .inr (2, some (pt_i (pt_A M 14 0 (pt_nt l3))), M), .inl false, .inl false, .inl true, .inr (2, none, (sa_M (pt_wA M 19 0 (upd (pt_A M 19 0) (pt_nt (((pt_A M 17 0 (pt_nt (pt_A M 14 0 (pt_nt l3)))) * 10) + (pt_A M 17 0 (pt_nt ((pt_A M 14 0 (pt_nt l3)) + 1))))) l3)) (pt_A M 14 0 (pt_nt l3))))] (P := (¬ (pt_F M 4 1 0) ≤ l3) ∧ pt_Cal YX3_read (.invokevirtual 38) [pt_r 4 0, pt_i l3] M (some (pt_i (pt_A M 14 0 (pt_nt l3)))) M ∧ (¬ (pt_A M 14 0 (pt_nt l3)) < 0) ∧ (¬ (l2 - 2) < (pt_A M 14 0 (pt_nt l3))) ∧ (pt_in (pt_A M 14 0 (pt_nt l3)) 10) ∧ (pt_in ((pt_A M 14 0 (pt_nt l3)) + 1) 10) ∧ ((pt_A M 17 0 (pt_nt (pt_A M 14 0 (pt_nt l3)))) ≤ (pt_A M 17 0 (pt_nt ((pt_A M 14 0 (pt_nt l3)) + 1)))) ∧ (pt_in (pt_A M 14 0 (pt_nt l3)) 10) ∧ (pt_in ((pt_A M 14 0 (pt_nt l3)) + 1) 10) ∧ (pt_in (((pt_A M 17 0 (pt_nt (pt_A M 14 0 (pt_nt l3)))) * 10) + (pt_A M 17 0 (pt_nt ((pt_A M 14 0 (pt_nt l3)) + 1)))) 100) ∧ pt_Cal YX3_read (.invokevirtual 41) [pt_r 6 0, pt_i (pt_A M 14 0 (pt_nt l3))] (pt_wA M 19 0 (upd (pt_A M 19 0) (pt_nt (((pt_A M 17 0 (pt_nt (pt_A M 14 0 (pt_nt l3)))) * 10) + (pt_A M 17 0 (pt_nt ((pt_A M 14 0 (pt_nt l3)) + 1))))) l3)) none (sa_M (pt_wA M 19 0 (upd (pt_A M 19 0) (pt_nt (((pt_A M 17 0 (pt_nt (pt_A M 14 0 (pt_nt l3)))) * 10) + (pt_A M 17 0 (pt_nt ((pt_A M 14 0 (pt_nt l3)) + 1))))) l3)) (pt_A M 14 0 (pt_nt l3))) ∧ True) (by with_unfolding_all rfl) ⟨h1, (pt_callV (i := 0) kX3_read_38 mX5_byteAt rfl (by decide) rfl (dX5_byteAt h2)), h3, h4, h5, h6, h7, h5, h6, h8, (pt_callV (i := 0) kX3_read_41 mX3_swapAt rfl (by decide) rfl (dX3_swapAt h9)), trivial⟩ : pt_Go YX3_read _ (20, [(0, pt_r 6 0), (1, pt_r 4 0), (2, pt_i l2), (3, pt_i (l3 + 1)), (4, pt_i (pt_A M 14 0 (pt_nt l3)))], [], (sa_M (pt_wA M 19 0 (upd (pt_A M 19 0) (pt_nt (((pt_A M 17 0 (pt_nt (pt_A M 14 0 (pt_nt l3)))) * 10) + (pt_A M 17 0 (pt_nt ((pt_A M 14 0 (pt_nt l3)) + 1))))) l3)) (pt_A M 14 0 (pt_nt l3))))).tr (pt_pick [0, 1, 2, 3] (by with_unfolding_all rfl))
set_option maxRecDepth 100000 in
theorem gX3_read_20_3 (l2 : Int32) (l3 : Int32)  (M : pt_M) (h1 : ¬ (pt_F M 4 1 0) ≤ l3) (h2 : by_H M l3) (h3 : ¬ (pt_A M 14 0 (pt_nt l3)) < 0) (h4 : (l2 - 2) < (pt_A M 14 0 (pt_nt l3))) :
    pt_Go YX3_read (20, [(0, pt_r 6 0), (1, pt_r 4 0), (2, pt_i l2), (3, pt_i l3)], [], M)
      (68, [(0, pt_r 6 0), (1, pt_r 4 0), (2, pt_i l2), (3, pt_i l3), (4, pt_i (pt_A M 14 0 (pt_nt l3)))], [pt_i 0], M) :=
  pt_run_ok tX3_read_ok 16 [.inl false, .inr (2, some (pt_i (pt_A M 14 0 (pt_nt l3))), M), .inl false, .inl true] (P := (¬ (pt_F M 4 1 0) ≤ l3) ∧ pt_Cal YX3_read (.invokevirtual 38) [pt_r 4 0, pt_i l3] M (some (pt_i (pt_A M 14 0 (pt_nt l3)))) M ∧ (¬ (pt_A M 14 0 (pt_nt l3)) < 0) ∧ ((l2 - 2) < (pt_A M 14 0 (pt_nt l3))) ∧ True) (by with_unfolding_all rfl) ⟨h1, (pt_callV (i := 0) kX3_read_38 mX5_byteAt rfl (by decide) rfl (dX5_byteAt h2)), h3, h4, trivial⟩
set_option maxRecDepth 100000 in
theorem gX3_read_20_4 (l2 : Int32) (l3 : Int32)  (M : pt_M) (h1 : ¬ (pt_F M 4 1 0) ≤ l3) (h2 : by_H M l3) (h3 : (pt_A M 14 0 (pt_nt l3)) < 0) :
    pt_Go YX3_read (20, [(0, pt_r 6 0), (1, pt_r 4 0), (2, pt_i l2), (3, pt_i l3)], [], M)
      (68, [(0, pt_r 6 0), (1, pt_r 4 0), (2, pt_i l2), (3, pt_i l3), (4, pt_i (pt_A M 14 0 (pt_nt l3)))], [pt_i 0], M) :=
  pt_run_ok tX3_read_ok 11 [.inl false, .inr (2, some (pt_i (pt_A M 14 0 (pt_nt l3))), M), .inl true] (P := (¬ (pt_F M 4 1 0) ≤ l3) ∧ pt_Cal YX3_read (.invokevirtual 38) [pt_r 4 0, pt_i l3] M (some (pt_i (pt_A M 14 0 (pt_nt l3)))) M ∧ ((pt_A M 14 0 (pt_nt l3)) < 0) ∧ True) (by with_unfolding_all rfl) ⟨h1, (pt_callV (i := 0) kX3_read_38 mX5_byteAt rfl (by decide) rfl (dX5_byteAt h2)), h3, trivial⟩
set_option maxRecDepth 100000 in
theorem gX3_read_20_5 (l2 : Int32) (l3 : Int32)  (M : pt_M) (h1 : (pt_F M 4 1 0) ≤ l3) :
    pt_Go YX3_read (20, [(0, pt_r 6 0), (1, pt_r 4 0), (2, pt_i l2), (3, pt_i l3)], [], M)
      (108, [(0, pt_r 6 0), (1, pt_r 4 0), (2, pt_i l2), (3, pt_i l3)], [pt_i 1], M) :=
  pt_run_ok tX3_read_ok 5 [.inl true] (P := ((pt_F M 4 1 0) ≤ l3) ∧ True) (by with_unfolding_all rfl) ⟨h1, trivial⟩
def rr_F (n L : Nat) (b : Nat → Nat) (M : pt_M) : Option Nat := fs_F (L - 0) 0 fun k => if rd_F n (b k) (og_F (rm_M n b M k)) then none else some k
theorem dX3_read_no {n L : Nat} {b : Nat → Nat} {M : pt_M} (hn : n ≤ 10) (h : tp_P M L b) (hL : L ≠ sN_F n) : pt_Does yX3_read YX3_read [pt_r 6 0, pt_r 4 0, pt_i (nI n)] M (some (pt_i 0)) M := by
  obtain ⟨hso, h45⟩ := so_nI hn
  refine rX3_read_12 rfl (Nat.le_of_ble_eq_true rfl) rfl (gX3_read_0_1 (nI n) M ?_)
  rw [h.1, hso]
  have := h.2.1
  exact fun z => hL ((nI_eq (by omega) (by omega)).mp z)
theorem dX3_read {n : Nat} {b : Nat → Nat} {M : pt_M} (hn : n ≤ 10) (hn3 : 3 ≤ n) (h : tp_P M (sN_F n) b) : (rr_F n (sN_F n) b (sb_M M n) = none → pt_Does yX3_read YX3_read [pt_r 6 0, pt_r 4 0, pt_i (nI n)] M (some (pt_i 1)) (rm_M n b (sb_M M n) (sN_F n))) ∧ (∀ k, rr_F n (sN_F n) b (sb_M M n) = some k → pt_Does yX3_read YX3_read [pt_r 6 0, pt_r 4 0, pt_i (nI n)] M (some (pt_i 0)) (rm_M n b (sb_M M n) k)) := by
  obtain ⟨hso, h45⟩ := so_nI hn
  have hks : ∀ k, ks_P M (rm_M n b (sb_M M n) k) := fun k => ks_sb.tr (rm_ok (b := b) hn (sb_so hn) k).2
  have htp : ∀ k, tp_P (rm_M n b (sb_M M n) k) (sN_F n) b := fun k => h.ks (hks k)
  have K := pt_nest (Y := YX3_read) (σ := (0, [(0, pt_r 6 0), (1, pt_r 4 0), (2, pt_i (nI n))], [], M)) (τ := (108, [], [pt_i 1], rm_M n b (sb_M M n) (sN_F n))) (R := fun k => (68, [], [pt_i 0], rm_M n b (sb_M M n) k)) (n := sN_F n) (i := 0)
    (S := fun k => (20, [(0, pt_r 6 0), (1, pt_r 4 0), (2, pt_i (nI n)), (3, pt_i (nI k))], [], rm_M n b (sb_M M n) k)) (f := fun k => if rd_F n (b k) (og_F (rm_M n b (sb_M M n) k)) then none else some k)
    (Nat.zero_le _) ((gX3_read_0_2 (nI n) M (by rw [h.1, hso]) ⟨n, rfl, hn⟩).toM (by rw [pt_nt_nI (by omega)]; rfl)) ((gX3_read_20_5 (nI n) (nI (sN_F n)) (rm_M n b (sb_M M n) (sN_F n)) (by rw [(htp _).1]; exact Int32.le_refl _)).tr pt_dropA) fun k _ hk => by
      have hso' := (rm_ok (b := b) hn (sb_so (M := M) hn) k).1
      have hb := tp_by (htp k) hk
      obtain ⟨v1, v2⟩ := (htp k).2.2 k hk
      have hv : pt_A (rm_M n b (sb_M M n) k) 14 0 (pt_nt (nI k)) = nI (b k) := by rw [pt_nt_nI (by omega)]; exact v1
      have h2 : nI n - 2 = nI (n - 2) := pk_sub (a := n) (b := 2) (by omega)
      have hp0 : ¬ nI (b k) < 0 := nI_pos (by omega)
      by_cases c1 : b k + 2 ≤ n
      · have c1' : ¬ nI n - 2 < nI (b k) := by rw [h2]; exact nI_nlt (by omega) (by omega)
        obtain ⟨a1, a2, -, -⟩ := hso' (b k) (by omega)
        obtain ⟨b1, b2, -, -⟩ := hso' (b k + 1) (by omega)
        have r1 : pt_A (rm_M n b (sb_M M n) k) 17 0 (pt_nt (nI (b k))) = nI (og_F (rm_M n b (sb_M M n) k) (b k)) := by rw [pt_nt_nI (by omega)]; exact a1
        have r2 : pt_A (rm_M n b (sb_M M n) k) 17 0 (pt_nt (nI (b k) + 1)) = nI (og_F (rm_M n b (sb_M M n) k) (b k + 1)) := by rw [nI_1, pt_nt_nI (by omega)]; exact b1
        have hle := nI_leI (show og_F (rm_M n b (sb_M M n) k) (b k) < 2 ^ 31 by omega) (show og_F (rm_M n b (sb_M M n) k) (b k + 1) < 2 ^ 31 by omega)
        have g1 : pt_in (nI (b k)) 10 := pt_in_nI (by omega) (by decide)
        have g2 : pt_in (nI (b k) + 1) 10 := by rw [nI_1]; exact pt_in_nI (by omega) (by decide)
        by_cases c2 : og_F (rm_M n b (sb_M M n) k) (b k) ≤ og_F (rm_M n b (sb_M M n) k) (b k + 1)
        · have hr : rd_F n (b k) (og_F (rm_M n b (sb_M M n) k)) = true := by simp [rd_F, c1, c2]
          refine ⟨fun v z => by simp [hr] at z, fun _ => ?_⟩
          have hx : (nI (og_F (rm_M n b (sb_M M n) k) (b k)) * 10) + nI (og_F (rm_M n b (sb_M M n) k) (b k + 1)) = nI (10 * og_F (rm_M n b (sb_M M n) k) (b k) + og_F (rm_M n b (sb_M M n) k) (b k + 1)) := ix_nI _ _
          have hx2 : pt_in ((nI (og_F (rm_M n b (sb_M M n) k) (b k)) * 10) + nI (og_F (rm_M n b (sb_M M n) k) (b k + 1))) 100 := ix_in (by omega) (by omega)
          have hsa : ∀ g, sa_H (pt_wA (rm_M n b (sb_M M n) k) 19 0 g) (nI (b k)) := fun g => by
            refine ⟨g1, g2, ?_, ?_⟩
            · rw [pt_A_wA', if_neg (fun z => absurd z.1 (by decide)), r1]
              exact pt_in_nI (by omega) (by decide)
            · rw [pt_A_wA', if_neg (fun z => absurd z.1 (by decide)), r2]
              exact pt_in_nI (by omega) (by decide)
          refine (gX3_read_20_2 (nI n) (nI k) (rm_M n b (sb_M M n) k) hb.2.1 hb (by rw [hv]; exact hp0) (by rw [hv]; exact c1') (by rw [hv]; exact g1) (by rw [hv]; exact g2) (by rw [hv, r1, r2, hle]; exact c2) (by rw [hv, r1, r2]; exact hx2) (by rw [hv]; exact hsa _)).to ?_
          have e2 : rm_M n b (sb_M M n) (k + 1) = sa_M (pt_wA (rm_M n b (sb_M M n) k) 19 0 (upd (pt_A (rm_M n b (sb_M M n) k) 19 0) (10 * og_F (rm_M n b (sb_M M n) k) (b k) + og_F (rm_M n b (sb_M M n) k) (b k + 1)) (nI k))) (nI (b k)) := if_pos hr
          rw [nI_1, e2, hv, r1, r2, hx, pt_nt_nI (by omega)]
        · have hr : rd_F n (b k) (og_F (rm_M n b (sb_M M n) k)) = false := by simp [rd_F, c2]
          refine ⟨fun v z => ?_, fun z => by simp [hr] at z⟩
          rw [hr] at z
          simp only [Bool.false_eq_true, if_false, Option.some.injEq] at z
          subst z
          exact (gX3_read_20_1 (nI n) (nI k) (rm_M n b (sb_M M n) k) hb.2.1 hb (by rw [hv]; exact hp0) (by rw [hv]; exact c1') (by rw [hv]; exact g1) (by rw [hv]; exact g2) (by rw [hv, r1, r2, hle]; exact c2)).tr pt_dropA
      · have hr : rd_F n (b k) (og_F (rm_M n b (sb_M M n) k)) = false := by simp [rd_F, c1]
        have c1' : nI n - 2 < nI (b k) := by rw [h2]; exact nI_lt (by omega) (by omega)
        refine ⟨fun v z => ?_, fun z => by simp [hr] at z⟩
        rw [hr] at z
        simp only [Bool.false_eq_true, if_false, Option.some.injEq] at z
        subst z
        exact (gX3_read_20_3 (nI n) (nI k) (rm_M n b (sb_M M n) k) hb.2.1 hb (by rw [hv]; exact hp0) (by rw [hv]; exact c1')).tr pt_dropA
  exact ⟨fun hf => rX3_read_108 rfl (Nat.le_of_ble_eq_true rfl) (by rw [(hks _).2.2]) (K.2 hf), fun k hf => rX3_read_68 rfl (Nat.le_of_ble_eq_true rfl) (by rw [(hks _).2.2]) (K.1 k hf)⟩
/-! the tape's other reads -/
def sh_F (M : pt_M) (x : Int32) : Int32 := ((((pt_A M 14 0 (pt_nt x)) <<< ((8 : Int32) &&& 31)) ||| (pt_A M 14 0 (pt_nt (x + 1)))).toInt16.toInt32)
def hb_P (M : pt_M) (x : Int32) : Prop := (((pt_A M 14 0 (pt_nt (x / 8))) >>> ((7 - (x - x / 8 * 8)) &&& 31)) &&& 1) = 1
theorem rX5_shortAt_17 {vs : List pt_V} {M M' : pt_M} {x : Int32} {L : List (Nat × pt_V)} (hvs : (vs.map pt_w).sum ≤ 2) (hX : M'.2.2.2.2 = M.2.2.2.2) (h : pt_Go YX5_shortAt (0, pt_en 0 vs, [], M) (17, L, [pt_i x], M')) : pt_Does yX5_shortAt YX5_shortAt vs M (some (pt_i x)) M' := pt_does_go tX5_shortAt_ok nX5_shortAt hvs hX ⟨_, by with_unfolding_all rfl, rfl, _, rfl, rfl⟩ h
set_option maxRecDepth 100000 in
theorem gX5_shortAt_0_1 (x1 : Int32)  (M : pt_M) (h1 : by_H M x1) (h2 : by_H M (x1 + 1)) :
    pt_Go YX5_shortAt (0, [(0, pt_r 4 0), (1, pt_i x1)], [], M)
      (17, [(0, pt_r 4 0), (1, pt_i x1)], [pt_i ((((pt_A M 14 0 (pt_nt x1)) <<< ((8 : Int32) &&& 31)) ||| (pt_A M 14 0 (pt_nt (x1 + 1)))).toInt16.toInt32)], M) :=
  pt_run_ok tX5_shortAt_ok 12 [.inr (2, some (pt_i (pt_A M 14 0 (pt_nt x1))), M), .inr (2, some (pt_i (pt_A M 14 0 (pt_nt (x1 + 1)))), M)] (P := pt_Cal YX5_shortAt (.invokevirtual 19) [pt_r 4 0, pt_i x1] M (some (pt_i (pt_A M 14 0 (pt_nt x1)))) M ∧ pt_Cal YX5_shortAt (.invokevirtual 19) [pt_r 4 0, pt_i (x1 + 1)] M (some (pt_i (pt_A M 14 0 (pt_nt (x1 + 1))))) M ∧ True) (by with_unfolding_all rfl) ⟨(pt_callV (i := 0) kX5_shortAt_19 mX5_byteAt rfl (by decide) rfl (dX5_byteAt h1)), (pt_callV (i := 0) kX5_shortAt_19 mX5_byteAt rfl (by decide) rfl (dX5_byteAt h2)), trivial⟩
theorem dX5_shortAt {x : Int32} {M : pt_M} (h : by_H M x) (h' : by_H M (x + 1)) : pt_Does yX5_shortAt YX5_shortAt [pt_r 4 0, pt_i x] M (some (pt_i (sh_F M x))) M := rX5_shortAt_17 (Nat.le_of_ble_eq_true rfl) rfl (gX5_shortAt_0_1 x M h h')
theorem rX5_hasBit_27 {vs : List pt_V} {M M' : pt_M} {x : Int32} {L : List (Nat × pt_V)} (hn : narrow .boolean (.int x) = .int x) (hvs : (vs.map pt_w).sum ≤ 2) (hX : M'.2.2.2.2 = M.2.2.2.2) (h : pt_Go YX5_hasBit (0, pt_en 0 vs, [], M) (27, L, [pt_i x], M')) : pt_Does yX5_hasBit YX5_hasBit vs M (some (pt_i x)) M' := pt_does_go tX5_hasBit_ok nX5_hasBit hvs hX ⟨_, by with_unfolding_all rfl, rfl, _, rfl, hn⟩ h
set_option maxRecDepth 100000 in
theorem gX5_hasBit_0_1 (x1 : Int32)  (M : pt_M) (h1 : by_H M (x1 / 8)) (h2 : (((pt_A M 14 0 (pt_nt (x1 / 8))) >>> ((7 - (x1 - x1 / 8 * 8)) &&& 31)) &&& 1) = 1) :
    pt_Go YX5_hasBit (0, [(0, pt_r 4 0), (1, pt_i x1)], [], M)
      (27, [(0, pt_r 4 0), (1, pt_i x1)], [pt_i 1], M) :=
  pt_run_ok tX5_hasBit_ok 17 [.inr (2, some (pt_i (pt_A M 14 0 (pt_nt (x1 / 8)))), M), .inl false] (P := (¬ (8 : Int32) = 0) ∧ pt_Cal YX5_hasBit (.invokevirtual 19) [pt_r 4 0, pt_i (x1 / 8)] M (some (pt_i (pt_A M 14 0 (pt_nt (x1 / 8))))) M ∧ (¬ (8 : Int32) = 0) ∧ ((((pt_A M 14 0 (pt_nt (x1 / 8))) >>> ((7 - (x1 - x1 / 8 * 8)) &&& 31)) &&& 1) = 1) ∧ True) (by with_unfolding_all rfl) ⟨(by decide), (pt_callV (i := 0) kX5_hasBit_19 mX5_byteAt rfl (by decide) rfl (dX5_byteAt h1)), (by decide), h2, trivial⟩
set_option maxRecDepth 100000 in
theorem gX5_hasBit_0_2 (x1 : Int32)  (M : pt_M) (h1 : by_H M (x1 / 8)) (h2 : ¬ (((pt_A M 14 0 (pt_nt (x1 / 8))) >>> ((7 - (x1 - x1 / 8 * 8)) &&& 31)) &&& 1) = 1) :
    pt_Go YX5_hasBit (0, [(0, pt_r 4 0), (1, pt_i x1)], [], M)
      (27, [(0, pt_r 4 0), (1, pt_i x1)], [pt_i 0], M) :=
  pt_run_ok tX5_hasBit_ok 16 [.inr (2, some (pt_i (pt_A M 14 0 (pt_nt (x1 / 8)))), M), .inl true] (P := (¬ (8 : Int32) = 0) ∧ pt_Cal YX5_hasBit (.invokevirtual 19) [pt_r 4 0, pt_i (x1 / 8)] M (some (pt_i (pt_A M 14 0 (pt_nt (x1 / 8))))) M ∧ (¬ (8 : Int32) = 0) ∧ (¬ (((pt_A M 14 0 (pt_nt (x1 / 8))) >>> ((7 - (x1 - x1 / 8 * 8)) &&& 31)) &&& 1) = 1) ∧ True) (by with_unfolding_all rfl) ⟨(by decide), (pt_callV (i := 0) kX5_hasBit_19 mX5_byteAt rfl (by decide) rfl (dX5_byteAt h1)), (by decide), h2, trivial⟩
theorem dX5_hasBit_1 {x : Int32} {M : pt_M} (h : by_H M (x / 8)) (h' : hb_P M x) : pt_Does yX5_hasBit YX5_hasBit [pt_r 4 0, pt_i x] M (some (pt_i 1)) M := rX5_hasBit_27 rfl (Nat.le_of_ble_eq_true rfl) rfl (gX5_hasBit_0_1 x M h h')
theorem dX5_hasBit_0 {x : Int32} {M : pt_M} (h : by_H M (x / 8)) (h' : ¬ hb_P M x) : pt_Does yX5_hasBit YX5_hasBit [pt_r 4 0, pt_i x] M (some (pt_i 0)) M := rX5_hasBit_27 rfl (Nat.le_of_ble_eq_true rfl) rfl (gX5_hasBit_0_2 x M h h')
/-! slots -/
def tA_P (M : pt_M) (x : Int32) : Prop := sl_P x ∧ pt_in x 6 ∧ (pt_R M (pt_nt x + 1)) < 7 ∧ ¬ (pt_F M 3 0 (pt_R M (pt_nt x + 1))) ≤ 0
def tN_P (M : pt_M) (x : Int32) : Prop := ¬ sl_P x ∨ (sl_P x ∧ pt_in x 6 ∧ (pt_R M (pt_nt x + 1)) < 7 ∧ (pt_F M 3 0 (pt_R M (pt_nt x + 1))) ≤ 0)
theorem rX6_tableAt_29 {vs : List pt_V} {M M' : pt_M} {k i : Nat} {L : List (Nat × pt_V)} (hvs : (vs.map pt_w).sum ≤ 2) (hX : M'.2.2.2.2 = M.2.2.2.2) (h : pt_Go YX6_tableAt (0, pt_en 0 vs, [], M) (29, L, [pt_r k i], M')) : pt_Does yX6_tableAt YX6_tableAt vs M (some (pt_r k i)) M' := pt_does_go tX6_tableAt_ok nX6_tableAt hvs hX ⟨_, by with_unfolding_all rfl, rfl, _, rfl, Or.inl ⟨_, rfl⟩⟩ h
set_option maxRecDepth 100000 in
theorem gX6_tableAt_0_1 (x1 : Int32)  (M : pt_M) (h1 : sl_P x1) (h2 : pt_in x1 6) (h3 : (pt_R M (pt_nt x1 + 1)) < 7) (h4 : ¬ (pt_F M 3 0 (pt_R M (pt_nt x1 + 1))) ≤ 0) :
    pt_Go YX6_tableAt (0, [(0, pt_r 2 0), (1, pt_i x1)], [], M)
      (29, [(0, pt_r 2 0), (1, pt_i x1)], [pt_r 3 (pt_R M (pt_nt x1 + 1))], M) :=
  pt_run_ok tX6_tableAt_ok 14 [.inr (1, some (pt_i 1), M), .inl false, .inl false] (P := pt_Cal YX6_tableAt (.invokestatic 75) [pt_i x1] M (some (pt_i 1)) M ∧ (¬ (1 : Int32) = (0 : Int32)) ∧ (pt_in x1 6) ∧ ((pt_R M (pt_nt x1 + 1)) < 7) ∧ (¬ (pt_F M 3 0 (pt_R M (pt_nt x1 + 1))) ≤ 0) ∧ (pt_in x1 6) ∧ True) (by with_unfolding_all rfl) ⟨(pt_callS kX6_tableAt_75 mX6_isSlot rfl (dX6_isSlot_1 h1)), (by decide), h2, h3, h4, h2, trivial⟩
set_option maxRecDepth 100000 in
theorem gX6_tableAt_0_2 (x1 : Int32)  (M : pt_M) (h1 : sl_P x1) (h2 : pt_in x1 6) (h3 : (pt_R M (pt_nt x1 + 1)) < 7) (h4 : (pt_F M 3 0 (pt_R M (pt_nt x1 + 1))) ≤ 0) :
    pt_Go YX6_tableAt (0, [(0, pt_r 2 0), (1, pt_i x1)], [], M)
      (29, [(0, pt_r 2 0), (1, pt_i x1)], [pt_r 0 0], M) :=
  pt_run_ok tX6_tableAt_ok 10 [.inr (1, some (pt_i 1), M), .inl false, .inl true] (P := pt_Cal YX6_tableAt (.invokestatic 75) [pt_i x1] M (some (pt_i 1)) M ∧ (¬ (1 : Int32) = (0 : Int32)) ∧ (pt_in x1 6) ∧ ((pt_R M (pt_nt x1 + 1)) < 7) ∧ ((pt_F M 3 0 (pt_R M (pt_nt x1 + 1))) ≤ 0) ∧ True) (by with_unfolding_all rfl) ⟨(pt_callS kX6_tableAt_75 mX6_isSlot rfl (dX6_isSlot_1 h1)), (by decide), h2, h3, h4, trivial⟩
set_option maxRecDepth 100000 in
theorem gX6_tableAt_0_3 (x1 : Int32)  (M : pt_M) (h1 : ¬ sl_P x1) :
    pt_Go YX6_tableAt (0, [(0, pt_r 2 0), (1, pt_i x1)], [], M)
      (29, [(0, pt_r 2 0), (1, pt_i x1)], [pt_r 0 0], M) :=
  pt_run_ok tX6_tableAt_ok 4 [.inr (1, some (pt_i 0), M), .inl true] (P := pt_Cal YX6_tableAt (.invokestatic 75) [pt_i x1] M (some (pt_i 0)) M ∧ ((0 : Int32) = (0 : Int32)) ∧ True) (by with_unfolding_all rfl) ⟨(pt_callS kX6_tableAt_75 mX6_isSlot rfl (dX6_isSlot_0 h1)), (by decide), trivial⟩
theorem dX6_tableAt_1 {x : Int32} {M : pt_M} (h : tA_P M x) : pt_Does yX6_tableAt YX6_tableAt [pt_r 2 0, pt_i x] M (some (pt_r 3 (pt_R M (pt_nt x + 1)))) M := rX6_tableAt_29 (Nat.le_of_ble_eq_true rfl) rfl (gX6_tableAt_0_1 x M h.1 h.2.1 h.2.2.1 h.2.2.2)
theorem dX6_tableAt_0 {x : Int32} {M : pt_M} (h : tN_P M x) : pt_Does yX6_tableAt YX6_tableAt [pt_r 2 0, pt_i x] M (some (pt_r 0 0)) M := by
  rcases h with h | h
  · exact rX6_tableAt_29 (Nat.le_of_ble_eq_true rfl) rfl (gX6_tableAt_0_3 x M h)
  · exact rX6_tableAt_29 (Nat.le_of_ble_eq_true rfl) rfl (gX6_tableAt_0_2 x M h.1 h.2.1 h.2.2.1 h.2.2.2)
def kp_M (M : pt_M) (x : Int32) : pt_M := pt_wR (pt_wR M (pt_nt x + 1) (pt_R M 0)) 0 (pt_R M (pt_nt x + 1))
def kp_P (M : pt_M) (x : Int32) : Prop := sl_P x ∧ pt_in x 6 ∧ (pt_R M 0) < 7
theorem rX6_keepSpare_29 {vs : List pt_V} {M M' : pt_M} {L : List (Nat × pt_V)} (hvs : (vs.map pt_w).sum ≤ 3) (hX : M'.2.2.2.2 = M.2.2.2.2) (h : pt_Go YX6_keepSpare (0, pt_en 0 vs, [], M) (29, L, [], M')) : pt_Does yX6_keepSpare YX6_keepSpare vs M none M' := pt_does_go tX6_keepSpare_ok nX6_keepSpare hvs hX ⟨_, by with_unfolding_all rfl, rfl, rfl⟩ h
set_option maxRecDepth 100000 in
theorem gX6_keepSpare_0_1 (x1 : Int32)  (M : pt_M) (h1 : sl_P x1) (h2 : pt_in x1 6) (h3 : (pt_R M 0) < 7) :
    pt_Go YX6_keepSpare (0, [(0, pt_r 2 0), (1, pt_i x1)], [], M)
      (29, [(0, pt_r 2 0), (1, pt_i x1), (2, pt_r 3 (pt_R M (pt_nt x1 + 1)))], [], (pt_wR (pt_wR M (pt_nt x1 + 1) (pt_R M 0)) 0 (pt_R M (pt_nt x1 + 1)))) :=
  pt_run_ok tX6_keepSpare_ok 17 [.inr (1, some (pt_i 1), M), .inl false] (P := pt_Cal YX6_keepSpare (.invokestatic 75) [pt_i x1] M (some (pt_i 1)) M ∧ (¬ (1 : Int32) = (0 : Int32)) ∧ (pt_in x1 6) ∧ ((pt_in x1 6) ∧ ((pt_R M 0) < 7)) ∧ True) (by with_unfolding_all rfl) ⟨(pt_callS kX6_keepSpare_75 mX6_isSlot rfl (dX6_isSlot_1 h1)), (by decide), h2, ⟨h2, h3⟩, trivial⟩
set_option maxRecDepth 100000 in
theorem gX6_keepSpare_0_2 (x1 : Int32)  (M : pt_M) (h1 : ¬ sl_P x1) :
    pt_Go YX6_keepSpare (0, [(0, pt_r 2 0), (1, pt_i x1)], [], M)
      (29, [(0, pt_r 2 0), (1, pt_i x1)], [], M) :=
  pt_run_ok tX6_keepSpare_ok 3 [.inr (1, some (pt_i 0), M), .inl true] (P := pt_Cal YX6_keepSpare (.invokestatic 75) [pt_i x1] M (some (pt_i 0)) M ∧ ((0 : Int32) = (0 : Int32)) ∧ True) (by with_unfolding_all rfl) ⟨(pt_callS kX6_keepSpare_75 mX6_isSlot rfl (dX6_isSlot_0 h1)), (by decide), trivial⟩
theorem dX6_keepSpare {x : Int32} {M : pt_M} (h : kp_P M x) : pt_Does yX6_keepSpare YX6_keepSpare [pt_r 2 0, pt_i x] M none (kp_M M x) := rX6_keepSpare_29 (Nat.le_of_ble_eq_true rfl) rfl (gX6_keepSpare_0_1 x M h.1 h.2.1 h.2.2)
