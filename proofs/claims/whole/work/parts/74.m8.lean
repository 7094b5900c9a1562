/-! least -/
def aq_P (M : pt_M) (x1 x2 x3 : Int32) (n : Nat) (B : Nat → Nat → Nat → Bool) : Prop := ∃ o r, x1 = nI o ∧ x2 = nI n ∧ x3 = nI r ∧ ml_P M o n B ∧ lw_P n B ∧ dg_P n B ∧ rm_P n B r
def aq_M (M : pt_M) (B : Nat → Nat → Nat → Bool) (x : Int32) (n : Nat) : pt_M := pt_wA M 35 0 (ao_F B (pt_nt x) (pt_A M 35 0) n)
theorem dX7_around_t {M : pt_M} {x1 x2 x3 : Int32} {n : Nat} {B : Nat → Nat → Nat → Bool} (h : aq_P M x1 x2 x3 n B) : pt_Does yX7_around YX7_around [pt_r 7 0, pt_i x1, pt_i x2, pt_i x3] M none (aq_M M B x3 n) := by
  obtain ⟨o, r, rfl, rfl, rfl, h1, h2, h3, h4⟩ := h
  have r1 := h4.1
  have hn := h2.1
  unfold aq_M
  rw [pt_nt_nI (by omega)]
  exact dX7_around h1 h2 h3 h4
def rd_P (M : pt_M) (x1 x2 : Int32) (n : Nat) (g : Nat → Nat) (B : Nat → Nat → Nat → Bool) : Prop := ∃ o, x1 = nI o ∧ x2 = nI n ∧ ml_P M o n B ∧ ro_Q M n g
def rd_M (M : pt_M) (n : Nat) (g : Nat → Nat) (B : Nat → Nat → Nat → Bool) : pt_M := pt_wA M 37 0 (co_F (pt_A M 37 0) (rw_F n B g false) (rk_0 n n))
theorem dX7_rowOf_t {M : pt_M} {x1 x2 : Int32} {n : Nat} {g : Nat → Nat} {B : Nat → Nat → Nat → Bool} (h : rd_P M x1 x2 n g B) : pt_Does yX7_rowOf YX7_rowOf [pt_r 7 0, pt_i x1, pt_i x2, pt_r 37 0] M none (rd_M M n g B) := by
  obtain ⟨o, rfl, rfl, h1, h2⟩ := h
  exact dX7_rowOf h1 h2
def lk_P (K : Nat) (M M' : pt_M) : Prop := pt_F M' = pt_F M ∧ (∀ k i, k ≠ 35 → k ≠ 37 → k ≠ K → pt_A M' k i = pt_A M k i) ∧ M'.2.2 = M.2.2
theorem lk_P.rf {K : Nat} {M : pt_M} : lk_P K M M := ⟨rfl, fun _ _ _ _ _ => rfl, rfl⟩
theorem lk_P.tr {K : Nat} {M M' M'' : pt_M} (h : lk_P K M M') (h' : lk_P K M' M'') : lk_P K M M'' := ⟨h'.1.trans h.1, fun k i a b c => (h'.2.1 k i a b c).trans (h.2.1 k i a b c), h'.2.2.trans h.2.2⟩
theorem lk_P.x5 {K : Nat} {M M' : pt_M} (h : lk_P K M M') : M'.2.2.2.2 = M.2.2.2.2 := congrArg (fun z => z.2.2) h.2.2
theorem lk_K {K : Nat} {M : pt_M} {g : Nat → Int32} : lk_P K M (pt_wA M K 0 g) := ⟨rfl, fun _ _ _ _ c => if_neg fun z => c z.1, rfl⟩
theorem lk_rd {K n : Nat} {M : pt_M} {g : Nat → Nat} {x : Int32} {B : Nat → Nat → Nat → Bool} : lk_P K M (rd_M (aq_M M B x n) n g B) := ⟨rfl, fun _ _ a b _ => (if_neg fun z => b z.1).trans (if_neg fun z => a z.1), rfl⟩
theorem fs_cg {α : Type} {f f' : Nat → Option α} : ∀ {d i : Nat}, (∀ j, i ≤ j → j < i + d → f j = f' j) → fs_F d i f = fs_F d i f'
  | 0, _, _ => rfl
  | d + 1, i, h => by
    unfold fs_F
    rw [h i (Nat.le_refl i) (by omega), fs_cg fun j h1 h2 => h j (by omega) (by omega)]
theorem mc_1 {f w : Nat → Int32} {N : Nat} : (∃ v, v < N ∧ ¬ f v = w v ∧ (∀ q, q < v → f q = w q) ∧ mc_F f w N = f v - w v) ∨ ((∀ q, q < N → f q = w q) ∧ mc_F f w N = 0) := by
  have e : (fun p => if f p = w p then none else some p) = fun p => if (!decide (f p = w p)) = true then some p else none := by
    funext p
    by_cases c : f p = w p
    · simp [c]
    · simp [c]
  unfold mc_F
  cases hf : fs_F (N - 0) 0 (fun p => if f p = w p then none else some p) with
  | none =>
    refine .inr ⟨fun q hq => ?_, rfl⟩
    have := fs_none.mp hf q (by omega) (by omega)
    by_cases c : f q = w q
    · exact c
    · rw [if_neg c] at this
      cases this
  | some v =>
    rw [e] at hf
    obtain ⟨a1, a2, a3, a4⟩ := fs_fst (P := fun p => !decide (f p = w p)) hf
    refine .inl ⟨v, by omega, ?_, fun q hq => ?_, rfl⟩
    · simpa using a4
    · simpa using a1 q (by omega) hq
theorem mc_cg {f f' w w' : Nat → Int32} {N : Nat} (h : ∀ p, p < N → f p = f' p) (h' : ∀ p, p < N → w p = w' p) : mc_F f w N = mc_F f' w' N := by
  rcases mc_1 (f := f) (w := w) (N := N) with ⟨v, v1, v2, v3, v4⟩ | ⟨v3, v4⟩ <;> rcases mc_1 (f := f') (w := w') (N := N) with ⟨u, u1, u2, u3, u4⟩ | ⟨u3, u4⟩
  · have : u = v := by
      rcases Nat.lt_trichotomy u v with c | c | c
      · exact absurd ((h u u1).symm.trans ((v3 u c).trans (h' u u1))) u2
      · exact c
      · exact absurd ((h v v1).trans ((u3 v c).trans (h' v v1).symm)) v2
    rw [v4, u4, this, h v v1, h' v v1]
  · exact absurd ((h v v1).trans ((u3 v v1).trans (h' v v1).symm)) v2
  · exact absurd ((h u u1).symm.trans ((v3 u u1).trans (h' u u1))) u2
  · rw [v4, u4]
theorem mc_al {f w : Nat → Int32} {N : Nat} (hf : ∀ p, p < N → f p = 1 ∨ f p = 2) (hw : ∀ p, p < N → w p = 1 ∨ w p = 2) : (mc_F f w N < 0 → ((List.range N).all fun p => !rt_F w f p) = true) ∧ (¬ mc_F f w N < 0 → ((List.range N).all fun p => !rt_F w f p) = true → ∀ p, p < N → co_F w f N p = w p) := by
  rcases mc_1 (f := f) (w := w) (N := N) with ⟨v, v1, v2, v3, v4⟩ | ⟨v3, v4⟩
  · have cs : (f v = 1 ∧ w v = 2) ∨ (f v = 2 ∧ w v = 1) := by
      rcases hf v v1 with a | a <;> rcases hw v v1 with b | b
      · exact absurd (a.trans b.symm) v2
      · exact .inl ⟨a, b⟩
      · exact .inr ⟨a, b⟩
      · exact absurd (a.trans b.symm) v2
    rw [v4]
    rcases cs with ⟨a, b⟩ | ⟨a, b⟩ <;> rw [a, b]
    · refine ⟨fun _ => ?_, fun z => absurd (by decide) z⟩
      rw [List.all_eq_true]
      intro p hp
      unfold rt_F
      rcases Nat.lt_trichotomy p v with c | c | c
      · rw [v3 p c, decide_eq_false (Int32.lt_irrefl)]
        simp
      · rw [c, a, b]
        simp
      · cases d : eq_F w f p
        · rfl
        · exact absurd (eq_iff.mp d v c) v2
    · refine ⟨fun z => absurd z (by decide), fun _ z => ?_⟩
      have := List.all_eq_true.mp z v (List.mem_range.mpr v1)
      unfold rt_F at this
      rw [eq_iff.mpr fun q hq => v3 q hq, a, b] at this
      exact absurd this (by decide)
  · refine ⟨fun z => by rw [v4] at z; exact absurd z (by decide), fun _ _ p hp => ?_⟩
    unfold co_F
    rw [if_pos hp]
    exact v3 p hp
theorem n3_0 {n : Nat} (hn : n ≤ 10) (h3 : 3 ≤ n) : 0 < rk_0 n n := (by decide +kernel : ∀ n : Fin 11, 3 ≤ n.1 → 0 < rk_0 n.1 n.1) ⟨n, by omega⟩ h3
theorem rw_12 {n : Nat} {B : Nat → Nat → Nat → Bool} {g : Nat → Nat} {mr : Bool} {p : Nat} : rw_F n B g mr p = 1 ∨ rw_F n B g mr p = 2 := by
  unfold rw_F
  split
  · exact .inl rfl
  · exact .inr rfl
theorem fr_12 {n : Nat} {B : Nat → Nat → Nat → Bool} {mr : Bool} : ∀ r, ((∀ t, t < r → (ri_F n B (2 ^ n - 1)).testBit t = false) ∧ fr_R n B mr r = fun _ => 3) ∨ ∀ p, p < rk_0 n n → fr_R n B mr r p = 1 ∨ fr_R n B mr r p = 2 := by
  intro r
  induction r with
  | zero => exact .inl ⟨fun t ht => by omega, by rw [fr_R]⟩
  | succ r ih =>
    rw [fr_s]
    cases c : (ri_F n B (2 ^ n - 1)).testBit r
    · rw [if_neg Bool.false_ne_true]
      refine ih.imp (fun z => ⟨fun t ht => ?_, z.2⟩) id
      by_cases e : t = r
      · rw [e]
        exact c
      · exact z.1 t (by omega)
    · rw [if_pos rfl]
      refine .inr fun p hp => ?_
      split
      · have e : co_F (fr_R n B mr r) (rw_F n B (gz_F n B r mr) mr) (rk_0 n n) p = rw_F n B (gz_F n B r mr) mr p := if_pos hp
        rw [e]
        exact rw_12
      · rename_i hno
        rcases ih with ⟨-, z⟩ | z
        · refine absurd ?_ hno
          rw [List.all_eq_true]
          intro q hq
          unfold rt_F
          rw [z]
          rcases rw_12 (n := n) (B := B) (g := gz_F n B r mr) (mr := mr) (p := q) with w | w <;> (rw [w]; simp)
        · exact z p hp
theorem fr_n {n : Nat} {B : Nat → Nat → Nat → Bool} {mr : Bool} (h : lw_P n B) (h3 : 3 ≤ n) : ∀ p, p < rk_0 n n → fr_R n B mr n p = 1 ∨ fr_R n B mr n p = 2 := by
  have h2 := Nat.two_pow_pos n
  rcases fr_12 (n := n) (B := B) (mr := mr) n with ⟨z, -⟩ | z
  · obtain ⟨q, hq⟩ := rim_ne h (m := 2 ^ n - 1) (by omega) ⟨0, by rw [tb_all]; exact decide_eq_true (by omega)⟩
    rw [z q (tb_lt (ri_2 (by omega)) hq)] at hq
    cases hq
  · exact z
theorem fr_no {n : Nat} {B : Nat → Nat → Nat → Bool} {mr : Bool} (h : lw_P n B) (h3 : 3 ≤ n) : ¬ fr_R n B mr n = fun _ => 3 := fun z => by
  have := fr_n (mr := mr) h h3 0 (n3_0 h.1 h3)
  rw [z] at this
  exact absurd this (by decide)
theorem rX7_least_113 {vs : List pt_V} {M M' : pt_M} {L : List (Nat × pt_V)} (hvs : (vs.map pt_w).sum ≤ 8) (hX : M'.2.2.2.2 = M.2.2.2.2) (h : pt_Go YX7_least (0, pt_en 0 vs, [], M) (113, L, [], M')) : pt_Does yX7_least YX7_least vs M none M' := pt_does_go tX7_least_ok nX7_least hvs hX ⟨_, by with_unfolding_all rfl, rfl, rfl⟩ h
set_option maxRecDepth 100000 in
theorem gX7_least38_0_1 (x1 : Int32) (x2 : Int32) (n : Nat) (B : Nat → Nat → Nat → Bool) (g : Nat → Nat) (N : Nat) (M : pt_M) :
    pt_Go YX7_least (0, [(0, pt_r 7 0), (1, pt_i x1), (2, pt_i x2), (3, pt_r 38 0)], [], M)
      (13, [(0, pt_r 7 0), (1, pt_i x1), (2, pt_i x2), (3, pt_r 38 0), (4, pt_i (((1 : Int32) <<< (x2 &&& 31)) - 1)), (5, pt_i 0), (6, pt_i 0)], [], M) :=
  pt_run_ok tX7_least_ok 10 [] (P := True) (by with_unfolding_all rfl) trivial
set_option maxRecDepth 100000 in
theorem gX7_least38_13_1 (l1 : Int32) (l2 : Int32) (l4 : Int32) (l5 : Int32) (l6 : Int32) (n : Nat) (B : Nat → Nat → Nat → Bool) (g : Nat → Nat) (N : Nat) (M : pt_M) (h1 : ¬ l2 ≤ l6) (h2 : nt_P M l1 l4 l6 n B) (h3 : ¬ 0 ≤ (nx_I n B l4 l6)) :
    pt_Go YX7_least (13, [(0, pt_r 7 0), (1, pt_i l1), (2, pt_i l2), (3, pt_r 38 0), (4, pt_i l4), (5, pt_i l5), (6, pt_i l6)], [], M)
      (13, [(0, pt_r 7 0), (1, pt_i l1), (2, pt_i l2), (3, pt_r 38 0), (4, pt_i l4), (5, pt_i l5), (6, pt_i (l6 + 1))], [], M) :=
  pt_run_ok tX7_least_ok 12 [.inl false, .inr (4, some (pt_i (nx_I n B l4 l6)), M), .inl false] (P := (¬ l2 ≤ l6) ∧ pt_Cal YX7_least (.invokevirtual 144) [pt_r 7 0, pt_i l1, pt_i l4, pt_i l6] M (some (pt_i (nx_I n B l4 l6))) M ∧ (¬ 0 ≤ (nx_I n B l4 l6)) ∧ True) (by with_unfolding_all rfl) ⟨h1, (pt_callV (i := 0) kX7_least_144 mX7_nextTo rfl (by decide) rfl (dX7_nextTo_t h2)), h3, trivial⟩
set_option maxRecDepth 100000 in
theorem gX7_least38_13_2 (l1 : Int32) (l2 : Int32) (l4 : Int32) (l5 : Int32) (l6 : Int32) (n : Nat) (B : Nat → Nat → Nat → Bool) (g : Nat → Nat) (N : Nat) (M : pt_M) (h1 : ¬ l2 ≤ l6) (h2 : nt_P M l1 l4 l6 n B) (h3 : 0 ≤ (nx_I n B l4 l6)) (h4 : aq_P M l1 l2 l6 n B) (h5 : rd_P (aq_M M B l6 n) l1 l2 n g B) (h6 : ¬ l5 = 0) (h7 : cn_P (to_F l2) N) (h8 : ¬ (mc_F (pt_A (rd_M (aq_M M B l6 n) n g B) 37 0) (pt_A (rd_M (aq_M M B l6 n) n g B) 38 0) N) < 0) :
    pt_Go YX7_least (13, [(0, pt_r 7 0), (1, pt_i l1), (2, pt_i l2), (3, pt_r 38 0), (4, pt_i l4), (5, pt_i l5), (6, pt_i l6)], [], M)
      (13, [(0, pt_r 7 0), (1, pt_i l1), (2, pt_i l2), (3, pt_r 38 0), (4, pt_i l4), (5, pt_i l5), (6, pt_i (l6 + 1))], [], (rd_M (aq_M M B l6 n) n g B)) :=
  pt_run_ok tX7_least_ok 32 [.inl false, .inr (4, some (pt_i (nx_I n B l4 l6)), M), .inl true, .inr (4, none, (aq_M M B l6 n)), .inr (4, none, (rd_M (aq_M M B l6 n) n g B)), .inl false, .inr (1, some (pt_i (to_F l2)), (rd_M (aq_M M B l6 n) n g B)), .inr (3, some (pt_i (mc_F (pt_A (rd_M (aq_M M B l6 n) n g B) 37 0) (pt_A (rd_M (aq_M M B l6 n) n g B) 38 0) N)), (rd_M (aq_M M B l6 n) n g B)), .inl false] (P := (¬ l2 ≤ l6) ∧ pt_Cal YX7_least (.invokevirtual 144) [pt_r 7 0, pt_i l1, pt_i l4, pt_i l6] M (some (pt_i (nx_I n B l4 l6))) M ∧ (0 ≤ (nx_I n B l4 l6)) ∧ pt_Cal YX7_least (.invokevirtual 154) [pt_r 7 0, pt_i l1, pt_i l2, pt_i l6] M none (aq_M M B l6 n) ∧ pt_Cal YX7_least (.invokevirtual 157) [pt_r 7 0, pt_i l1, pt_i l2, pt_r 37 0] (aq_M M B l6 n) none (rd_M (aq_M M B l6 n) n g B) ∧ (¬ l5 = 0) ∧ pt_Cal YX7_least (.invokestatic 161) [pt_i l2] (rd_M (aq_M M B l6 n) n g B) (some (pt_i (to_F l2))) (rd_M (aq_M M B l6 n) n g B) ∧ pt_Cal YX7_least (.invokestatic 164) [pt_r 37 0, pt_r 38 0, pt_i (to_F l2)] (rd_M (aq_M M B l6 n) n g B) (some (pt_i (mc_F (pt_A (rd_M (aq_M M B l6 n) n g B) 37 0) (pt_A (rd_M (aq_M M B l6 n) n g B) 38 0) N))) (rd_M (aq_M M B l6 n) n g B) ∧ (¬ (mc_F (pt_A (rd_M (aq_M M B l6 n) n g B) 37 0) (pt_A (rd_M (aq_M M B l6 n) n g B) 38 0) N) < 0) ∧ True) (by with_unfolding_all rfl) ⟨h1, (pt_callV (i := 0) kX7_least_144 mX7_nextTo rfl (by decide) rfl (dX7_nextTo_t h2)), h3, (pt_callV (i := 0) kX7_least_154 mX7_around rfl (by decide) rfl (dX7_around_t h4)), (pt_callV (i := 0) kX7_least_157 mX7_rowOf rfl (by decide) rfl (dX7_rowOf_t h5)), h6, (pt_callS kX7_least_161 mX7_threesOf rfl (dX7_threesOf l2 (rd_M (aq_M M B l6 n) n g B))), (pt_callS kX7_least_164 mX7_compare rfl (dX7_compare_3738t h7)), h8, trivial⟩
set_option maxRecDepth 100000 in
theorem gX7_least38_13_3 (l1 : Int32) (l2 : Int32) (l4 : Int32) (l5 : Int32) (l6 : Int32) (n : Nat) (B : Nat → Nat → Nat → Bool) (g : Nat → Nat) (N : Nat) (M : pt_M) (h1 : ¬ l2 ≤ l6) (h2 : nt_P M l1 l4 l6 n B) (h3 : 0 ≤ (nx_I n B l4 l6)) (h4 : aq_P M l1 l2 l6 n B) (h5 : rd_P (aq_M M B l6 n) l1 l2 n g B) (h6 : ¬ l5 = 0) (h7 : cn_P (to_F l2) N) (h8 : (mc_F (pt_A (rd_M (aq_M M B l6 n) n g B) 37 0) (pt_A (rd_M (aq_M M B l6 n) n g B) 38 0) N) < 0) :
    pt_Go YX7_least (13, [(0, pt_r 7 0), (1, pt_i l1), (2, pt_i l2), (3, pt_r 38 0), (4, pt_i l4), (5, pt_i l5), (6, pt_i l6)], [], M)
      (81, [(0, pt_r 7 0), (1, pt_i l1), (2, pt_i l2), (3, pt_r 38 0), (4, pt_i l4), (5, pt_i 1), (6, pt_i l6), (7, pt_i 0)], [], (rd_M (aq_M M B l6 n) n g B)) :=
  pt_run_ok tX7_least_ok 33 [.inl false, .inr (4, some (pt_i (nx_I n B l4 l6)), M), .inl true, .inr (4, none, (aq_M M B l6 n)), .inr (4, none, (rd_M (aq_M M B l6 n) n g B)), .inl false, .inr (1, some (pt_i (to_F l2)), (rd_M (aq_M M B l6 n) n g B)), .inr (3, some (pt_i (mc_F (pt_A (rd_M (aq_M M B l6 n) n g B) 37 0) (pt_A (rd_M (aq_M M B l6 n) n g B) 38 0) N)), (rd_M (aq_M M B l6 n) n g B)), .inl true] (P := (¬ l2 ≤ l6) ∧ pt_Cal YX7_least (.invokevirtual 144) [pt_r 7 0, pt_i l1, pt_i l4, pt_i l6] M (some (pt_i (nx_I n B l4 l6))) M ∧ (0 ≤ (nx_I n B l4 l6)) ∧ pt_Cal YX7_least (.invokevirtual 154) [pt_r 7 0, pt_i l1, pt_i l2, pt_i l6] M none (aq_M M B l6 n) ∧ pt_Cal YX7_least (.invokevirtual 157) [pt_r 7 0, pt_i l1, pt_i l2, pt_r 37 0] (aq_M M B l6 n) none (rd_M (aq_M M B l6 n) n g B) ∧ (¬ l5 = 0) ∧ pt_Cal YX7_least (.invokestatic 161) [pt_i l2] (rd_M (aq_M M B l6 n) n g B) (some (pt_i (to_F l2))) (rd_M (aq_M M B l6 n) n g B) ∧ pt_Cal YX7_least (.invokestatic 164) [pt_r 37 0, pt_r 38 0, pt_i (to_F l2)] (rd_M (aq_M M B l6 n) n g B) (some (pt_i (mc_F (pt_A (rd_M (aq_M M B l6 n) n g B) 37 0) (pt_A (rd_M (aq_M M B l6 n) n g B) 38 0) N))) (rd_M (aq_M M B l6 n) n g B) ∧ ((mc_F (pt_A (rd_M (aq_M M B l6 n) n g B) 37 0) (pt_A (rd_M (aq_M M B l6 n) n g B) 38 0) N) < 0) ∧ True) (by with_unfolding_all rfl) ⟨h1, (pt_callV (i := 0) kX7_least_144 mX7_nextTo rfl (by decide) rfl (dX7_nextTo_t h2)), h3, (pt_callV (i := 0) kX7_least_154 mX7_around rfl (by decide) rfl (dX7_around_t h4)), (pt_callV (i := 0) kX7_least_157 mX7_rowOf rfl (by decide) rfl (dX7_rowOf_t h5)), h6, (pt_callS kX7_least_161 mX7_threesOf rfl (dX7_threesOf l2 (rd_M (aq_M M B l6 n) n g B))), (pt_callS kX7_least_164 mX7_compare rfl (dX7_compare_3738t h7)), h8, trivial⟩
set_option maxRecDepth 100000 in
theorem gX7_least38_13_4 (l1 : Int32) (l2 : Int32) (l4 : Int32) (l5 : Int32) (l6 : Int32) (n : Nat) (B : Nat → Nat → Nat → Bool) (g : Nat → Nat) (N : Nat) (M : pt_M) (h1 : ¬ l2 ≤ l6) (h2 : nt_P M l1 l4 l6 n B) (h3 : 0 ≤ (nx_I n B l4 l6)) (h4 : aq_P M l1 l2 l6 n B) (h5 : rd_P (aq_M M B l6 n) l1 l2 n g B) (h6 : l5 = 0) :
    pt_Go YX7_least (13, [(0, pt_r 7 0), (1, pt_i l1), (2, pt_i l2), (3, pt_r 38 0), (4, pt_i l4), (5, pt_i l5), (6, pt_i l6)], [], M)
      (81, [(0, pt_r 7 0), (1, pt_i l1), (2, pt_i l2), (3, pt_r 38 0), (4, pt_i l4), (5, pt_i 1), (6, pt_i l6), (7, pt_i 0)], [], (rd_M (aq_M M B l6 n) n g B)) :=
  pt_run_ok tX7_least_ok 26 [.inl false, .inr (4, some (pt_i (nx_I n B l4 l6)), M), .inl true, .inr (4, none, (aq_M M B l6 n)), .inr (4, none, (rd_M (aq_M M B l6 n) n g B)), .inl true] (P := (¬ l2 ≤ l6) ∧ pt_Cal YX7_least (.invokevirtual 144) [pt_r 7 0, pt_i l1, pt_i l4, pt_i l6] M (some (pt_i (nx_I n B l4 l6))) M ∧ (0 ≤ (nx_I n B l4 l6)) ∧ pt_Cal YX7_least (.invokevirtual 154) [pt_r 7 0, pt_i l1, pt_i l2, pt_i l6] M none (aq_M M B l6 n) ∧ pt_Cal YX7_least (.invokevirtual 157) [pt_r 7 0, pt_i l1, pt_i l2, pt_r 37 0] (aq_M M B l6 n) none (rd_M (aq_M M B l6 n) n g B) ∧ (l5 = 0) ∧ True) (by with_unfolding_all rfl) ⟨h1, (pt_callV (i := 0) kX7_least_144 mX7_nextTo rfl (by decide) rfl (dX7_nextTo_t h2)), h3, (pt_callV (i := 0) kX7_least_154 mX7_around rfl (by decide) rfl (dX7_around_t h4)), (pt_callV (i := 0) kX7_least_157 mX7_rowOf rfl (by decide) rfl (dX7_rowOf_t h5)), h6, trivial⟩
set_option maxRecDepth 100000 in
theorem gX7_least38_13_5 (l1 : Int32) (l2 : Int32) (l4 : Int32) (l5 : Int32) (l6 : Int32) (n : Nat) (B : Nat → Nat → Nat → Bool) (g : Nat → Nat) (N : Nat) (M : pt_M) (h1 : l2 ≤ l6) :
    pt_Go YX7_least (13, [(0, pt_r 7 0), (1, pt_i l1), (2, pt_i l2), (3, pt_r 38 0), (4, pt_i l4), (5, pt_i l5), (6, pt_i l6)], [], M)
      (113, [(0, pt_r 7 0), (1, pt_i l1), (2, pt_i l2), (3, pt_r 38 0), (4, pt_i l4), (5, pt_i l5), (6, pt_i l6)], [], M) :=
  pt_run_ok tX7_least_ok 3 [.inl true] (P := (l2 ≤ l6) ∧ True) (by with_unfolding_all rfl) ⟨h1, trivial⟩
set_option maxRecDepth 100000 in
theorem gX7_least38_81_1 (l1 : Int32) (l2 : Int32) (l4 : Int32) (l5 : Int32) (l6 : Int32) (l7 : Int32) (n : Nat) (B : Nat → Nat → Nat → Bool) (g : Nat → Nat) (N : Nat) (M : pt_M) (h1 : ¬ (to_F l2) ≤ l7) (h2 : pt_in l7 120) :
    pt_Go YX7_least (81, [(0, pt_r 7 0), (1, pt_i l1), (2, pt_i l2), (3, pt_r 38 0), (4, pt_i l4), (5, pt_i l5), (6, pt_i l6), (7, pt_i l7)], [], M)
      (81, [(0, pt_r 7 0), (1, pt_i l1), (2, pt_i l2), (3, pt_r 38 0), (4, pt_i l4), (5, pt_i l5), (6, pt_i l6), (7, pt_i (l7 + 1))], [], (pt_wA M 38 0 (upd (pt_A M 38 0) (pt_nt l7) (pt_A M 37 0 (pt_nt l7))))) :=
  pt_run_ok tX7_least_ok 13 [.inr (1, some (pt_i (to_F l2)), M), .inl false] (P := pt_Cal YX7_least (.invokestatic 161) [pt_i l2] M (some (pt_i (to_F l2))) M ∧ (¬ (to_F l2) ≤ l7) ∧ (pt_in l7 120) ∧ (pt_in l7 120) ∧ True) (by with_unfolding_all rfl) ⟨(pt_callS kX7_least_161 mX7_threesOf rfl (dX7_threesOf l2 M)), h1, h2, h2, trivial⟩
set_option maxRecDepth 100000 in
theorem gX7_least38_81_2 (l1 : Int32) (l2 : Int32) (l4 : Int32) (l5 : Int32) (l6 : Int32) (l7 : Int32) (n : Nat) (B : Nat → Nat → Nat → Bool) (g : Nat → Nat) (N : Nat) (M : pt_M) (h1 : (to_F l2) ≤ l7) :
    pt_Go YX7_least (81, [(0, pt_r 7 0), (1, pt_i l1), (2, pt_i l2), (3, pt_r 38 0), (4, pt_i l4), (5, pt_i l5), (6, pt_i l6), (7, pt_i l7)], [], M)
      (13, [(0, pt_r 7 0), (1, pt_i l1), (2, pt_i l2), (3, pt_r 38 0), (4, pt_i l4), (5, pt_i l5), (6, pt_i (l6 + 1))], [], M) :=
  (pt_run_ok tX7_least_ok 6 [.inr (1, some (pt_i (to_F l2)), M), .inl true] (P := pt_Cal YX7_least (.invokestatic 161) [pt_i l2] M (some (pt_i (to_F l2))) M ∧ ((to_F l2) ≤ l7) ∧ True) (by with_unfolding_all rfl) ⟨(pt_callS kX7_least_161 mX7_threesOf rfl (dX7_threesOf l2 M)), h1, trivial⟩ : pt_Go YX7_least _ (13, [(0, pt_r 7 0), (1, pt_i l1), (2, pt_i l2), (3, pt_r 38 0), (4, pt_i l4), (5, pt_i l5), (6, pt_i (l6 + 1)), (7, pt_i l7)], [], M)).tr (pt_pick [0, 1, 2, 3, 4, 5, 6] (by with_unfolding_all rfl))
theorem dX7_least_38 {o n : Nat} {B : Nat → Nat → Nat → Bool} {M : pt_M} (hml : ml_P M o n B) (h : lw_P n B) (hd : dg_P n B) (h3 : 3 ≤ n) : ∃ M', pt_Does yX7_least YX7_least [pt_r 7 0, pt_i (nI o), pt_i (nI n), pt_r 38 0] M none M' ∧ lk_P 38 M M' ∧ ∀ p, p < rk_0 n n → pt_A M' 38 0 p = fr_R n B false n p := by
  have hn := h.1
  have h2 := pb_p2 hn
  have h20 := Nat.two_pow_pos n
  have ho := hml.1
  have hcn := to_nI hn
  have key : ∀ r, r ≤ n → ∃ a M1, pt_Go YX7_least (13, [(0, pt_r 7 0), (1, pt_i (nI o)), (2, pt_i (nI n)), (3, pt_r 38 0), (4, pt_i (nI (2 ^ n - 1))), (5, pt_i 0), (6, pt_i 0)], [], M) (13, [(0, pt_r 7 0), (1, pt_i (nI o)), (2, pt_i (nI n)), (3, pt_r 38 0), (4, pt_i (nI (2 ^ n - 1))), (5, pt_i a), (6, pt_i (nI r))], [], M1) ∧ lk_P 38 M M1 ∧ ((a = 0 ∧ fr_R n B false r = fun _ => 3) ∨ (a = 1 ∧ ∀ p, p < rk_0 n n → pt_A M1 38 0 p = fr_R n B false r p ∧ (fr_R n B false r p = 1 ∨ fr_R n B false r p = 2))) := by
    intro r
    induction r with
    | zero => exact fun _ => ⟨0, M, pt_Go.rf, lk_P.rf, .inl ⟨rfl, by rw [fr_R]⟩⟩
    | succ r ih =>
      intro hr
      obtain ⟨a, M1, g1, k1, inv⟩ := ih (by omega)
      have hml1 : ml_P M1 o n B := ml_A hml (k1.2.1 32 0 (by decide) (by decide) (by decide))
      have hnt : nt_P M1 (nI o) (nI (2 ^ n - 1)) (nI r) n B := ⟨o, 2 ^ n - 1, r, rfl, rfl, rfl, hml1, by omega, by omega⟩
      have hge : ¬ nI n ≤ nI r := nI_ge (by omega) (by omega)
      have hbit : (ri_F n B (2 ^ n - 1)).testBit r = (nx_F n B (2 ^ n - 1) r).isSome := by
        rw [ri_bit (by rw [pc_all hn]; exact h3) (by omega), tb_all, decide_eq_true (by omega), Bool.true_and]
      cases c : nx_F n B (2 ^ n - 1) r with
      | none =>
        have hb : (ri_F n B (2 ^ n - 1)).testBit r = false := by rw [hbit, c]; rfl
        refine ⟨a, M1, g1.tr ((gX7_least38_13_1 (nI o) (nI n) (nI (2 ^ n - 1)) a (nI r) n B id 0 M1 hge hnt (fun z => Int32.not_le.mpr (nx_n (by omega) (by omega) c) z)).to (by rw [nI_1])), k1, ?_⟩
        rw [fr_s, hb, if_neg Bool.false_ne_true]
        exact inv
      | some j =>
        have hb : (ri_F n B (2 ^ n - 1)).testBit r = true := by rw [hbit, c]; rfl
        have hrm := ri_rm hn h3 hb
        have hz := gz_all h hd h3 hrm false
        have h0 := Int32.not_lt.mp (nx_y hn (by omega) (by omega) c).2
        have ha : aq_P M1 (nI o) (nI n) (nI r) n B := ⟨o, r, rfl, rfl, rfl, hml1, h, hd, hrm⟩
        have hml2 : ml_P (aq_M M1 B (nI r) n) o n B := hml1
        have hrd : rd_P (aq_M M1 B (nI r) n) (nI o) (nI n) n (gz_F n B r false) B := by
          refine ⟨o, rfl, rfl, hml2, fun e he => ⟨?_, (hz e he).1⟩, fun x y xy hy => gz_inj h hd h3 hrm (by omega) hy (by omega)⟩
          unfold aq_M
          rw [pt_A_wA, pt_nt_nI (by omega)]
          exact (hz e he).2.2.1 _
        have hlk : lk_P 38 M1 (rd_M (aq_M M1 B (nI r) n) n (gz_F n B r false) B) := lk_rd
        generalize hM2 : rd_M (aq_M M1 B (nI r) n) n (gz_F n B r false) B = M2 at hlk
        have e37 : ∀ p, p < rk_0 n n → pt_A M2 37 0 p = rw_F n B (gz_F n B r false) false p := fun p hp => by
          rw [← hM2]
          unfold rd_M
          rw [pt_A_wA]
          exact if_pos hp
        have e38 : pt_A M2 38 0 = pt_A M1 38 0 := by
          rw [← hM2]
          rfl
        have C : ∀ l, pt_Go YX7_least (81, [(0, pt_r 7 0), (1, pt_i (nI o)), (2, pt_i (nI n)), (3, pt_r 38 0), (4, pt_i (nI (2 ^ n - 1))), (5, pt_i l), (6, pt_i (nI r)), (7, pt_i 0)], [], M2) (13, [(0, pt_r 7 0), (1, pt_i (nI o)), (2, pt_i (nI n)), (3, pt_r 38 0), (4, pt_i (nI (2 ^ n - 1))), (5, pt_i l), (6, pt_i (nI (r + 1)))], [], pt_wA M2 38 0 (co_F (pt_A M2 38 0) (pt_A M2 37 0) (rk_0 n n))) := fun l => by
          have K := pt_for0 (Y := YX7_least) (fun q => (81, [(0, pt_r 7 0), (1, pt_i (nI o)), (2, pt_i (nI n)), (3, pt_r 38 0), (4, pt_i (nI (2 ^ n - 1))), (5, pt_i l), (6, pt_i (nI r)), (7, pt_i (nI q))], [], pt_wA M2 38 0 (co_F (pt_A M2 38 0) (pt_A M2 37 0) q))) (n := rk_0 n n) fun q hq => by
            refine (gX7_least38_81_1 (nI o) (nI n) (nI (2 ^ n - 1)) l (nI r) (nI q) n B id 0 _ (by rw [hcn.1]; exact nI_ge hq (by have := hcn.2; omega)) (pt_in_nI (by have := hcn.2; omega) (by decide))).to ?_
            have e : pt_A (pt_wA M2 38 0 (co_F (pt_A M2 38 0) (pt_A M2 37 0) q)) 37 0 = pt_A M2 37 0 := rfl
            rw [wA_2 _ _ _ _ (by have := hcn.2; omega), e, pt_nt_nI (by have := hcn.2; omega), co_step, nI_1]
          rw [co_zero, pt_wA_self] at K
          exact K.tr ((gX7_least38_81_2 (nI o) (nI n) (nI (2 ^ n - 1)) l (nI r) (nI (rk_0 n n)) n B id 0 _ (by rw [hcn.1]; exact Int32.le_refl _)).to (by rw [nI_1]))
        have w12 : ∀ p, rw_F n B (gz_F n B r false) false p = 1 ∨ rw_F n B (gz_F n B r false) false p = 2 := fun p => by
          unfold rw_F
          split
          · exact .inl rfl
          · exact .inr rfl
        have hlk3 : lk_P 38 M (pt_wA M2 38 0 (co_F (pt_A M2 38 0) (pt_A M2 37 0) (rk_0 n n))) := (k1.tr hlk).tr lk_K
        have new : ∀ p, p < rk_0 n n → pt_A (pt_wA M2 38 0 (co_F (pt_A M2 38 0) (pt_A M2 37 0) (rk_0 n n))) 38 0 p = rw_F n B (gz_F n B r false) false p := fun p hp => by
          rw [pt_A_wA]
          exact (if_pos hp).trans (e37 p hp)
        rcases inv with ⟨rfl, i2⟩ | ⟨rfl, i2⟩
        · have g4 := gX7_least38_13_4 (nI o) (nI n) (nI (2 ^ n - 1)) 0 (nI r) n B (gz_F n B r false) 0 M1 hge hnt h0 ha hrd rfl
          rw [hM2] at g4
          refine ⟨1, _, g1.tr (g4.tr (C 1)), hlk3, .inr ⟨rfl, fun p hp => ?_⟩⟩
          have hal : ((List.range (rk_0 n n)).all fun p => !rt_F (fr_R n B false r) (rw_F n B (gz_F n B r false) false) p) = true := by
            rw [List.all_eq_true]
            intro q hq
            unfold rt_F
            rw [i2]
            rcases w12 q with w | w <;> (rw [w]; simp)
          rw [fr_s, hb, if_pos rfl, if_pos hal]
          have e : co_F (fr_R n B false r) (rw_F n B (gz_F n B r false) false) (rk_0 n n) p = rw_F n B (gz_F n B r false) false p := if_pos hp
          rw [e]
          exact ⟨new p hp, w12 p⟩
        · have hcmp := mc_cg (f := pt_A M2 37 0) (f' := rw_F n B (gz_F n B r false) false) (w := pt_A M2 38 0) (w' := fr_R n B false r) (N := rk_0 n n) e37 fun p hp => by rw [e38]; exact (i2 p hp).1
          have hal := mc_al (f := rw_F n B (gz_F n B r false) false) (w := fr_R n B false r) (N := rk_0 n n) (fun p hp => w12 p) fun p hp => (i2 p hp).2
          by_cases hc : mc_F (rw_F n B (gz_F n B r false) false) (fr_R n B false r) (rk_0 n n) < 0
          · have g4 := gX7_least38_13_3 (nI o) (nI n) (nI (2 ^ n - 1)) 1 (nI r) n B (gz_F n B r false) (rk_0 n n) M1 hge hnt h0 ha hrd (by decide) hcn (by rw [hM2, hcmp]; exact hc)
            rw [hM2] at g4
            refine ⟨1, _, g1.tr (g4.tr (C 1)), hlk3, .inr ⟨rfl, fun p hp => ?_⟩⟩
            rw [fr_s, hb, if_pos rfl, if_pos (hal.1 hc)]
            have e : co_F (fr_R n B false r) (rw_F n B (gz_F n B r false) false) (rk_0 n n) p = rw_F n B (gz_F n B r false) false p := if_pos hp
            rw [e]
            exact ⟨new p hp, w12 p⟩
          · have g4 := gX7_least38_13_2 (nI o) (nI n) (nI (2 ^ n - 1)) 1 (nI r) n B (gz_F n B r false) (rk_0 n n) M1 hge hnt h0 ha hrd (by decide) hcn (by rw [hM2, hcmp]; exact hc)
            rw [hM2] at g4
            refine ⟨1, M2, g1.tr (g4.to (by rw [nI_1])), k1.tr hlk, .inr ⟨rfl, fun p hp => ?_⟩⟩
            have e : fr_R n B false (r + 1) p = fr_R n B false r p := by
              rw [fr_s, hb, if_pos rfl]
              split
              · exact hal.2 hc (by assumption) p hp
              · rfl
            rw [e, e38]
            exact i2 p hp
  obtain ⟨a, M1, g1, k1, inv⟩ := key n (Nat.le_refl n)
  refine ⟨M1, rX7_least_113 (Nat.le_of_ble_eq_true rfl) k1.x5 (((gX7_least38_0_1 (nI o) (nI n) n B id 0 M).to (by rw [e2_n hn])).tr (g1.tr (gX7_least38_13_5 (nI o) (nI n) (nI (2 ^ n - 1)) a (nI n) n B id 0 M1 (Int32.le_refl _)))), k1, fun p hp => ?_⟩
  rcases inv with ⟨-, i2⟩ | ⟨-, i2⟩
  · exact absurd i2 (fr_no h h3)
  · exact (i2 p hp).1
set_option maxRecDepth 100000 in
theorem gX7_least39_0_1 (x1 : Int32) (x2 : Int32) (n : Nat) (B : Nat → Nat → Nat → Bool) (g : Nat → Nat) (N : Nat) (M : pt_M) :
    pt_Go YX7_least (0, [(0, pt_r 7 0), (1, pt_i x1), (2, pt_i x2), (3, pt_r 39 0)], [], M)
      (13, [(0, pt_r 7 0), (1, pt_i x1), (2, pt_i x2), (3, pt_r 39 0), (4, pt_i (((1 : Int32) <<< (x2 &&& 31)) - 1)), (5, pt_i 0), (6, pt_i 0)], [], M) :=
  pt_run_ok tX7_least_ok 10 [] (P := True) (by with_unfolding_all rfl) trivial
set_option maxRecDepth 100000 in
theorem gX7_least39_13_1 (l1 : Int32) (l2 : Int32) (l4 : Int32) (l5 : Int32) (l6 : Int32) (n : Nat) (B : Nat → Nat → Nat → Bool) (g : Nat → Nat) (N : Nat) (M : pt_M) (h1 : ¬ l2 ≤ l6) (h2 : nt_P M l1 l4 l6 n B) (h3 : ¬ 0 ≤ (nx_I n B l4 l6)) :
    pt_Go YX7_least (13, [(0, pt_r 7 0), (1, pt_i l1), (2, pt_i l2), (3, pt_r 39 0), (4, pt_i l4), (5, pt_i l5), (6, pt_i l6)], [], M)
      (13, [(0, pt_r 7 0), (1, pt_i l1), (2, pt_i l2), (3, pt_r 39 0), (4, pt_i l4), (5, pt_i l5), (6, pt_i (l6 + 1))], [], M) :=
  pt_run_ok tX7_least_ok 12 [.inl false, .inr (4, some (pt_i (nx_I n B l4 l6)), M), .inl false] (P := (¬ l2 ≤ l6) ∧ pt_Cal YX7_least (.invokevirtual 144) [pt_r 7 0, pt_i l1, pt_i l4, pt_i l6] M (some (pt_i (nx_I n B l4 l6))) M ∧ (¬ 0 ≤ (nx_I n B l4 l6)) ∧ True) (by with_unfolding_all rfl) ⟨h1, (pt_callV (i := 0) kX7_least_144 mX7_nextTo rfl (by decide) rfl (dX7_nextTo_t h2)), h3, trivial⟩
set_option maxRecDepth 100000 in
theorem gX7_least39_13_2 (l1 : Int32) (l2 : Int32) (l4 : Int32) (l5 : Int32) (l6 : Int32) (n : Nat) (B : Nat → Nat → Nat → Bool) (g : Nat → Nat) (N : Nat) (M : pt_M) (h1 : ¬ l2 ≤ l6) (h2 : nt_P M l1 l4 l6 n B) (h3 : 0 ≤ (nx_I n B l4 l6)) (h4 : aq_P M l1 l2 l6 n B) (h5 : rd_P (aq_M M B l6 n) l1 l2 n g B) (h6 : ¬ l5 = 0) (h7 : cn_P (to_F l2) N) (h8 : ¬ (mc_F (pt_A (rd_M (aq_M M B l6 n) n g B) 37 0) (pt_A (rd_M (aq_M M B l6 n) n g B) 39 0) N) < 0) :
    pt_Go YX7_least (13, [(0, pt_r 7 0), (1, pt_i l1), (2, pt_i l2), (3, pt_r 39 0), (4, pt_i l4), (5, pt_i l5), (6, pt_i l6)], [], M)
      (13, [(0, pt_r 7 0), (1, pt_i l1), (2, pt_i l2), (3, pt_r 39 0), (4, pt_i l4), (5, pt_i l5), (6, pt_i (l6 + 1))], [], (rd_M (aq_M M B l6 n) n g B)) :=
  pt_run_ok tX7_least_ok 32 [.inl false, .inr (4, some (pt_i (nx_I n B l4 l6)), M), .inl true, .inr (4, none, (aq_M M B l6 n)), .inr (4, none, (rd_M (aq_M M B l6 n) n g B)), .inl false, .inr (1, some (pt_i (to_F l2)), (rd_M (aq_M M B l6 n) n g B)), .inr (3, some (pt_i (mc_F (pt_A (rd_M (aq_M M B l6 n) n g B) 37 0) (pt_A (rd_M (aq_M M B l6 n) n g B) 39 0) N)), (rd_M (aq_M M B l6 n) n g B)), .inl false] (P := (¬ l2 ≤ l6) ∧ pt_Cal YX7_least (.invokevirtual 144) [pt_r 7 0, pt_i l1, pt_i l4, pt_i l6] M (some (pt_i (nx_I n B l4 l6))) M ∧ (0 ≤ (nx_I n B l4 l6)) ∧ pt_Cal YX7_least (.invokevirtual 154) [pt_r 7 0, pt_i l1, pt_i l2, pt_i l6] M none (aq_M M B l6 n) ∧ pt_Cal YX7_least (.invokevirtual 157) [pt_r 7 0, pt_i l1, pt_i l2, pt_r 37 0] (aq_M M B l6 n) none (rd_M (aq_M M B l6 n) n g B) ∧ (¬ l5 = 0) ∧ pt_Cal YX7_least (.invokestatic 161) [pt_i l2] (rd_M (aq_M M B l6 n) n g B) (some (pt_i (to_F l2))) (rd_M (aq_M M B l6 n) n g B) ∧ pt_Cal YX7_least (.invokestatic 164) [pt_r 37 0, pt_r 39 0, pt_i (to_F l2)] (rd_M (aq_M M B l6 n) n g B) (some (pt_i (mc_F (pt_A (rd_M (aq_M M B l6 n) n g B) 37 0) (pt_A (rd_M (aq_M M B l6 n) n g B) 39 0) N))) (rd_M (aq_M M B l6 n) n g B) ∧ (¬ (mc_F (pt_A (rd_M (aq_M M B l6 n) n g B) 37 0) (pt_A (rd_M (aq_M M B l6 n) n g B) 39 0) N) < 0) ∧ True) (by with_unfolding_all rfl) ⟨h1, (pt_callV (i := 0) kX7_least_144 mX7_nextTo rfl (by decide) rfl (dX7_nextTo_t h2)), h3, (pt_callV (i := 0) kX7_least_154 mX7_around rfl (by decide) rfl (dX7_around_t h4)), (pt_callV (i := 0) kX7_least_157 mX7_rowOf rfl (by decide) rfl (dX7_rowOf_t h5)), h6, (pt_callS kX7_least_161 mX7_threesOf rfl (dX7_threesOf l2 (rd_M (aq_M M B l6 n) n g B))), (pt_callS kX7_least_164 mX7_compare rfl (dX7_compare_3739t h7)), h8, trivial⟩
set_option maxRecDepth 100000 in
theorem gX7_least39_13_3 (l1 : Int32) (l2 : Int32) (l4 : Int32) (l5 : Int32) (l6 : Int32) (n : Nat) (B : Nat → Nat → Nat → Bool) (g : Nat → Nat) (N : Nat) (M : pt_M) (h1 : ¬ l2 ≤ l6) (h2 : nt_P M l1 l4 l6 n B) (h3 : 0 ≤ (nx_I n B l4 l6)) (h4 : aq_P M l1 l2 l6 n B) (h5 : rd_P (aq_M M B l6 n) l1 l2 n g B) (h6 : ¬ l5 = 0) (h7 : cn_P (to_F l2) N) (h8 : (mc_F (pt_A (rd_M (aq_M M B l6 n) n g B) 37 0) (pt_A (rd_M (aq_M M B l6 n) n g B) 39 0) N) < 0) :
    pt_Go YX7_least (13, [(0, pt_r 7 0), (1, pt_i l1), (2, pt_i l2), (3, pt_r 39 0), (4, pt_i l4), (5, pt_i l5), (6, pt_i l6)], [], M)
      (81, [(0, pt_r 7 0), (1, pt_i l1), (2, pt_i l2), (3, pt_r 39 0), (4, pt_i l4), (5, pt_i 1), (6, pt_i l6), (7, pt_i 0)], [], (rd_M (aq_M M B l6 n) n g B)) :=
  pt_run_ok tX7_least_ok 33 [.inl false, .inr (4, some (pt_i (nx_I n B l4 l6)), M), .inl true, .inr (4, none, (aq_M M B l6 n)), .inr (4, none, (rd_M (aq_M M B l6 n) n g B)), .inl false, .inr (1, some (pt_i (to_F l2)), (rd_M (aq_M M B l6 n) n g B)), .inr (3, some (pt_i (mc_F (pt_A (rd_M (aq_M M B l6 n) n g B) 37 0) (pt_A (rd_M (aq_M M B l6 n) n g B) 39 0) N)), (rd_M (aq_M M B l6 n) n g B)), .inl true] (P := (¬ l2 ≤ l6) ∧ pt_Cal YX7_least (.invokevirtual 144) [pt_r 7 0, pt_i l1, pt_i l4, pt_i l6] M (some (pt_i (nx_I n B l4 l6))) M ∧ (0 ≤ (nx_I n B l4 l6)) ∧ pt_Cal YX7_least (.invokevirtual 154) [pt_r 7 0, pt_i l1, pt_i l2, pt_i l6] M none (aq_M M B l6 n) ∧ pt_Cal YX7_least (.invokevirtual 157) [pt_r 7 0, pt_i l1, pt_i l2, pt_r 37 0] (aq_M M B l6 n) none (rd_M (aq_M M B l6 n) n g B) ∧ (¬ l5 = 0) ∧ pt_Cal YX7_least (.invokestatic 161) [pt_i l2] (rd_M (aq_M M B l6 n) n g B) (some (pt_i (to_F l2))) (rd_M (aq_M M B l6 n) n g B) ∧ pt_Cal YX7_least (.invokestatic 164) [pt_r 37 0, pt_r 39 0, pt_i (to_F l2)] (rd_M (aq_M M B l6 n) n g B) (some (pt_i (mc_F (pt_A (rd_M (aq_M M B l6 n) n g B) 37 0) (pt_A (rd_M (aq_M M B l6 n) n g B) 39 0) N))) (rd_M (aq_M M B l6 n) n g B) ∧ ((mc_F (pt_A (rd_M (aq_M M B l6 n) n g B) 37 0) (pt_A (rd_M (aq_M M B l6 n) n g B) 39 0) N) < 0) ∧ True) (by with_unfolding_all rfl) ⟨h1, (pt_callV (i := 0) kX7_least_144 mX7_nextTo rfl (by decide) rfl (dX7_nextTo_t h2)), h3, (pt_callV (i := 0) kX7_least_154 mX7_around rfl (by decide) rfl (dX7_around_t h4)), (pt_callV (i := 0) kX7_least_157 mX7_rowOf rfl (by decide) rfl (dX7_rowOf_t h5)), h6, (pt_callS kX7_least_161 mX7_threesOf rfl (dX7_threesOf l2 (rd_M (aq_M M B l6 n) n g B))), (pt_callS kX7_least_164 mX7_compare rfl (dX7_compare_3739t h7)), h8, trivial⟩
set_option maxRecDepth 100000 in
theorem gX7_least39_13_4 (l1 : Int32) (l2 : Int32) (l4 : Int32) (l5 : Int32) (l6 : Int32) (n : Nat) (B : Nat → Nat → Nat → Bool) (g : Nat → Nat) (N : Nat) (M : pt_M) (h1 : ¬ l2 ≤ l6) (h2 : nt_P M l1 l4 l6 n B) (h3 : 0 ≤ (nx_I n B l4 l6)) (h4 : aq_P M l1 l2 l6 n B) (h5 : rd_P (aq_M M B l6 n) l1 l2 n g B) (h6 : l5 = 0) :
    pt_Go YX7_least (13, [(0, pt_r 7 0), (1, pt_i l1), (2, pt_i l2), (3, pt_r 39 0), (4, pt_i l4), (5, pt_i l5), (6, pt_i l6)], [], M)
      (81, [(0, pt_r 7 0), (1, pt_i l1), (2, pt_i l2), (3, pt_r 39 0), (4, pt_i l4), (5, pt_i 1), (6, pt_i l6), (7, pt_i 0)], [], (rd_M (aq_M M B l6 n) n g B)) :=
  pt_run_ok tX7_least_ok 26 [.inl false, .inr (4, some (pt_i (nx_I n B l4 l6)), M), .inl true, .inr (4, none, (aq_M M B l6 n)), .inr (4, none, (rd_M (aq_M M B l6 n) n g B)), .inl true] (P := (¬ l2 ≤ l6) ∧ pt_Cal YX7_least (.invokevirtual 144) [pt_r 7 0, pt_i l1, pt_i l4, pt_i l6] M (some (pt_i (nx_I n B l4 l6))) M ∧ (0 ≤ (nx_I n B l4 l6)) ∧ pt_Cal YX7_least (.invokevirtual 154) [pt_r 7 0, pt_i l1, pt_i l2, pt_i l6] M none (aq_M M B l6 n) ∧ pt_Cal YX7_least (.invokevirtual 157) [pt_r 7 0, pt_i l1, pt_i l2, pt_r 37 0] (aq_M M B l6 n) none (rd_M (aq_M M B l6 n) n g B) ∧ (l5 = 0) ∧ True) (by with_unfolding_all rfl) ⟨h1, (pt_callV (i := 0) kX7_least_144 mX7_nextTo rfl (by decide) rfl (dX7_nextTo_t h2)), h3, (pt_callV (i := 0) kX7_least_154 mX7_around rfl (by decide) rfl (dX7_around_t h4)), (pt_callV (i := 0) kX7_least_157 mX7_rowOf rfl (by decide) rfl (dX7_rowOf_t h5)), h6, trivial⟩
set_option maxRecDepth 100000 in
theorem gX7_least39_13_5 (l1 : Int32) (l2 : Int32) (l4 : Int32) (l5 : Int32) (l6 : Int32) (n : Nat) (B : Nat → Nat → Nat → Bool) (g : Nat → Nat) (N : Nat) (M : pt_M) (h1 : l2 ≤ l6) :
    pt_Go YX7_least (13, [(0, pt_r 7 0), (1, pt_i l1), (2, pt_i l2), (3, pt_r 39 0), (4, pt_i l4), (5, pt_i l5), (6, pt_i l6)], [], M)
      (113, [(0, pt_r 7 0), (1, pt_i l1), (2, pt_i l2), (3, pt_r 39 0), (4, pt_i l4), (5, pt_i l5), (6, pt_i l6)], [], M) :=
  pt_run_ok tX7_least_ok 3 [.inl true] (P := (l2 ≤ l6) ∧ True) (by with_unfolding_all rfl) ⟨h1, trivial⟩
set_option maxRecDepth 100000 in
theorem gX7_least39_81_1 (l1 : Int32) (l2 : Int32) (l4 : Int32) (l5 : Int32) (l6 : Int32) (l7 : Int32) (n : Nat) (B : Nat → Nat → Nat → Bool) (g : Nat → Nat) (N : Nat) (M : pt_M) (h1 : ¬ (to_F l2) ≤ l7) (h2 : pt_in l7 120) :
    pt_Go YX7_least (81, [(0, pt_r 7 0), (1, pt_i l1), (2, pt_i l2), (3, pt_r 39 0), (4, pt_i l4), (5, pt_i l5), (6, pt_i l6), (7, pt_i l7)], [], M)
      (81, [(0, pt_r 7 0), (1, pt_i l1), (2, pt_i l2), (3, pt_r 39 0), (4, pt_i l4), (5, pt_i l5), (6, pt_i l6), (7, pt_i (l7 + 1))], [], (pt_wA M 39 0 (upd (pt_A M 39 0) (pt_nt l7) (pt_A M 37 0 (pt_nt l7))))) :=
  pt_run_ok tX7_least_ok 13 [.inr (1, some (pt_i (to_F l2)), M), .inl false] (P := pt_Cal YX7_least (.invokestatic 161) [pt_i l2] M (some (pt_i (to_F l2))) M ∧ (¬ (to_F l2) ≤ l7) ∧ (pt_in l7 120) ∧ (pt_in l7 120) ∧ True) (by with_unfolding_all rfl) ⟨(pt_callS kX7_least_161 mX7_threesOf rfl (dX7_threesOf l2 M)), h1, h2, h2, trivial⟩
set_option maxRecDepth 100000 in
theorem gX7_least39_81_2 (l1 : Int32) (l2 : Int32) (l4 : Int32) (l5 : Int32) (l6 : Int32) (l7 : Int32) (n : Nat) (B : Nat → Nat → Nat → Bool) (g : Nat → Nat) (N : Nat) (M : pt_M) (h1 : (to_F l2) ≤ l7) :
    pt_Go YX7_least (81, [(0, pt_r 7 0), (1, pt_i l1), (2, pt_i l2), (3, pt_r 39 0), (4, pt_i l4), (5, pt_i l5), (6, pt_i l6), (7, pt_i l7)], [], M)
      (13, [(0, pt_r 7 0), (1, pt_i l1), (2, pt_i l2), (3, pt_r 39 0), (4, pt_i l4), (5, pt_i l5), (6, pt_i (l6 + 1))], [], M) :=
  (pt_run_ok tX7_least_ok 6 [.inr (1, some (pt_i (to_F l2)), M), .inl true] (P := pt_Cal YX7_least (.invokestatic 161) [pt_i l2] M (some (pt_i (to_F l2))) M ∧ ((to_F l2) ≤ l7) ∧ True) (by with_unfolding_all rfl) ⟨(pt_callS kX7_least_161 mX7_threesOf rfl (dX7_threesOf l2 M)), h1, trivial⟩ : pt_Go YX7_least _ (13, [(0, pt_r 7 0), (1, pt_i l1), (2, pt_i l2), (3, pt_r 39 0), (4, pt_i l4), (5, pt_i l5), (6, pt_i (l6 + 1)), (7, pt_i l7)], [], M)).tr (pt_pick [0, 1, 2, 3, 4, 5, 6] (by with_unfolding_all rfl))
theorem dX7_least_39 {o n : Nat} {B : Nat → Nat → Nat → Bool} {M : pt_M} (hml : ml_P M o n B) (h : lw_P n B) (hd : dg_P n B) (h3 : 3 ≤ n) : ∃ M', pt_Does yX7_least YX7_least [pt_r 7 0, pt_i (nI o), pt_i (nI n), pt_r 39 0] M none M' ∧ lk_P 39 M M' ∧ ∀ p, p < rk_0 n n → pt_A M' 39 0 p = fr_R n B false n p := by
  have hn := h.1
  have h2 := pb_p2 hn
  have h20 := Nat.two_pow_pos n
  have ho := hml.1
  have hcn := to_nI hn
  have key : ∀ r, r ≤ n → ∃ a M1, pt_Go YX7_least (13, [(0, pt_r 7 0), (1, pt_i (nI o)), (2, pt_i (nI n)), (3, pt_r 39 0), (4, pt_i (nI (2 ^ n - 1))), (5, pt_i 0), (6, pt_i 0)], [], M) (13, [(0, pt_r 7 0), (1, pt_i (nI o)), (2, pt_i (nI n)), (3, pt_r 39 0), (4, pt_i (nI (2 ^ n - 1))), (5, pt_i a), (6, pt_i (nI r))], [], M1) ∧ lk_P 39 M M1 ∧ ((a = 0 ∧ fr_R n B false r = fun _ => 3) ∨ (a = 1 ∧ ∀ p, p < rk_0 n n → pt_A M1 39 0 p = fr_R n B false r p ∧ (fr_R n B false r p = 1 ∨ fr_R n B false r p = 2))) := by
    intro r
    induction r with
    | zero => exact fun _ => ⟨0, M, pt_Go.rf, lk_P.rf, .inl ⟨rfl, by rw [fr_R]⟩⟩
    | succ r ih =>
      intro hr
      obtain ⟨a, M1, g1, k1, inv⟩ := ih (by omega)
      have hml1 : ml_P M1 o n B := ml_A hml (k1.2.1 32 0 (by decide) (by decide) (by decide))
      have hnt : nt_P M1 (nI o) (nI (2 ^ n - 1)) (nI r) n B := ⟨o, 2 ^ n - 1, r, rfl, rfl, rfl, hml1, by omega, by omega⟩
      have hge : ¬ nI n ≤ nI r := nI_ge (by omega) (by omega)
      have hbit : (ri_F n B (2 ^ n - 1)).testBit r = (nx_F n B (2 ^ n - 1) r).isSome := by
        rw [ri_bit (by rw [pc_all hn]; exact h3) (by omega), tb_all, decide_eq_true (by omega), Bool.true_and]
      cases c : nx_F n B (2 ^ n - 1) r with
      | none =>
        have hb : (ri_F n B (2 ^ n - 1)).testBit r = false := by rw [hbit, c]; rfl
        refine ⟨a, M1, g1.tr ((gX7_least39_13_1 (nI o) (nI n) (nI (2 ^ n - 1)) a (nI r) n B id 0 M1 hge hnt (fun z => Int32.not_le.mpr (nx_n (by omega) (by omega) c) z)).to (by rw [nI_1])), k1, ?_⟩
        rw [fr_s, hb, if_neg Bool.false_ne_true]
        exact inv
      | some j =>
        have hb : (ri_F n B (2 ^ n - 1)).testBit r = true := by rw [hbit, c]; rfl
        have hrm := ri_rm hn h3 hb
        have hz := gz_all h hd h3 hrm false
        have h0 := Int32.not_lt.mp (nx_y hn (by omega) (by omega) c).2
        have ha : aq_P M1 (nI o) (nI n) (nI r) n B := ⟨o, r, rfl, rfl, rfl, hml1, h, hd, hrm⟩
        have hml2 : ml_P (aq_M M1 B (nI r) n) o n B := hml1
        have hrd : rd_P (aq_M M1 B (nI r) n) (nI o) (nI n) n (gz_F n B r false) B := by
          refine ⟨o, rfl, rfl, hml2, fun e he => ⟨?_, (hz e he).1⟩, fun x y xy hy => gz_inj h hd h3 hrm (by omega) hy (by omega)⟩
          unfold aq_M
          rw [pt_A_wA, pt_nt_nI (by omega)]
          exact (hz e he).2.2.1 _
        have hlk : lk_P 39 M1 (rd_M (aq_M M1 B (nI r) n) n (gz_F n B r false) B) := lk_rd
        generalize hM2 : rd_M (aq_M M1 B (nI r) n) n (gz_F n B r false) B = M2 at hlk
        have e37 : ∀ p, p < rk_0 n n → pt_A M2 37 0 p = rw_F n B (gz_F n B r false) false p := fun p hp => by
          rw [← hM2]
          unfold rd_M
          rw [pt_A_wA]
          exact if_pos hp
        have e39 : pt_A M2 39 0 = pt_A M1 39 0 := by
          rw [← hM2]
          rfl
        have C : ∀ l, pt_Go YX7_least (81, [(0, pt_r 7 0), (1, pt_i (nI o)), (2, pt_i (nI n)), (3, pt_r 39 0), (4, pt_i (nI (2 ^ n - 1))), (5, pt_i l), (6, pt_i (nI r)), (7, pt_i 0)], [], M2) (13, [(0, pt_r 7 0), (1, pt_i (nI o)), (2, pt_i (nI n)), (3, pt_r 39 0), (4, pt_i (nI (2 ^ n - 1))), (5, pt_i l), (6, pt_i (nI (r + 1)))], [], pt_wA M2 39 0 (co_F (pt_A M2 39 0) (pt_A M2 37 0) (rk_0 n n))) := fun l => by
          have K := pt_for0 (Y := YX7_least) (fun q => (81, [(0, pt_r 7 0), (1, pt_i (nI o)), (2, pt_i (nI n)), (3, pt_r 39 0), (4, pt_i (nI (2 ^ n - 1))), (5, pt_i l), (6, pt_i (nI r)), (7, pt_i (nI q))], [], pt_wA M2 39 0 (co_F (pt_A M2 39 0) (pt_A M2 37 0) q))) (n := rk_0 n n) fun q hq => by
            refine (gX7_least39_81_1 (nI o) (nI n) (nI (2 ^ n - 1)) l (nI r) (nI q) n B id 0 _ (by rw [hcn.1]; exact nI_ge hq (by have := hcn.2; omega)) (pt_in_nI (by have := hcn.2; omega) (by decide))).to ?_
            have e : pt_A (pt_wA M2 39 0 (co_F (pt_A M2 39 0) (pt_A M2 37 0) q)) 37 0 = pt_A M2 37 0 := rfl
            rw [wA_2 _ _ _ _ (by have := hcn.2; omega), e, pt_nt_nI (by have := hcn.2; omega), co_step, nI_1]
          rw [co_zero, pt_wA_self] at K
          exact K.tr ((gX7_least39_81_2 (nI o) (nI n) (nI (2 ^ n - 1)) l (nI r) (nI (rk_0 n n)) n B id 0 _ (by rw [hcn.1]; exact Int32.le_refl _)).to (by rw [nI_1]))
        have w12 : ∀ p, rw_F n B (gz_F n B r false) false p = 1 ∨ rw_F n B (gz_F n B r false) false p = 2 := fun p => by
          unfold rw_F
          split
          · exact .inl rfl
          · exact .inr rfl
        have hlk3 : lk_P 39 M (pt_wA M2 39 0 (co_F (pt_A M2 39 0) (pt_A M2 37 0) (rk_0 n n))) := (k1.tr hlk).tr lk_K
        have new : ∀ p, p < rk_0 n n → pt_A (pt_wA M2 39 0 (co_F (pt_A M2 39 0) (pt_A M2 37 0) (rk_0 n n))) 39 0 p = rw_F n B (gz_F n B r false) false p := fun p hp => by
          rw [pt_A_wA]
          exact (if_pos hp).trans (e37 p hp)
        rcases inv with ⟨rfl, i2⟩ | ⟨rfl, i2⟩
        · have g4 := gX7_least39_13_4 (nI o) (nI n) (nI (2 ^ n - 1)) 0 (nI r) n B (gz_F n B r false) 0 M1 hge hnt h0 ha hrd rfl
          rw [hM2] at g4
          refine ⟨1, _, g1.tr (g4.tr (C 1)), hlk3, .inr ⟨rfl, fun p hp => ?_⟩⟩
          have hal : ((List.range (rk_0 n n)).all fun p => !rt_F (fr_R n B false r) (rw_F n B (gz_F n B r false) false) p) = true := by
            rw [List.all_eq_true]
            intro q hq
            unfold rt_F
            rw [i2]
            rcases w12 q with w | w <;> (rw [w]; simp)
          rw [fr_s, hb, if_pos rfl, if_pos hal]
          have e : co_F (fr_R n B false r) (rw_F n B (gz_F n B r false) false) (rk_0 n n) p = rw_F n B (gz_F n B r false) false p := if_pos hp
          rw [e]
          exact ⟨new p hp, w12 p⟩
        · have hcmp := mc_cg (f := pt_A M2 37 0) (f' := rw_F n B (gz_F n B r false) false) (w := pt_A M2 39 0) (w' := fr_R n B false r) (N := rk_0 n n) e37 fun p hp => by rw [e39]; exact (i2 p hp).1
          have hal := mc_al (f := rw_F n B (gz_F n B r false) false) (w := fr_R n B false r) (N := rk_0 n n) (fun p hp => w12 p) fun p hp => (i2 p hp).2
          by_cases hc : mc_F (rw_F n B (gz_F n B r false) false) (fr_R n B false r) (rk_0 n n) < 0
          · have g4 := gX7_least39_13_3 (nI o) (nI n) (nI (2 ^ n - 1)) 1 (nI r) n B (gz_F n B r false) (rk_0 n n) M1 hge hnt h0 ha hrd (by decide) hcn (by rw [hM2, hcmp]; exact hc)
            rw [hM2] at g4
            refine ⟨1, _, g1.tr (g4.tr (C 1)), hlk3, .inr ⟨rfl, fun p hp => ?_⟩⟩
            rw [fr_s, hb, if_pos rfl, if_pos (hal.1 hc)]
            have e : co_F (fr_R n B false r) (rw_F n B (gz_F n B r false) false) (rk_0 n n) p = rw_F n B (gz_F n B r false) false p := if_pos hp
            rw [e]
            exact ⟨new p hp, w12 p⟩
          · have g4 := gX7_least39_13_2 (nI o) (nI n) (nI (2 ^ n - 1)) 1 (nI r) n B (gz_F n B r false) (rk_0 n n) M1 hge hnt h0 ha hrd (by decide) hcn (by rw [hM2, hcmp]; exact hc)
            rw [hM2] at g4
            refine ⟨1, M2, g1.tr (g4.to (by rw [nI_1])), k1.tr hlk, .inr ⟨rfl, fun p hp => ?_⟩⟩
            have e : fr_R n B false (r + 1) p = fr_R n B false r p := by
              rw [fr_s, hb, if_pos rfl]
              split
              · exact hal.2 hc (by assumption) p hp
              · rfl
            rw [e, e39]
            exact i2 p hp
  obtain ⟨a, M1, g1, k1, inv⟩ := key n (Nat.le_refl n)
  refine ⟨M1, rX7_least_113 (Nat.le_of_ble_eq_true rfl) k1.x5 (((gX7_least39_0_1 (nI o) (nI n) n B id 0 M).to (by rw [e2_n hn])).tr (g1.tr (gX7_least39_13_5 (nI o) (nI n) (nI (2 ^ n - 1)) a (nI n) n B id 0 M1 (Int32.le_refl _)))), k1, fun p hp => ?_⟩
  rcases inv with ⟨-, i2⟩ | ⟨-, i2⟩
  · exact absurd i2 (fr_no h h3)
  · exact (i2 p hp).1
set_option maxRecDepth 100000 in
theorem gX7_least40_0_1 (x1 : Int32) (x2 : Int32) (n : Nat) (B : Nat → Nat → Nat → Bool) (g : Nat → Nat) (N : Nat) (M : pt_M) :
    pt_Go YX7_least (0, [(0, pt_r 7 0), (1, pt_i x1), (2, pt_i x2), (3, pt_r 40 0)], [], M)
      (13, [(0, pt_r 7 0), (1, pt_i x1), (2, pt_i x2), (3, pt_r 40 0), (4, pt_i (((1 : Int32) <<< (x2 &&& 31)) - 1)), (5, pt_i 0), (6, pt_i 0)], [], M) :=
  pt_run_ok tX7_least_ok 10 [] (P := True) (by with_unfolding_all rfl) trivial
set_option maxRecDepth 100000 in
theorem gX7_least40_13_1 (l1 : Int32) (l2 : Int32) (l4 : Int32) (l5 : Int32) (l6 : Int32) (n : Nat) (B : Nat → Nat → Nat → Bool) (g : Nat → Nat) (N : Nat) (M : pt_M) (h1 : ¬ l2 ≤ l6) (h2 : nt_P M l1 l4 l6 n B) (h3 : ¬ 0 ≤ (nx_I n B l4 l6)) :
    pt_Go YX7_least (13, [(0, pt_r 7 0), (1, pt_i l1), (2, pt_i l2), (3, pt_r 40 0), (4, pt_i l4), (5, pt_i l5), (6, pt_i l6)], [], M)
      (13, [(0, pt_r 7 0), (1, pt_i l1), (2, pt_i l2), (3, pt_r 40 0), (4, pt_i l4), (5, pt_i l5), (6, pt_i (l6 + 1))], [], M) :=
  pt_run_ok tX7_least_ok 12 [.inl false, .inr (4, some (pt_i (nx_I n B l4 l6)), M), .inl false] (P := (¬ l2 ≤ l6) ∧ pt_Cal YX7_least (.invokevirtual 144) [pt_r 7 0, pt_i l1, pt_i l4, pt_i l6] M (some (pt_i (nx_I n B l4 l6))) M ∧ (¬ 0 ≤ (nx_I n B l4 l6)) ∧ True) (by with_unfolding_all rfl) ⟨h1, (pt_callV (i := 0) kX7_least_144 mX7_nextTo rfl (by decide) rfl (dX7_nextTo_t h2)), h3, trivial⟩
set_option maxRecDepth 100000 in
theorem gX7_least40_13_2 (l1 : Int32) (l2 : Int32) (l4 : Int32) (l5 : Int32) (l6 : Int32) (n : Nat) (B : Nat → Nat → Nat → Bool) (g : Nat → Nat) (N : Nat) (M : pt_M) (h1 : ¬ l2 ≤ l6) (h2 : nt_P M l1 l4 l6 n B) (h3 : 0 ≤ (nx_I n B l4 l6)) (h4 : aq_P M l1 l2 l6 n B) (h5 : rd_P (aq_M M B l6 n) l1 l2 n g B) (h6 : ¬ l5 = 0) (h7 : cn_P (to_F l2) N) (h8 : ¬ (mc_F (pt_A (rd_M (aq_M M B l6 n) n g B) 37 0) (pt_A (rd_M (aq_M M B l6 n) n g B) 40 0) N) < 0) :
    pt_Go YX7_least (13, [(0, pt_r 7 0), (1, pt_i l1), (2, pt_i l2), (3, pt_r 40 0), (4, pt_i l4), (5, pt_i l5), (6, pt_i l6)], [], M)
      (13, [(0, pt_r 7 0), (1, pt_i l1), (2, pt_i l2), (3, pt_r 40 0), (4, pt_i l4), (5, pt_i l5), (6, pt_i (l6 + 1))], [], (rd_M (aq_M M B l6 n) n g B)) :=
  pt_run_ok tX7_least_ok 32 [.inl false, .inr (4, some (pt_i (nx_I n B l4 l6)), M), .inl true, .inr (4, none, (aq_M M B l6 n)), .inr (4, none, (rd_M (aq_M M B l6 n) n g B)), .inl false, .inr (1, some (pt_i (to_F l2)), (rd_M (aq_M M B l6 n) n g B)), .inr (3, some (pt_i (mc_F (pt_A (rd_M (aq_M M B l6 n) n g B) 37 0) (pt_A (rd_M (aq_M M B l6 n) n g B) 40 0) N)), (rd_M (aq_M M B l6 n) n g B)), .inl false] (P := (¬ l2 ≤ l6) ∧ pt_Cal YX7_least (.invokevirtual 144) [pt_r 7 0, pt_i l1, pt_i l4, pt_i l6] M (some (pt_i (nx_I n B l4 l6))) M ∧ (0 ≤ (nx_I n B l4 l6)) ∧ pt_Cal YX7_least (.invokevirtual 154) [pt_r 7 0, pt_i l1, pt_i l2, pt_i l6] M none (aq_M M B l6 n) ∧ pt_Cal YX7_least (.invokevirtual 157) [pt_r 7 0, pt_i l1, pt_i l2, pt_r 37 0] (aq_M M B l6 n) none (rd_M (aq_M M B l6 n) n g B) ∧ (¬ l5 = 0) ∧ pt_Cal YX7_least (.invokestatic 161) [pt_i l2] (rd_M (aq_M M B l6 n) n g B) (some (pt_i (to_F l2))) (rd_M (aq_M M B l6 n) n g B) ∧ pt_Cal YX7_least (.invokestatic 164) [pt_r 37 0, pt_r 40 0, pt_i (to_F l2)] (rd_M (aq_M M B l6 n) n g B) (some (pt_i (mc_F (pt_A (rd_M (aq_M M B l6 n) n g B) 37 0) (pt_A (rd_M (aq_M M B l6 n) n g B) 40 0) N))) (rd_M (aq_M M B l6 n) n g B) ∧ (¬ (mc_F (pt_A (rd_M (aq_M M B l6 n) n g B) 37 0) (pt_A (rd_M (aq_M M B l6 n) n g B) 40 0) N) < 0) ∧ True) (by with_unfolding_all rfl) ⟨h1, (pt_callV (i := 0) kX7_least_144 mX7_nextTo rfl (by decide) rfl (dX7_nextTo_t h2)), h3, (pt_callV (i := 0) kX7_least_154 mX7_around rfl (by decide) rfl (dX7_around_t h4)), (pt_callV (i := 0) kX7_least_157 mX7_rowOf rfl (by decide) rfl (dX7_rowOf_t h5)), h6, (pt_callS kX7_least_161 mX7_threesOf rfl (dX7_threesOf l2 (rd_M (aq_M M B l6 n) n g B))), (pt_callS kX7_least_164 mX7_compare rfl (dX7_compare_3740t h7)), h8, trivial⟩
set_option maxRecDepth 100000 in
theorem gX7_least40_13_3 (l1 : Int32) (l2 : Int32) (l4 : Int32) (l5 : Int32) (l6 : Int32) (n : Nat) (B : Nat → Nat → Nat → Bool) (g : Nat → Nat) (N : Nat) (M : pt_M) (h1 : ¬ l2 ≤ l6) (h2 : nt_P M l1 l4 l6 n B) (h3 : 0 ≤ (nx_I n B l4 l6)) (h4 : aq_P M l1 l2 l6 n B) (h5 : rd_P (aq_M M B l6 n) l1 l2 n g B) (h6 : ¬ l5 = 0) (h7 : cn_P (to_F l2) N) (h8 : (mc_F (pt_A (rd_M (aq_M M B l6 n) n g B) 37 0) (pt_A (rd_M (aq_M M B l6 n) n g B) 40 0) N) < 0) :
    pt_Go YX7_least (13, [(0, pt_r 7 0), (1, pt_i l1), (2, pt_i l2), (3, pt_r 40 0), (4, pt_i l4), (5, pt_i l5), (6, pt_i l6)], [], M)
      (81, [(0, pt_r 7 0), (1, pt_i l1), (2, pt_i l2), (3, pt_r 40 0), (4, pt_i l4), (5, pt_i 1), (6, pt_i l6), (7, pt_i 0)], [], (rd_M (aq_M M B l6 n) n g B)) :=
  pt_run_ok tX7_least_ok 33 [.inl false, .inr (4, some (pt_i (nx_I n B l4 l6)), M), .inl true, .inr (4, none, (aq_M M B l6 n)), .inr (4, none, (rd_M (aq_M M B l6 n) n g B)), .inl false, .inr (1, some (pt_i (to_F l2)), (rd_M (aq_M M B l6 n) n g B)), .inr (3, some (pt_i (mc_F (pt_A (rd_M (aq_M M B l6 n) n g B) 37 0) (pt_A (rd_M (aq_M M B l6 n) n g B) 40 0) N)), (rd_M (aq_M M B l6 n) n g B)), .inl true] (P := (¬ l2 ≤ l6) ∧ pt_Cal YX7_least (.invokevirtual 144) [pt_r 7 0, pt_i l1, pt_i l4, pt_i l6] M (some (pt_i (nx_I n B l4 l6))) M ∧ (0 ≤ (nx_I n B l4 l6)) ∧ pt_Cal YX7_least (.invokevirtual 154) [pt_r 7 0, pt_i l1, pt_i l2, pt_i l6] M none (aq_M M B l6 n) ∧ pt_Cal YX7_least (.invokevirtual 157) [pt_r 7 0, pt_i l1, pt_i l2, pt_r 37 0] (aq_M M B l6 n) none (rd_M (aq_M M B l6 n) n g B) ∧ (¬ l5 = 0) ∧ pt_Cal YX7_least (.invokestatic 161) [pt_i l2] (rd_M (aq_M M B l6 n) n g B) (some (pt_i (to_F l2))) (rd_M (aq_M M B l6 n) n g B) ∧ pt_Cal YX7_least (.invokestatic 164) [pt_r 37 0, pt_r 40 0, pt_i (to_F l2)] (rd_M (aq_M M B l6 n) n g B) (some (pt_i (mc_F (pt_A (rd_M (aq_M M B l6 n) n g B) 37 0) (pt_A (rd_M (aq_M M B l6 n) n g B) 40 0) N))) (rd_M (aq_M M B l6 n) n g B) ∧ ((mc_F (pt_A (rd_M (aq_M M B l6 n) n g B) 37 0) (pt_A (rd_M (aq_M M B l6 n) n g B) 40 0) N) < 0) ∧ True) (by with_unfolding_all rfl) ⟨h1, (pt_callV (i := 0) kX7_least_144 mX7_nextTo rfl (by decide) rfl (dX7_nextTo_t h2)), h3, (pt_callV (i := 0) kX7_least_154 mX7_around rfl (by decide) rfl (dX7_around_t h4)), (pt_callV (i := 0) kX7_least_157 mX7_rowOf rfl (by decide) rfl (dX7_rowOf_t h5)), h6, (pt_callS kX7_least_161 mX7_threesOf rfl (dX7_threesOf l2 (rd_M (aq_M M B l6 n) n g B))), (pt_callS kX7_least_164 mX7_compare rfl (dX7_compare_3740t h7)), h8, trivial⟩
set_option maxRecDepth 100000 in
theorem gX7_least40_13_4 (l1 : Int32) (l2 : Int32) (l4 : Int32) (l5 : Int32) (l6 : Int32) (n : Nat) (B : Nat → Nat → Nat → Bool) (g : Nat → Nat) (N : Nat) (M : pt_M) (h1 : ¬ l2 ≤ l6) (h2 : nt_P M l1 l4 l6 n B) (h3 : 0 ≤ (nx_I n B l4 l6)) (h4 : aq_P M l1 l2 l6 n B) (h5 : rd_P (aq_M M B l6 n) l1 l2 n g B) (h6 : l5 = 0) :
    pt_Go YX7_least (13, [(0, pt_r 7 0), (1, pt_i l1), (2, pt_i l2), (3, pt_r 40 0), (4, pt_i l4), (5, pt_i l5), (6, pt_i l6)], [], M)
      (81, [(0, pt_r 7 0), (1, pt_i l1), (2, pt_i l2), (3, pt_r 40 0), (4, pt_i l4), (5, pt_i 1), (6, pt_i l6), (7, pt_i 0)], [], (rd_M (aq_M M B l6 n) n g B)) :=
  pt_run_ok tX7_least_ok 26 [.inl false, .inr (4, some (pt_i (nx_I n B l4 l6)), M), .inl true, .inr (4, none, (aq_M M B l6 n)), .inr (4, none, (rd_M (aq_M M B l6 n) n g B)), .inl true] (P := (¬ l2 ≤ l6) ∧ pt_Cal YX7_least (.invokevirtual 144) [pt_r 7 0, pt_i l1, pt_i l4, pt_i l6] M (some (pt_i (nx_I n B l4 l6))) M ∧ (0 ≤ (nx_I n B l4 l6)) ∧ pt_Cal YX7_least (.invokevirtual 154) [pt_r 7 0, pt_i l1, pt_i l2, pt_i l6] M none (aq_M M B l6 n) ∧ pt_Cal YX7_least (.invokevirtual 157) [pt_r 7 0, pt_i l1, pt_i l2, pt_r 37 0] (aq_M M B l6 n) none (rd_M (aq_M M B l6 n) n g B) ∧ (l5 = 0) ∧ True) (by with_unfolding_all rfl) ⟨h1, (pt_callV (i := 0) kX7_least_144 mX7_nextTo rfl (by decide) rfl (dX7_nextTo_t h2)), h3, (pt_callV (i := 0) kX7_least_154 mX7_around rfl (by decide) rfl (dX7_around_t h4)), (pt_callV (i := 0) kX7_least_157 mX7_rowOf rfl (by decide) rfl (dX7_rowOf_t h5)), h6, trivial⟩
set_option maxRecDepth 100000 in
theorem gX7_least40_13_5 (l1 : Int32) (l2 : Int32) (l4 : Int32) (l5 : Int32) (l6 : Int32) (n : Nat) (B : Nat → Nat → Nat → Bool) (g : Nat → Nat) (N : Nat) (M : pt_M) (h1 : l2 ≤ l6) :
    pt_Go YX7_least (13, [(0, pt_r 7 0), (1, pt_i l1), (2, pt_i l2), (3, pt_r 40 0), (4, pt_i l4), (5, pt_i l5), (6, pt_i l6)], [], M)
      (113, [(0, pt_r 7 0), (1, pt_i l1), (2, pt_i l2), (3, pt_r 40 0), (4, pt_i l4), (5, pt_i l5), (6, pt_i l6)], [], M) :=
  pt_run_ok tX7_least_ok 3 [.inl true] (P := (l2 ≤ l6) ∧ True) (by with_unfolding_all rfl) ⟨h1, trivial⟩
set_option maxRecDepth 100000 in
theorem gX7_least40_81_1 (l1 : Int32) (l2 : Int32) (l4 : Int32) (l5 : Int32) (l6 : Int32) (l7 : Int32) (n : Nat) (B : Nat → Nat → Nat → Bool) (g : Nat → Nat) (N : Nat) (M : pt_M) (h1 : ¬ (to_F l2) ≤ l7) (h2 : pt_in l7 120) :
    pt_Go YX7_least (81, [(0, pt_r 7 0), (1, pt_i l1), (2, pt_i l2), (3, pt_r 40 0), (4, pt_i l4), (5, pt_i l5), (6, pt_i l6), (7, pt_i l7)], [], M)
      (81, [(0, pt_r 7 0), (1, pt_i l1), (2, pt_i l2), (3, pt_r 40 0), (4, pt_i l4), (5, pt_i l5), (6, pt_i l6), (7, pt_i (l7 + 1))], [], (pt_wA M 40 0 (upd (pt_A M 40 0) (pt_nt l7) (pt_A M 37 0 (pt_nt l7))))) :=
  pt_run_ok tX7_least_ok 13 [.inr (1, some (pt_i (to_F l2)), M), .inl false] (P := pt_Cal YX7_least (.invokestatic 161) [pt_i l2] M (some (pt_i (to_F l2))) M ∧ (¬ (to_F l2) ≤ l7) ∧ (pt_in l7 120) ∧ (pt_in l7 120) ∧ True) (by with_unfolding_all rfl) ⟨(pt_callS kX7_least_161 mX7_threesOf rfl (dX7_threesOf l2 M)), h1, h2, h2, trivial⟩
set_option maxRecDepth 100000 in
theorem gX7_least40_81_2 (l1 : Int32) (l2 : Int32) (l4 : Int32) (l5 : Int32) (l6 : Int32) (l7 : Int32) (n : Nat) (B : Nat → Nat → Nat → Bool) (g : Nat → Nat) (N : Nat) (M : pt_M) (h1 : (to_F l2) ≤ l7) :
    pt_Go YX7_least (81, [(0, pt_r 7 0), (1, pt_i l1), (2, pt_i l2), (3, pt_r 40 0), (4, pt_i l4), (5, pt_i l5), (6, pt_i l6), (7, pt_i l7)], [], M)
      (13, [(0, pt_r 7 0), (1, pt_i l1), (2, pt_i l2), (3, pt_r 40 0), (4, pt_i l4), (5, pt_i l5), (6, pt_i (l6 + 1))], [], M) :=
  (pt_run_ok tX7_least_ok 6 [.inr (1, some (pt_i (to_F l2)), M), .inl true] (P := pt_Cal YX7_least (.invokestatic 161) [pt_i l2] M (some (pt_i (to_F l2))) M ∧ ((to_F l2) ≤ l7) ∧ True) (by with_unfolding_all rfl) ⟨(pt_callS kX7_least_161 mX7_threesOf rfl (dX7_threesOf l2 M)), h1, trivial⟩ : pt_Go YX7_least _ (13, [(0, pt_r 7 0), (1, pt_i l1), (2, pt_i l2), (3, pt_r 40 0), (4, pt_i l4), (5, pt_i l5), (6, pt_i (l6 + 1)), (7, pt_i l7)], [], M)).tr (pt_pick [0, 1, 2, 3, 4, 5, 6] (by with_unfolding_all rfl))
theorem dX7_least_40 {o n : Nat} {B : Nat → Nat → Nat → Bool} {M : pt_M} (hml : ml_P M o n B) (h : lw_P n B) (hd : dg_P n B) (h3 : 3 ≤ n) : ∃ M', pt_Does yX7_least YX7_least [pt_r 7 0, pt_i (nI o), pt_i (nI n), pt_r 40 0] M none M' ∧ lk_P 40 M M' ∧ ∀ p, p < rk_0 n n → pt_A M' 40 0 p = fr_R n B false n p := by
  have hn := h.1
  have h2 := pb_p2 hn
  have h20 := Nat.two_pow_pos n
  have ho := hml.1
  have hcn := to_nI hn
  have key : ∀ r, r ≤ n → ∃ a M1, pt_Go YX7_least (13, [(0, pt_r 7 0), (1, pt_i (nI o)), (2, pt_i (nI n)), (3, pt_r 40 0), (4, pt_i (nI (2 ^ n - 1))), (5, pt_i 0), (6, pt_i 0)], [], M) (13, [(0, pt_r 7 0), (1, pt_i (nI o)), (2, pt_i (nI n)), (3, pt_r 40 0), (4, pt_i (nI (2 ^ n - 1))), (5, pt_i a), (6, pt_i (nI r))], [], M1) ∧ lk_P 40 M M1 ∧ ((a = 0 ∧ fr_R n B false r = fun _ => 3) ∨ (a = 1 ∧ ∀ p, p < rk_0 n n → pt_A M1 40 0 p = fr_R n B false r p ∧ (fr_R n B false r p = 1 ∨ fr_R n B false r p = 2))) := by
    intro r
    induction r with
    | zero => exact fun _ => ⟨0, M, pt_Go.rf, lk_P.rf, .inl ⟨rfl, by rw [fr_R]⟩⟩
    | succ r ih =>
      intro hr
      obtain ⟨a, M1, g1, k1, inv⟩ := ih (by omega)
      have hml1 : ml_P M1 o n B := ml_A hml (k1.2.1 32 0 (by decide) (by decide) (by decide))
      have hnt : nt_P M1 (nI o) (nI (2 ^ n - 1)) (nI r) n B := ⟨o, 2 ^ n - 1, r, rfl, rfl, rfl, hml1, by omega, by omega⟩
      have hge : ¬ nI n ≤ nI r := nI_ge (by omega) (by omega)
      have hbit : (ri_F n B (2 ^ n - 1)).testBit r = (nx_F n B (2 ^ n - 1) r).isSome := by
        rw [ri_bit (by rw [pc_all hn]; exact h3) (by omega), tb_all, decide_eq_true (by omega), Bool.true_and]
      cases c : nx_F n B (2 ^ n - 1) r with
      | none =>
        have hb : (ri_F n B (2 ^ n - 1)).testBit r = false := by rw [hbit, c]; rfl
        refine ⟨a, M1, g1.tr ((gX7_least40_13_1 (nI o) (nI n) (nI (2 ^ n - 1)) a (nI r) n B id 0 M1 hge hnt (fun z => Int32.not_le.mpr (nx_n (by omega) (by omega) c) z)).to (by rw [nI_1])), k1, ?_⟩
        rw [fr_s, hb, if_neg Bool.false_ne_true]
        exact inv
      | some j =>
        have hb : (ri_F n B (2 ^ n - 1)).testBit r = true := by rw [hbit, c]; rfl
        have hrm := ri_rm hn h3 hb
        have hz := gz_all h hd h3 hrm false
        have h0 := Int32.not_lt.mp (nx_y hn (by omega) (by omega) c).2
        have ha : aq_P M1 (nI o) (nI n) (nI r) n B := ⟨o, r, rfl, rfl, rfl, hml1, h, hd, hrm⟩
        have hml2 : ml_P (aq_M M1 B (nI r) n) o n B := hml1
        have hrd : rd_P (aq_M M1 B (nI r) n) (nI o) (nI n) n (gz_F n B r false) B := by
          refine ⟨o, rfl, rfl, hml2, fun e he => ⟨?_, (hz e he).1⟩, fun x y xy hy => gz_inj h hd h3 hrm (by omega) hy (by omega)⟩
          unfold aq_M
          rw [pt_A_wA, pt_nt_nI (by omega)]
          exact (hz e he).2.2.1 _
        have hlk : lk_P 40 M1 (rd_M (aq_M M1 B (nI r) n) n (gz_F n B r false) B) := lk_rd
        generalize hM2 : rd_M (aq_M M1 B (nI r) n) n (gz_F n B r false) B = M2 at hlk
        have e37 : ∀ p, p < rk_0 n n → pt_A M2 37 0 p = rw_F n B (gz_F n B r false) false p := fun p hp => by
          rw [← hM2]
          unfold rd_M
          rw [pt_A_wA]
          exact if_pos hp
        have e40 : pt_A M2 40 0 = pt_A M1 40 0 := by
          rw [← hM2]
          rfl
        have C : ∀ l, pt_Go YX7_least (81, [(0, pt_r 7 0), (1, pt_i (nI o)), (2, pt_i (nI n)), (3, pt_r 40 0), (4, pt_i (nI (2 ^ n - 1))), (5, pt_i l), (6, pt_i (nI r)), (7, pt_i 0)], [], M2) (13, [(0, pt_r 7 0), (1, pt_i (nI o)), (2, pt_i (nI n)), (3, pt_r 40 0), (4, pt_i (nI (2 ^ n - 1))), (5, pt_i l), (6, pt_i (nI (r + 1)))], [], pt_wA M2 40 0 (co_F (pt_A M2 40 0) (pt_A M2 37 0) (rk_0 n n))) := fun l => by
          have K := pt_for0 (Y := YX7_least) (fun q => (81, [(0, pt_r 7 0), (1, pt_i (nI o)), (2, pt_i (nI n)), (3, pt_r 40 0), (4, pt_i (nI (2 ^ n - 1))), (5, pt_i l), (6, pt_i (nI r)), (7, pt_i (nI q))], [], pt_wA M2 40 0 (co_F (pt_A M2 40 0) (pt_A M2 37 0) q))) (n := rk_0 n n) fun q hq => by
            refine (gX7_least40_81_1 (nI o) (nI n) (nI (2 ^ n - 1)) l (nI r) (nI q) n B id 0 _ (by rw [hcn.1]; exact nI_ge hq (by have := hcn.2; omega)) (pt_in_nI (by have := hcn.2; omega) (by decide))).to ?_
            have e : pt_A (pt_wA M2 40 0 (co_F (pt_A M2 40 0) (pt_A M2 37 0) q)) 37 0 = pt_A M2 37 0 := rfl
            rw [wA_2 _ _ _ _ (by have := hcn.2; omega), e, pt_nt_nI (by have := hcn.2; omega), co_step, nI_1]
          rw [co_zero, pt_wA_self] at K
          exact K.tr ((gX7_least40_81_2 (nI o) (nI n) (nI (2 ^ n - 1)) l (nI r) (nI (rk_0 n n)) n B id 0 _ (by rw [hcn.1]; exact Int32.le_refl _)).to (by rw [nI_1]))
        have w12 : ∀ p, rw_F n B (gz_F n B r false) false p = 1 ∨ rw_F n B (gz_F n B r false) false p = 2 := fun p => by
          unfold rw_F
          split
          · exact .inl rfl
          · exact .inr rfl
        have hlk3 : lk_P 40 M (pt_wA M2 40 0 (co_F (pt_A M2 40 0) (pt_A M2 37 0) (rk_0 n n))) := (k1.tr hlk).tr lk_K
        have new : ∀ p, p < rk_0 n n → pt_A (pt_wA M2 40 0 (co_F (pt_A M2 40 0) (pt_A M2 37 0) (rk_0 n n))) 40 0 p = rw_F n B (gz_F n B r false) false p := fun p hp => by
          rw [pt_A_wA]
          exact (if_pos hp).trans (e37 p hp)
        rcases inv with ⟨rfl, i2⟩ | ⟨rfl, i2⟩
        · have g4 := gX7_least40_13_4 (nI o) (nI n) (nI (2 ^ n - 1)) 0 (nI r) n B (gz_F n B r false) 0 M1 hge hnt h0 ha hrd rfl
          rw [hM2] at g4
          refine ⟨1, _, g1.tr (g4.tr (C 1)), hlk3, .inr ⟨rfl, fun p hp => ?_⟩⟩
          have hal : ((List.range (rk_0 n n)).all fun p => !rt_F (fr_R n B false r) (rw_F n B (gz_F n B r false) false) p) = true := by
            rw [List.all_eq_true]
            intro q hq
            unfold rt_F
            rw [i2]
            rcases w12 q with w | w <;> (rw [w]; simp)
          rw [fr_s, hb, if_pos rfl, if_pos hal]
          have e : co_F (fr_R n B false r) (rw_F n B (gz_F n B r false) false) (rk_0 n n) p = rw_F n B (gz_F n B r false) false p := if_pos hp
          rw [e]
          exact ⟨new p hp, w12 p⟩
        · have hcmp := mc_cg (f := pt_A M2 37 0) (f' := rw_F n B (gz_F n B r false) false) (w := pt_A M2 40 0) (w' := fr_R n B false r) (N := rk_0 n n) e37 fun p hp => by rw [e40]; exact (i2 p hp).1
          have hal := mc_al (f := rw_F n B (gz_F n B r false) false) (w := fr_R n B false r) (N := rk_0 n n) (fun p hp => w12 p) fun p hp => (i2 p hp).2
          by_cases hc : mc_F (rw_F n B (gz_F n B r false) false) (fr_R n B false r) (rk_0 n n) < 0
          · have g4 := gX7_least40_13_3 (nI o) (nI n) (nI (2 ^ n - 1)) 1 (nI r) n B (gz_F n B r false) (rk_0 n n) M1 hge hnt h0 ha hrd (by decide) hcn (by rw [hM2, hcmp]; exact hc)
            rw [hM2] at g4
            refine ⟨1, _, g1.tr (g4.tr (C 1)), hlk3, .inr ⟨rfl, fun p hp => ?_⟩⟩
            rw [fr_s, hb, if_pos rfl, if_pos (hal.1 hc)]
            have e : co_F (fr_R n B false r) (rw_F n B (gz_F n B r false) false) (rk_0 n n) p = rw_F n B (gz_F n B r false) false p := if_pos hp
            rw [e]
            exact ⟨new p hp, w12 p⟩
          · have g4 := gX7_least40_13_2 (nI o) (nI n) (nI (2 ^ n - 1)) 1 (nI r) n B (gz_F n B r false) (rk_0 n n) M1 hge hnt h0 ha hrd (by decide) hcn (by rw [hM2, hcmp]; exact hc)
            rw [hM2] at g4
            refine ⟨1, M2, g1.tr (g4.to (by rw [nI_1])), k1.tr hlk, .inr ⟨rfl, fun p hp => ?_⟩⟩
            have e : fr_R n B false (r + 1) p = fr_R n B false r p := by
              rw [fr_s, hb, if_pos rfl]
              split
              · exact hal.2 hc (by assumption) p hp
              · rfl
            rw [e, e40]
            exact i2 p hp
  obtain ⟨a, M1, g1, k1, inv⟩ := key n (Nat.le_refl n)
  refine ⟨M1, rX7_least_113 (Nat.le_of_ble_eq_true rfl) k1.x5 (((gX7_least40_0_1 (nI o) (nI n) n B id 0 M).to (by rw [e2_n hn])).tr (g1.tr (gX7_least40_13_5 (nI o) (nI n) (nI (2 ^ n - 1)) a (nI n) n B id 0 M1 (Int32.le_refl _)))), k1, fun p hp => ?_⟩
  rcases inv with ⟨-, i2⟩ | ⟨-, i2⟩
  · exact absurd i2 (fr_no h h3)
  · exact (i2 p hp).1
