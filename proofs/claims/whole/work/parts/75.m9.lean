/-! codeOf -/
def cd_F (n : Nat) (B : Nat → Nat → Nat → Bool) : Nat → Int32 := if mc_F (fr_R n B true n) (fr_R n B false n) (rk_0 n n) < 0 then fr_R n B true n else fr_R n B false n
def ck_P (M M' : pt_M) : Prop := pt_F M' = pt_F M ∧ (∀ k i, k ≠ 35 → k ≠ 37 → k ≠ 38 → k ≠ 39 → pt_A M' k i = pt_A M k i) ∧ M'.2.2 = M.2.2
theorem nf_nf {f : Nat → Int32} {a N : Nat} : nf_F (nf_F f a N) a N = f := by
  funext p
  unfold nf_F
  by_cases c : a ≤ p ∧ p < a + N
  · rw [if_pos c, if_pos c, Int32.neg_neg]
  · rw [if_neg c, if_neg c]
theorem th_lt {i j k : Nat} (h1 : i < j) (h2 : j < k) (h3 : k < 10) : th_F i j k < 120 := by
  have h := pt_all (pt_all (pt_all th_tab h3) h2) h1
  rw [Bool.and_eq_true, Bool.and_eq_true] at h
  exact of_decide_eq_true h.2.1
theorem ng_ml {M : pt_M} {o n : Nat} {B : Nat → Nat → Nat → Bool} (h : ml_P M o n B) (hw : lw_P n B) : ml_P (ng_M M (nI o)) o n (mb_F n B) := by
  have ho := h.1
  have hn := hw.1
  refine ⟨h.1, h.2.1, fun i j k h1 h2 h3 => ?_, (lw_mb hw).2.1⟩
  unfold ng_M
  have ht := th_lt h1 h2 (show k < 10 by omega)
  rw [pt_A_wA, pt_nt_nI (by omega), mb_at (by omega) (by omega) h3 (by omega) (by omega) (by omega), ← tv_neg, ← h.2.2.1 i j k h1 h2 h3]
  exact if_pos (by omega)
theorem ng_A {M : pt_M} {x : Int32} {k i : Nat} (h : k ≠ 32) : pt_A (ng_M M x) k i = pt_A M k i := if_neg fun z => h z.1
theorem rX7_codeOf_76 {vs : List pt_V} {M M' : pt_M} {L : List (Nat × pt_V)} (hvs : (vs.map pt_w).sum ≤ 4) (hX : M'.2.2.2.2 = M.2.2.2.2) (h : pt_Go YX7_codeOf (0, pt_en 0 vs, [], M) (76, L, [], M')) : pt_Does yX7_codeOf YX7_codeOf vs M none M' := pt_does_go tX7_codeOf_ok nX7_codeOf hvs hX ⟨_, by with_unfolding_all rfl, rfl, rfl⟩ h
set_option maxRecDepth 100000 in
theorem gX7_codeOf_0_1 (x1 : Int32) (x2 : Int32) (N : Nat) (M2 M3 : pt_M) (M : pt_M) (h1 : pt_Does yX7_least YX7_least [pt_r 7 0, pt_i x1, pt_i x2, pt_r 38 0] M none M2) (h2 : ng_P x1) (h3 : pt_Does yX7_least YX7_least [pt_r 7 0, pt_i x1, pt_i x2, pt_r 39 0] (ng_M M2 x1) none M3) (h4 : cn_P (to_F x2) N) (h5 : ¬ 0 ≤ (mc_F (pt_A (ng_M M3 x1) 39 0) (pt_A (ng_M M3 x1) 38 0) N)) :
    pt_Go YX7_codeOf (0, [(0, pt_r 7 0), (1, pt_i x1), (2, pt_i x2)], [], M)
      (50, [(0, pt_r 7 0), (2, pt_i x2), (3, pt_i 0)], [], (ng_M M3 x1)) :=
  (pt_run_ok tX7_codeOf_ok 28 [.inr (4, none, M2), .inr (2, none, (ng_M M2 x1)), .inr (4, none, M3), .inr (2, none, (ng_M M3 x1)), .inr (1, some (pt_i (to_F x2)), (ng_M M3 x1)), .inr (3, some (pt_i (mc_F (pt_A (ng_M M3 x1) 39 0) (pt_A (ng_M M3 x1) 38 0) N)), (ng_M M3 x1)), .inl false] (P := pt_Cal YX7_codeOf (.invokevirtual 168) [pt_r 7 0, pt_i x1, pt_i x2, pt_r 38 0] M none M2 ∧ pt_Cal YX7_codeOf (.invokevirtual 111) [pt_r 7 0, pt_i x1] M2 none (ng_M M2 x1) ∧ pt_Cal YX7_codeOf (.invokevirtual 168) [pt_r 7 0, pt_i x1, pt_i x2, pt_r 39 0] (ng_M M2 x1) none M3 ∧ pt_Cal YX7_codeOf (.invokevirtual 111) [pt_r 7 0, pt_i x1] M3 none (ng_M M3 x1) ∧ pt_Cal YX7_codeOf (.invokestatic 161) [pt_i x2] (ng_M M3 x1) (some (pt_i (to_F x2))) (ng_M M3 x1) ∧ pt_Cal YX7_codeOf (.invokestatic 164) [pt_r 39 0, pt_r 38 0, pt_i (to_F x2)] (ng_M M3 x1) (some (pt_i (mc_F (pt_A (ng_M M3 x1) 39 0) (pt_A (ng_M M3 x1) 38 0) N))) (ng_M M3 x1) ∧ (¬ 0 ≤ (mc_F (pt_A (ng_M M3 x1) 39 0) (pt_A (ng_M M3 x1) 38 0) N)) ∧ True) (by with_unfolding_all rfl) ⟨(pt_callV (i := 0) kX7_codeOf_168 mX7_least rfl (by decide) rfl h1), (pt_callV (i := 0) kX7_codeOf_111 mX7_turnAll rfl (by decide) rfl (dX7_turnAll h2)), (pt_callV (i := 0) kX7_codeOf_168 mX7_least rfl (by decide) rfl h3), (pt_callV (i := 0) kX7_codeOf_111 mX7_turnAll rfl (by decide) rfl (dX7_turnAll h2)), (pt_callS kX7_codeOf_161 mX7_threesOf rfl (dX7_threesOf x2 (ng_M M3 x1))), (pt_callS kX7_codeOf_164 mX7_compare rfl (dX7_compare_3938t h4)), h5, trivial⟩ : pt_Go YX7_codeOf _ (50, [(0, pt_r 7 0), (1, pt_i x1), (2, pt_i x2), (3, pt_i 0)], [], (ng_M M3 x1))).tr (pt_pick [0, 2, 3] (by with_unfolding_all rfl))
set_option maxRecDepth 100000 in
theorem gX7_codeOf_0_2 (x1 : Int32) (x2 : Int32) (N : Nat) (M2 M3 : pt_M) (M : pt_M) (h1 : pt_Does yX7_least YX7_least [pt_r 7 0, pt_i x1, pt_i x2, pt_r 38 0] M none M2) (h2 : ng_P x1) (h3 : pt_Does yX7_least YX7_least [pt_r 7 0, pt_i x1, pt_i x2, pt_r 39 0] (ng_M M2 x1) none M3) (h4 : cn_P (to_F x2) N) (h5 : 0 ≤ (mc_F (pt_A (ng_M M3 x1) 39 0) (pt_A (ng_M M3 x1) 38 0) N)) :
    pt_Go YX7_codeOf (0, [(0, pt_r 7 0), (1, pt_i x1), (2, pt_i x2)], [], M)
      (76, [(0, pt_r 7 0), (1, pt_i x1), (2, pt_i x2)], [], (ng_M M3 x1)) :=
  pt_run_ok tX7_codeOf_ok 26 [.inr (4, none, M2), .inr (2, none, (ng_M M2 x1)), .inr (4, none, M3), .inr (2, none, (ng_M M3 x1)), .inr (1, some (pt_i (to_F x2)), (ng_M M3 x1)), .inr (3, some (pt_i (mc_F (pt_A (ng_M M3 x1) 39 0) (pt_A (ng_M M3 x1) 38 0) N)), (ng_M M3 x1)), .inl true] (P := pt_Cal YX7_codeOf (.invokevirtual 168) [pt_r 7 0, pt_i x1, pt_i x2, pt_r 38 0] M none M2 ∧ pt_Cal YX7_codeOf (.invokevirtual 111) [pt_r 7 0, pt_i x1] M2 none (ng_M M2 x1) ∧ pt_Cal YX7_codeOf (.invokevirtual 168) [pt_r 7 0, pt_i x1, pt_i x2, pt_r 39 0] (ng_M M2 x1) none M3 ∧ pt_Cal YX7_codeOf (.invokevirtual 111) [pt_r 7 0, pt_i x1] M3 none (ng_M M3 x1) ∧ pt_Cal YX7_codeOf (.invokestatic 161) [pt_i x2] (ng_M M3 x1) (some (pt_i (to_F x2))) (ng_M M3 x1) ∧ pt_Cal YX7_codeOf (.invokestatic 164) [pt_r 39 0, pt_r 38 0, pt_i (to_F x2)] (ng_M M3 x1) (some (pt_i (mc_F (pt_A (ng_M M3 x1) 39 0) (pt_A (ng_M M3 x1) 38 0) N))) (ng_M M3 x1) ∧ (0 ≤ (mc_F (pt_A (ng_M M3 x1) 39 0) (pt_A (ng_M M3 x1) 38 0) N)) ∧ True) (by with_unfolding_all rfl) ⟨(pt_callV (i := 0) kX7_codeOf_168 mX7_least rfl (by decide) rfl h1), (pt_callV (i := 0) kX7_codeOf_111 mX7_turnAll rfl (by decide) rfl (dX7_turnAll h2)), (pt_callV (i := 0) kX7_codeOf_168 mX7_least rfl (by decide) rfl h3), (pt_callV (i := 0) kX7_codeOf_111 mX7_turnAll rfl (by decide) rfl (dX7_turnAll h2)), (pt_callS kX7_codeOf_161 mX7_threesOf rfl (dX7_threesOf x2 (ng_M M3 x1))), (pt_callS kX7_codeOf_164 mX7_compare rfl (dX7_compare_3938t h4)), h5, trivial⟩
set_option maxRecDepth 100000 in
theorem gX7_codeOf_50_1 (l2 : Int32) (l3 : Int32) (N : Nat) (M2 M3 : pt_M) (M : pt_M) (h1 : ¬ (to_F l2) ≤ l3) (h2 : pt_in l3 120) :
    pt_Go YX7_codeOf (50, [(0, pt_r 7 0), (2, pt_i l2), (3, pt_i l3)], [], M)
      (50, [(0, pt_r 7 0), (2, pt_i l2), (3, pt_i (l3 + 1))], [], (pt_wA M 38 0 (upd (pt_A M 38 0) (pt_nt l3) (pt_A M 39 0 (pt_nt l3))))) :=
  pt_run_ok tX7_codeOf_ok 14 [.inr (1, some (pt_i (to_F l2)), M), .inl false] (P := pt_Cal YX7_codeOf (.invokestatic 161) [pt_i l2] M (some (pt_i (to_F l2))) M ∧ (¬ (to_F l2) ≤ l3) ∧ (pt_in l3 120) ∧ (pt_in l3 120) ∧ True) (by with_unfolding_all rfl) ⟨(pt_callS kX7_codeOf_161 mX7_threesOf rfl (dX7_threesOf l2 M)), h1, h2, h2, trivial⟩
set_option maxRecDepth 100000 in
theorem gX7_codeOf_50_2 (l2 : Int32) (l3 : Int32) (N : Nat) (M2 M3 : pt_M) (M : pt_M) (h1 : (to_F l2) ≤ l3) :
    pt_Go YX7_codeOf (50, [(0, pt_r 7 0), (2, pt_i l2), (3, pt_i l3)], [], M)
      (76, [(0, pt_r 7 0), (2, pt_i l2), (3, pt_i l3)], [], M) :=
  pt_run_ok tX7_codeOf_ok 4 [.inr (1, some (pt_i (to_F l2)), M), .inl true] (P := pt_Cal YX7_codeOf (.invokestatic 161) [pt_i l2] M (some (pt_i (to_F l2))) M ∧ ((to_F l2) ≤ l3) ∧ True) (by with_unfolding_all rfl) ⟨(pt_callS kX7_codeOf_161 mX7_threesOf rfl (dX7_threesOf l2 M)), h1, trivial⟩
theorem dX7_codeOf {o n : Nat} {B : Nat → Nat → Nat → Bool} {M : pt_M} (hml : ml_P M o n B) (h : lw_P n B) (hd : dg_P n B) (h3 : 3 ≤ n) : ∃ M', pt_Does yX7_codeOf YX7_codeOf [pt_r 7 0, pt_i (nI o), pt_i (nI n)] M none M' ∧ ck_P M M' ∧ ∀ p, p < rk_0 n n → pt_A M' 38 0 p = cd_F n B p := by
  have hn := h.1
  have ho := hml.1
  have hcn := to_nI hn
  obtain ⟨M2, d1, k1, a1⟩ := dX7_least_38 hml h hd h3
  have hml2 : ml_P M2 o n B := ml_A hml (k1.2.1 32 0 (by decide) (by decide) (by decide))
  obtain ⟨M3, d2, k2, a2⟩ := dX7_least_39 (ng_ml hml2 h) (lw_mb h) mb_dg h3
  have e38 : pt_A (ng_M M3 (nI o)) 38 0 = pt_A M2 38 0 := (ng_A (by decide)).trans ((k2.2.1 38 0 (by decide) (by decide) (by decide)).trans (ng_A (by decide)))
  have hx : (ng_M M3 (nI o)).2.2 = M.2.2 := k2.2.2.trans k1.2.2
  have hF : pt_F (ng_M M3 (nI o)) = pt_F M := k2.1.trans k1.1
  have e32 : pt_A (ng_M M3 (nI o)) 32 0 = pt_A M 32 0 := by
    have e : pt_A M3 32 0 = nf_F (pt_A M2 32 0) (pt_nt (nI o)) 120 := (k2.2.1 32 0 (by decide) (by decide) (by decide)).trans pt_A_wA
    have e' : pt_A (ng_M M3 (nI o)) 32 0 = nf_F (pt_A M3 32 0) (pt_nt (nI o)) 120 := pt_A_wA
    rw [e', e, nf_nf]
    exact k1.2.1 32 0 (by decide) (by decide) (by decide)
  have hck : ck_P M (ng_M M3 (nI o)) := by
    refine ⟨hF, fun k i c1 c2 c3 c4 => ?_, hx⟩
    by_cases c : k = 32
    · by_cases ci : i = 0
      · rw [c, ci]
        exact e32
      · have e1 : pt_A (ng_M M3 (nI o)) k i = pt_A M3 k i := if_neg fun z => ci z.2
        have e2 : pt_A (ng_M M2 (nI o)) k i = pt_A M2 k i := if_neg fun z => ci z.2
        rw [e1, k2.2.1 k i c1 c2 c4, e2, k1.2.1 k i c1 c2 c3]
    · rw [ng_A c, k2.2.1 k i c1 c2 c4, ng_A c, k1.2.1 k i c1 c2 c3]
  have b1 : ∀ p, p < rk_0 n n → pt_A (ng_M M3 (nI o)) 38 0 p = fr_R n B false n p := fun p hp => by rw [e38]; exact a1 p hp
  have b2 : ∀ p, p < rk_0 n n → pt_A (ng_M M3 (nI o)) 39 0 p = fr_R n B true n p := fun p hp => by rw [ng_A (by decide), fr_bm h hd h3]; exact a2 p hp
  have hc := mc_cg b2 b1
  have hng : ng_P (nI o) := ⟨o, rfl, ho⟩
  have hX : (ng_M M3 (nI o)).2.2.2.2 = M.2.2.2.2 := congrArg (fun z => z.2.2) hx
  unfold cd_F
  by_cases c : mc_F (fr_R n B true n) (fr_R n B false n) (rk_0 n n) < 0
  · have g0 := gX7_codeOf_0_1 (nI o) (nI n) (rk_0 n n) M2 M3 M d1 hng d2 hcn (by rw [hc]; exact Int32.not_le.mpr c)
    rw [if_pos c]
    generalize ng_M M3 (nI o) = M4 at *
    have K := pt_for0 (Y := YX7_codeOf) (fun q => (50, [(0, pt_r 7 0), (2, pt_i (nI n)), (3, pt_i (nI q))], [], pt_wA M4 38 0 (co_F (pt_A M4 38 0) (pt_A M4 39 0) q))) (n := rk_0 n n) fun q hq => by
      refine (gX7_codeOf_50_1 (nI n) (nI q) 0 M4 M4 _ (by rw [hcn.1]; exact nI_ge hq (by have := hcn.2; omega)) (pt_in_nI (by have := hcn.2; omega) (by decide))).to ?_
      have e : pt_A (pt_wA M4 38 0 (co_F (pt_A M4 38 0) (pt_A M4 39 0) q)) 39 0 = pt_A M4 39 0 := rfl
      rw [wA_2 _ _ _ _ (by have := hcn.2; omega), e, pt_nt_nI (by have := hcn.2; omega), co_step, nI_1]
    rw [co_zero, pt_wA_self] at K
    refine ⟨_, rX7_codeOf_76 (Nat.le_of_ble_eq_true rfl) (show (pt_wA M4 38 0 (co_F (pt_A M4 38 0) (pt_A M4 39 0) (rk_0 n n))).2.2.2.2 = M.2.2.2.2 from hX) (g0.tr (K.tr (gX7_codeOf_50_2 (nI n) (nI (rk_0 n n)) 0 M4 M4 _ (by rw [hcn.1]; exact Int32.le_refl _)))), ⟨hck.1, fun k i c1 c2 c3 c4 => (if_neg fun z => c3 z.1).trans (hck.2.1 k i c1 c2 c3 c4), hck.2.2⟩, fun p hp => ?_⟩
    rw [pt_A_wA]
    exact (if_pos hp).trans (b2 p hp)
  · have g0 := gX7_codeOf_0_2 (nI o) (nI n) (rk_0 n n) M2 M3 M d1 hng d2 hcn (by rw [hc]; exact Int32.not_lt.mp c)
    rw [if_neg c]
    exact ⟨_, rX7_codeOf_76 (Nat.le_of_ble_eq_true rfl) hX g0, hck, b1⟩
