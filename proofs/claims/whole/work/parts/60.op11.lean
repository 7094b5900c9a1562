/-! CALLS ON BOTH SIDES: swept -/
theorem og_sa {M : pt_M} {n q p : Nat} (hn : n ≤ 10) (hq : q + 1 < n) : og_F (sa_M M (nI q)) p = ox_F (og_F M) q p := by
  unfold og_F ox_F
  rw [sa_17 (by omega)]
  unfold upd
  by_cases h2 : p = q + 1
  · rw [if_pos h2, if_neg (by omega), if_pos h2]
  · rw [if_neg h2]
    by_cases h1 : p = q
    · rw [if_pos h1, if_pos h1]
    · rw [if_neg h1, if_neg h1, if_neg h2]
theorem ox_cong {n q p : Nat} {o o' : Nat → Nat} (hq : q + 1 < n) (hp : p < n) (h : ∀ r, r < n → o r = o' r) : ox_F o q p = ox_F o' q p := by
  rw [ox_eq, ox_eq]
  exact h _ (sx_lt (by omega) hp)
theorem rm_oo {M : pt_M} {n : Nat} {b : Nat → Nat} (hn : n ≤ 10) (h0 : ∀ p, p < n → og_F M p = p) : ∀ k, rk_P n b k → (∀ p, p < n → og_F (rm_M n b M k) p = oo_F b k p) ∧ pt_A (rm_M n b M k) 19 0 = sf_F (pt_A M 19 0) b k
  | 0, _ => ⟨h0, rfl⟩
  | k + 1, h => by
    obtain ⟨h1, h2⟩ := rm_oo hn h0 k fun t ht => h t (by omega)
    have hr := h k (by omega)
    have hr0 := hr
    unfold rd_F at hr
    rw [Bool.and_eq_true, decide_eq_true_eq, decide_eq_true_eq] at hr
    have e1 := h1 (b k) (by omega)
    have e2 := h1 (b k + 1) (by omega)
    have hr' : rd_F n (b k) (og_F (rm_M n b M k)) = true := by
      unfold rd_F
      rw [e1, e2]
      exact hr0
    have e : rm_M n b M (k + 1) = sa_M (pt_wA (rm_M n b M k) 19 0 (upd (pt_A (rm_M n b M k) 19 0) (10 * og_F (rm_M n b M k) (b k) + og_F (rm_M n b M k) (b k + 1)) (nI k))) (nI (b k)) := if_pos hr'
    rw [e]
    refine ⟨fun p hp => ?_, ?_⟩
    · rw [og_sa hn (by omega)]
      exact ox_cong (n := n) (by omega) hp h1
    · show upd (pt_A (rm_M n b M k) 19 0) (10 * og_F (rm_M n b M k) (b k) + og_F (rm_M n b M k) (b k + 1)) (nI k) = _
      rw [e1, e2, h2]
      rfl
theorem rr_rk {M : pt_M} {n L : Nat} {b : Nat → Nat} (hn : n ≤ 10) (h0 : ∀ p, p < n → og_F M p = p) : rr_F n L b M = none ↔ rk_P n b L := by
  have key : ∀ k, rk_P n b k → rd_F n (b k) (og_F (rm_M n b M k)) = rd_F n (b k) (oo_F b k) := fun k hk => by
    obtain ⟨h1, -⟩ := rm_oo hn h0 k hk
    unfold rd_F
    by_cases c : b k + 2 ≤ n
    · rw [h1 (b k) (by omega), h1 (b k + 1) (by omega)]
    · rw [decide_eq_false c]
      rfl
  unfold rr_F
  rw [fs_none]
  constructor
  · intro h t
    induction t using Nat.strongRecOn with
    | ind t ih =>
      intro ht
      have hk : rk_P n b t := fun u hu => ih u hu (by omega)
      have h1 := h t (by omega) (by omega)
      rw [← key t hk]
      cases c : rd_F n (b t) (og_F (rm_M n b M t))
      · rw [c] at h1
        cases h1
      · rfl
  · intro h t _ ht
    rw [key t fun u hu => h u (by omega), h t (by omega)]
    rfl
theorem sb_og {M : pt_M} {n p : Nat} (hn : n ≤ 10) (hp : p < n) : og_F (sb_M M n) p = p := by
  unfold og_F
  show pt_nt (if p < n then nI p else _) = p
  rw [if_pos hp, pt_nt_nI (by omega)]
theorem CR_ks {M M' : pt_M} {A : iv_A} (h : CR_P M A) (k : ks_P M M') : CR_P M' A := by
  have c1 : pt_F M' = pt_F M := k.1
  have c3 : pt_R M' = pt_R M := by
    have e : M'.2.2 = M.2.2 := k.2.2
    show M'.2.2.2.1 = M.2.2.2.1
    rw [e]
  have eA : ∀ q i, q ≠ 16 → q ≠ 17 → q ≠ 18 → q ≠ 19 → pt_A M' q i = pt_A M q i := k.2.1
  obtain ⟨h1, h2, h3, h4, h5, h6, h7, h8, h9⟩ := h
  refine ⟨⟨?_, h1.2.1, fun p hp => ?_⟩, ?_, ?_, fun q hq => ?_, fun i hi => ?_, ?_, ?_, h8, fun p hp => ?_⟩
  · rw [c1]
    exact h1.1
  · rw [eA 14 0 (by decide) (by decide) (by decide) (by decide)]
    exact h1.2.2 p hp
  · rw [c3]
    exact h2
  · rw [c3]
    exact h3
  · rw [c3]
    exact cs_ca (h4 q hq) (fun f => by rw [c1]) (eA 11 _ (by decide) (by decide) (by decide) (by decide)) (eA 12 _ (by decide) (by decide) (by decide) (by decide)) (eA 13 _ (by decide) (by decide) (by decide) (by decide))
  · rw [eA 15 0 (by decide) (by decide) (by decide) (by decide)]
    exact h5 i hi
  · rw [c1]
    exact h6
  · rw [c1]
    exact h7
  · rw [eA 20 0 (by decide) (by decide) (by decide) (by decide)]
    exact h9 p hp
theorem mo_ks {M M' : pt_M} (k : ks_P M M') : mo_P M M' := ⟨by rw [k.1], fun q hq => funext fun i => k.2.1 q i (by omega) (by omega) (by omega) (by omega)⟩
/-! the model's swap -/
def sv_M (M : pt_M) (x y : Int32) : pt_M := pt_wA (pt_wA M 42 0 (upd (upd (pt_A M 42 0) (pt_nt x) (pt_A M 42 0 (pt_nt x + 1))) (pt_nt x + 1) (pt_A M 42 0 (pt_nt x)))) 43 0 (upd (pt_A M 43 0) (10 * pt_nt (pt_A M 42 0 (pt_nt x)) + pt_nt (pt_A M 42 0 (pt_nt x + 1))) y)
def sv_H (M : pt_M) (x : Int32) : Prop := ∃ q u v, x = nI q ∧ q + 1 < 10 ∧ pt_A M 42 0 q = nI u ∧ pt_A M 42 0 (q + 1) = nI v ∧ u < 10 ∧ v < 10
theorem rX7_swap_47 {vs : List pt_V} {M M' : pt_M} {L : List (Nat × pt_V)} (hvs : (vs.map pt_w).sum ≤ 4) (hX : M'.2.2.2.2 = M.2.2.2.2) (h : pt_Go YX7_swap (0, pt_en 0 vs, [], M) (47, L, [], M')) : pt_Does yX7_swap YX7_swap vs M none M' := pt_does_go tX7_swap_ok nX7_swap hvs hX ⟨_, by with_unfolding_all rfl, rfl, rfl⟩ h
set_option maxRecDepth 100000 in
theorem gX7_swap_0_1 (x1 : Int32) (x2 : Int32)  (M : pt_M) (h1 : pt_in x1 10) (h2 : pt_in (x1 + 1) 10) (h3 : pt_in ((10 * (pt_A M 42 0 (pt_nt x1))) + (pt_A (pt_wA (pt_wA M 42 0 (upd (pt_A M 42 0) (pt_nt x1) (pt_A M 42 0 (pt_nt (x1 + 1))))) 42 0 (upd (pt_A (pt_wA M 42 0 (upd (pt_A M 42 0) (pt_nt x1) (pt_A M 42 0 (pt_nt (x1 + 1))))) 42 0) (pt_nt (x1 + 1)) (pt_A M 42 0 (pt_nt x1)))) 42 0 (pt_nt x1))) 100) :
    pt_Go YX7_swap (0, [(0, pt_r 7 0), (1, pt_i x1), (2, pt_i x2)], [], M)
      (47, [(0, pt_r 7 0), (1, pt_i x1), (2, pt_i x2), (3, pt_i (pt_A M 42 0 (pt_nt x1)))], [], (pt_wA (pt_wA (pt_wA M 42 0 (upd (pt_A M 42 0) (pt_nt x1) (pt_A M 42 0 (pt_nt (x1 + 1))))) 42 0 (upd (pt_A (pt_wA M 42 0 (upd (pt_A M 42 0) (pt_nt x1) (pt_A M 42 0 (pt_nt (x1 + 1))))) 42 0) (pt_nt (x1 + 1)) (pt_A M 42 0 (pt_nt x1)))) 43 0 (upd (pt_A (pt_wA (pt_wA M 42 0 (upd (pt_A M 42 0) (pt_nt x1) (pt_A M 42 0 (pt_nt (x1 + 1))))) 42 0 (upd (pt_A (pt_wA M 42 0 (upd (pt_A M 42 0) (pt_nt x1) (pt_A M 42 0 (pt_nt (x1 + 1))))) 42 0) (pt_nt (x1 + 1)) (pt_A M 42 0 (pt_nt x1)))) 43 0) (pt_nt ((10 * (pt_A M 42 0 (pt_nt x1))) + (pt_A (pt_wA (pt_wA M 42 0 (upd (pt_A M 42 0) (pt_nt x1) (pt_A M 42 0 (pt_nt (x1 + 1))))) 42 0 (upd (pt_A (pt_wA M 42 0 (upd (pt_A M 42 0) (pt_nt x1) (pt_A M 42 0 (pt_nt (x1 + 1))))) 42 0) (pt_nt (x1 + 1)) (pt_A M 42 0 (pt_nt x1)))) 42 0 (pt_nt x1)))) x2))) :=
  pt_run_ok tX7_swap_ok 34 [] (P := (pt_in x1 10) ∧ (pt_in (x1 + 1) 10) ∧ (pt_in x1 10) ∧ (pt_in (x1 + 1) 10) ∧ (pt_in x1 10) ∧ (pt_in ((10 * (pt_A M 42 0 (pt_nt x1))) + (pt_A (pt_wA (pt_wA M 42 0 (upd (pt_A M 42 0) (pt_nt x1) (pt_A M 42 0 (pt_nt (x1 + 1))))) 42 0 (upd (pt_A (pt_wA M 42 0 (upd (pt_A M 42 0) (pt_nt x1) (pt_A M 42 0 (pt_nt (x1 + 1))))) 42 0) (pt_nt (x1 + 1)) (pt_A M 42 0 (pt_nt x1)))) 42 0 (pt_nt x1))) 100) ∧ True) (by with_unfolding_all rfl) ⟨h1, h2, h1, h2, h1, h3, trivial⟩
theorem dX7_swap {M : pt_M} {x y : Int32} (h : sv_H M x) : pt_Does yX7_swap YX7_swap [pt_r 7 0, pt_i x, pt_i y] M none (sv_M M x y) := by
  obtain ⟨q, u, v, rfl, hq, e1, e2, hu, hv⟩ := h
  have g := gX7_swap_0_1 (nI q) y M (pt_in_nI (by omega) (by decide)) (by rw [nI_1]; exact pt_in_nI hq (by decide))
  have e3 : pt_nt (nI q + 1) = q + 1 := by rw [nI_1, pt_nt_nI (by omega)]
  rw [pt_wA_wA, pt_A_wA, pt_A_wA, pt_nt_nI (by omega), e3] at g
  have e4 : upd (upd (pt_A M 42 0) q (pt_A M 42 0 (q + 1))) (q + 1) (pt_A M 42 0 q) q = nI v := by
    unfold upd
    rw [if_neg (by omega), if_pos rfl, e2]
  have e5 : (10 * nI u) + nI v = nI (10 * u + v) := by rw [show (10 : Int32) = nI 10 from rfl, pk_mul, nI_add]
  rw [e4, e1, e5, pt_nt_nI (show 10 * u + v < 2 ^ 31 by omega)] at g
  have g := g (pt_in_nI (by omega) (by decide))
  refine rX7_swap_47 (Nat.le_of_ble_eq_true rfl) ?_ (g.toM ?_)
  · rfl
  · unfold sv_M
    rw [pt_nt_nI (show q < 2 ^ 31 by omega), e1, e2, pt_nt_nI (show u < 2 ^ 31 by omega), pt_nt_nI (show v < 2 ^ 31 by omega)]
    rfl
def oa_F (f : Nat → Int32) (n : Nat) (o : Nat → Nat) : Nat → Int32 := fun p => if p < n then nI (o p) else f p
theorem oa_ox {f : Nat → Int32} {n q : Nat} {o : Nat → Nat} (hq : q + 1 < n) : upd (upd (oa_F f n o) q (oa_F f n o (q + 1))) (q + 1) (oa_F f n o q) = oa_F f n (ox_F o q) := by
  funext p
  unfold upd
  by_cases h2 : p = q + 1
  · rw [if_pos h2]
    unfold oa_F ox_F
    rw [if_pos (by omega), if_pos (by omega), if_neg (by omega), if_pos h2]
  · rw [if_neg h2]
    by_cases h1 : p = q
    · rw [if_pos h1]
      unfold oa_F ox_F
      rw [if_pos (by omega), if_pos (by omega), if_pos h1]
    · rw [if_neg h1]
      unfold oa_F ox_F
      by_cases h3 : p < n
      · rw [if_pos h3, if_pos h3, if_neg h1, if_neg h2]
      · rw [if_neg h3, if_neg h3]
/-- the order and the swaps in the model's cells -/
def ow_M (M : pt_M) (n : Nat) (f : Nat → Int32) (o : Nat → Nat) (w : Nat → Int32) : pt_M := pt_wA (pt_wA M 42 0 (oa_F f n o)) 43 0 w
theorem ow_42 {M : pt_M} {n : Nat} {f w : Nat → Int32} {o : Nat → Nat} : pt_A (ow_M M n f o w) 42 0 = oa_F f n o := rfl
theorem ow_43 {M : pt_M} {n : Nat} {f w : Nat → Int32} {o : Nat → Nat} : pt_A (ow_M M n f o w) 43 0 = w := rfl
theorem ow_ca {M : pt_M} {n : Nat} {f w : Nat → Int32} {o : Nat → Nat} : ca_P M (ow_M M n f o w) := (ca_wA (by decide)).tr (ca_wA (by decide))
theorem MR_ow {M : pt_M} {A : iv_A} {n : Nat} {f w : Nat → Int32} {o : Nat → Nat} (h : MR_P M A) : MR_P (ow_M M n f o w) A := MR_w (MR_w h (by decide) (by decide) (by decide) (by decide) (by decide) (by decide)) (by decide) (by decide) (by decide) (by decide) (by decide) (by decide)
theorem ow_H {M : pt_M} {n q : Nat} {f w : Nat → Int32} {o : Nat → Nat} (hn : n ≤ 10) (ho : or_P n o) (hq : q + 1 < n) : sv_H (ow_M M n f o w) (nI q) := ⟨q, o q, o (q + 1), rfl, by omega, by rw [ow_42]; exact if_pos (by omega), by rw [ow_42]; exact if_pos hq, by have := ho.1 q (by omega); omega, by have := ho.1 (q + 1) hq; omega⟩
theorem ow_sv {M : pt_M} {n q : Nat} {f w : Nat → Int32} {o : Nat → Nat} {y : Int32} (hn : n ≤ 10) (ho : or_P n o) (hq : q + 1 < n) : sv_M (ow_M M n f o w) (nI q) y = ow_M M n f (ox_F o q) (upd w (10 * o q + o (q + 1)) y) := by
  have h1 := ho.1 q (by omega)
  have h2 := ho.1 (q + 1) hq
  have e1 : oa_F f n o q = nI (o q) := if_pos (by omega)
  have e2 : oa_F f n o (q + 1) = nI (o (q + 1)) := if_pos hq
  unfold sv_M
  rw [pt_nt_nI (show q < 2 ^ 31 by omega), ow_42, ow_43, oa_ox hq, e1, e2, pt_nt_nI (by omega), pt_nt_nI (by omega)]
  unfold ow_M
  rw [pt_wA_sw (M := pt_wA M 42 0 (oa_F f n o)) (g := w) (by decide : (43 : Nat) ≠ 42), pt_wA_wA, pt_wA_wA]
theorem rX7_swept_42 {vs : List pt_V} {M M' : pt_M} {x : Int32} {L : List (Nat × pt_V)} (hn : narrow .boolean (.int x) = .int x) (hvs : (vs.map pt_w).sum ≤ 6) (hX : M'.2.2.2.2 = M.2.2.2.2) (h : pt_Go YX7_swept (0, pt_en 0 vs, [], M) (42, L, [pt_i x], M')) : pt_Does yX7_swept YX7_swept vs M (some (pt_i x)) M' := pt_does_go tX7_swept_ok nX7_swept hvs hX ⟨_, by with_unfolding_all rfl, rfl, _, rfl, hn⟩ h
theorem rX7_swept_114 {vs : List pt_V} {M M' : pt_M} {x : Int32} {L : List (Nat × pt_V)} (hn : narrow .boolean (.int x) = .int x) (hvs : (vs.map pt_w).sum ≤ 6) (hX : M'.2.2.2.2 = M.2.2.2.2) (h : pt_Go YX7_swept (0, pt_en 0 vs, [], M) (114, L, [pt_i x], M')) : pt_Does yX7_swept YX7_swept vs M (some (pt_i x)) M' := pt_does_go tX7_swept_ok nX7_swept hvs hX ⟨_, by with_unfolding_all rfl, rfl, _, rfl, hn⟩ h
theorem rX7_swept_230 {vs : List pt_V} {M M' : pt_M} {x : Int32} {L : List (Nat × pt_V)} (hn : narrow .boolean (.int x) = .int x) (hvs : (vs.map pt_w).sum ≤ 6) (hX : M'.2.2.2.2 = M.2.2.2.2) (h : pt_Go YX7_swept (0, pt_en 0 vs, [], M) (230, L, [pt_i x], M')) : pt_Does yX7_swept YX7_swept vs M (some (pt_i x)) M' := pt_does_go tX7_swept_ok nX7_swept hvs hX ⟨_, by with_unfolding_all rfl, rfl, _, rfl, hn⟩ h
set_option maxRecDepth 100000 in
theorem gX7_swept_0_1 (x1 : Int32) (x2 : Int32)  (M : pt_M) (h1 : sl_P x1) (h2 : ¬ x2 < 3) (h3 : ¬ 10 < x2) (h4 : ¬ (pt_F (tk_M (pt_wF M 7 0 0 0)) 7 3 0) = ((x2 * (x2 - 1)) / 2)) :
    pt_Go YX7_swept (0, [(0, pt_r 7 0), (1, pt_i x1), (2, pt_i x2)], [], M)
      (42, [(0, pt_r 7 0), (1, pt_i x1), (2, pt_i x2)], [pt_i 0], (tk_M (pt_wF M 7 0 0 0))) :=
  pt_run_ok tX7_swept_ok 25 [.inr (1, none, (tk_M (pt_wF M 7 0 0 0))), .inr (1, some (pt_i 1), (tk_M (pt_wF M 7 0 0 0))), .inl false, .inl false, .inl false, .inl false] (P := pt_Cal YX7_swept (.invokevirtual 92) [pt_r 7 0] (pt_wF M 7 0 0 0) none (tk_M (pt_wF M 7 0 0 0)) ∧ pt_Cal YX7_swept (.invokestatic 85) [pt_i x1] (tk_M (pt_wF M 7 0 0 0)) (some (pt_i 1)) (tk_M (pt_wF M 7 0 0 0)) ∧ (¬ (1 : Int32) = (0 : Int32)) ∧ (¬ x2 < 3) ∧ (¬ 10 < x2) ∧ (¬ (2 : Int32) = 0) ∧ (¬ (pt_F (tk_M (pt_wF M 7 0 0 0)) 7 3 0) = ((x2 * (x2 - 1)) / 2)) ∧ True) (by with_unfolding_all rfl) ⟨(pt_callV (i := 0) kX7_swept_92 mX7_taken rfl (by decide) rfl (dX7_taken (pt_wF M 7 0 0 0))), (pt_callS kX7_swept_85 mX7_isSlot rfl (dX7_isSlot_1 h1)), (by decide), h2, h3, (by decide), h4, trivial⟩
set_option maxRecDepth 100000 in
theorem gX7_swept_0_2 (x1 : Int32) (x2 : Int32)  (M : pt_M) (h1 : sl_P x1) (h2 : ¬ x2 < 3) (h3 : ¬ 10 < x2) (h4 : (pt_F (tk_M (pt_wF M 7 0 0 0)) 7 3 0) = ((x2 * (x2 - 1)) / 2)) :
    pt_Go YX7_swept (0, [(0, pt_r 7 0), (1, pt_i x1), (2, pt_i x2)], [], M)
      (45, [(0, pt_r 7 0), (1, pt_i x1), (2, pt_i x2), (3, pt_i 0)], [], (tk_M (pt_wF M 7 0 0 0))) :=
  pt_run_ok tX7_swept_ok 26 [.inr (1, none, (tk_M (pt_wF M 7 0 0 0))), .inr (1, some (pt_i 1), (tk_M (pt_wF M 7 0 0 0))), .inl false, .inl false, .inl false, .inl true] (P := pt_Cal YX7_swept (.invokevirtual 92) [pt_r 7 0] (pt_wF M 7 0 0 0) none (tk_M (pt_wF M 7 0 0 0)) ∧ pt_Cal YX7_swept (.invokestatic 85) [pt_i x1] (tk_M (pt_wF M 7 0 0 0)) (some (pt_i 1)) (tk_M (pt_wF M 7 0 0 0)) ∧ (¬ (1 : Int32) = (0 : Int32)) ∧ (¬ x2 < 3) ∧ (¬ 10 < x2) ∧ (¬ (2 : Int32) = 0) ∧ ((pt_F (tk_M (pt_wF M 7 0 0 0)) 7 3 0) = ((x2 * (x2 - 1)) / 2)) ∧ True) (by with_unfolding_all rfl) ⟨(pt_callV (i := 0) kX7_swept_92 mX7_taken rfl (by decide) rfl (dX7_taken (pt_wF M 7 0 0 0))), (pt_callS kX7_swept_85 mX7_isSlot rfl (dX7_isSlot_1 h1)), (by decide), h2, h3, (by decide), h4, trivial⟩
set_option maxRecDepth 100000 in
theorem gX7_swept_0_3 (x1 : Int32) (x2 : Int32)  (M : pt_M) (h1 : sl_P x1) (h2 : ¬ x2 < 3) (h3 : 10 < x2) :
    pt_Go YX7_swept (0, [(0, pt_r 7 0), (1, pt_i x1), (2, pt_i x2)], [], M)
      (42, [(0, pt_r 7 0), (1, pt_i x1), (2, pt_i x2)], [pt_i 0], (tk_M (pt_wF M 7 0 0 0))) :=
  pt_run_ok tX7_swept_ok 15 [.inr (1, none, (tk_M (pt_wF M 7 0 0 0))), .inr (1, some (pt_i 1), (tk_M (pt_wF M 7 0 0 0))), .inl false, .inl false, .inl true] (P := pt_Cal YX7_swept (.invokevirtual 92) [pt_r 7 0] (pt_wF M 7 0 0 0) none (tk_M (pt_wF M 7 0 0 0)) ∧ pt_Cal YX7_swept (.invokestatic 85) [pt_i x1] (tk_M (pt_wF M 7 0 0 0)) (some (pt_i 1)) (tk_M (pt_wF M 7 0 0 0)) ∧ (¬ (1 : Int32) = (0 : Int32)) ∧ (¬ x2 < 3) ∧ (10 < x2) ∧ True) (by with_unfolding_all rfl) ⟨(pt_callV (i := 0) kX7_swept_92 mX7_taken rfl (by decide) rfl (dX7_taken (pt_wF M 7 0 0 0))), (pt_callS kX7_swept_85 mX7_isSlot rfl (dX7_isSlot_1 h1)), (by decide), h2, h3, trivial⟩
set_option maxRecDepth 100000 in
theorem gX7_swept_0_4 (x1 : Int32) (x2 : Int32)  (M : pt_M) (h1 : sl_P x1) (h2 : x2 < 3) :
    pt_Go YX7_swept (0, [(0, pt_r 7 0), (1, pt_i x1), (2, pt_i x2)], [], M)
      (42, [(0, pt_r 7 0), (1, pt_i x1), (2, pt_i x2)], [pt_i 0], (tk_M (pt_wF M 7 0 0 0))) :=
  pt_run_ok tX7_swept_ok 12 [.inr (1, none, (tk_M (pt_wF M 7 0 0 0))), .inr (1, some (pt_i 1), (tk_M (pt_wF M 7 0 0 0))), .inl false, .inl true] (P := pt_Cal YX7_swept (.invokevirtual 92) [pt_r 7 0] (pt_wF M 7 0 0 0) none (tk_M (pt_wF M 7 0 0 0)) ∧ pt_Cal YX7_swept (.invokestatic 85) [pt_i x1] (tk_M (pt_wF M 7 0 0 0)) (some (pt_i 1)) (tk_M (pt_wF M 7 0 0 0)) ∧ (¬ (1 : Int32) = (0 : Int32)) ∧ (x2 < 3) ∧ True) (by with_unfolding_all rfl) ⟨(pt_callV (i := 0) kX7_swept_92 mX7_taken rfl (by decide) rfl (dX7_taken (pt_wF M 7 0 0 0))), (pt_callS kX7_swept_85 mX7_isSlot rfl (dX7_isSlot_1 h1)), (by decide), h2, trivial⟩
set_option maxRecDepth 100000 in
theorem gX7_swept_0_5 (x1 : Int32) (x2 : Int32)  (M : pt_M) (h1 : ¬ sl_P x1) :
    pt_Go YX7_swept (0, [(0, pt_r 7 0), (1, pt_i x1), (2, pt_i x2)], [], M)
      (42, [(0, pt_r 7 0), (1, pt_i x1), (2, pt_i x2)], [pt_i 0], (tk_M (pt_wF M 7 0 0 0))) :=
  pt_run_ok tX7_swept_ok 9 [.inr (1, none, (tk_M (pt_wF M 7 0 0 0))), .inr (1, some (pt_i 0), (tk_M (pt_wF M 7 0 0 0))), .inl true] (P := pt_Cal YX7_swept (.invokevirtual 92) [pt_r 7 0] (pt_wF M 7 0 0 0) none (tk_M (pt_wF M 7 0 0 0)) ∧ pt_Cal YX7_swept (.invokestatic 85) [pt_i x1] (tk_M (pt_wF M 7 0 0 0)) (some (pt_i 0)) (tk_M (pt_wF M 7 0 0 0)) ∧ ((0 : Int32) = (0 : Int32)) ∧ True) (by with_unfolding_all rfl) ⟨(pt_callV (i := 0) kX7_swept_92 mX7_taken rfl (by decide) rfl (dX7_taken (pt_wF M 7 0 0 0))), (pt_callS kX7_swept_85 mX7_isSlot rfl (dX7_isSlot_0 h1)), (by decide), trivial⟩
set_option maxRecDepth 100000 in
theorem gX7_swept_45_1 (l1 : Int32) (l2 : Int32) (l3 : Int32)  (M : pt_M) (h1 : ¬ l2 ≤ l3) (h2 : pt_in l3 10) :
    pt_Go YX7_swept (45, [(0, pt_r 7 0), (1, pt_i l1), (2, pt_i l2), (3, pt_i l3)], [], M)
      (45, [(0, pt_r 7 0), (1, pt_i l1), (2, pt_i l2), (3, pt_i (l3 + 1))], [], (pt_wA M 42 0 (upd (pt_A M 42 0) (pt_nt l3) l3))) :=
  pt_run_ok tX7_swept_ok 10 [.inl false] (P := (¬ l2 ≤ l3) ∧ (pt_in l3 10) ∧ True) (by with_unfolding_all rfl) ⟨h1, h2, trivial⟩
set_option maxRecDepth 100000 in
theorem gX7_swept_45_2 (l1 : Int32) (l2 : Int32) (l3 : Int32)  (M : pt_M) (h1 : l2 ≤ l3) :
    pt_Go YX7_swept (45, [(0, pt_r 7 0), (1, pt_i l1), (2, pt_i l2), (3, pt_i l3)], [], M)
      (65, [(0, pt_r 7 0), (1, pt_i l1), (2, pt_i l2), (3, pt_i 0)], [], M) :=
  pt_run_ok tX7_swept_ok 5 [.inl true] (P := (l2 ≤ l3) ∧ True) (by with_unfolding_all rfl) ⟨h1, trivial⟩
set_option maxRecDepth 100000 in
theorem gX7_swept_65_1 (l1 : Int32) (l2 : Int32) (l3 : Int32)  (M : pt_M) (h1 : ¬ (pt_F M 7 3 0) ≤ l3) (h2 : pt_in l3 140) (h3 : ¬ (pt_A M 30 0 (pt_nt l3)) < 0) (h4 : ¬ (l2 - 2) < (pt_A M 30 0 (pt_nt l3))) (h5 : pt_in (pt_A M 30 0 (pt_nt l3)) 10) (h6 : pt_in ((pt_A M 30 0 (pt_nt l3)) + 1) 10) (h7 : ¬ (pt_A M 42 0 (pt_nt (pt_A M 30 0 (pt_nt l3)))) ≤ (pt_A M 42 0 (pt_nt ((pt_A M 30 0 (pt_nt l3)) + 1)))) :
    pt_Go YX7_swept (65, [(0, pt_r 7 0), (1, pt_i l1), (2, pt_i l2), (3, pt_i l3)], [], M)
      (114, [(0, pt_r 7 0), (1, pt_i l1), (2, pt_i l2), (3, pt_i l3), (4, pt_i (pt_A M 30 0 (pt_nt l3)))], [pt_i 0], M) :=
  pt_run_ok tX7_swept_ok 28 [.inl false, .inl false, .inl false, .inl false] (P := (¬ (pt_F M 7 3 0) ≤ l3) ∧ (pt_in l3 140) ∧ (¬ (pt_A M 30 0 (pt_nt l3)) < 0) ∧ (¬ (l2 - 2) < (pt_A M 30 0 (pt_nt l3))) ∧ (pt_in (pt_A M 30 0 (pt_nt l3)) 10) ∧ (pt_in ((pt_A M 30 0 (pt_nt l3)) + 1) 10) ∧ (¬ (pt_A M 42 0 (pt_nt (pt_A M 30 0 (pt_nt l3)))) ≤ (pt_A M 42 0 (pt_nt ((pt_A M 30 0 (pt_nt l3)) + 1)))) ∧ True) (by with_unfolding_all rfl) ⟨h1, h2, h3, h4, h5, h6, h7, trivial⟩
set_option maxRecDepth 100000 in
theorem gX7_swept_65_2 (l1 : Int32) (l2 : Int32) (l3 : Int32)  (M : pt_M) (h1 : ¬ (pt_F M 7 3 0) ≤ l3) (h2 : pt_in l3 140) (h3 : ¬ (pt_A M 30 0 (pt_nt l3)) < 0) (h4 : ¬ (l2 - 2) < (pt_A M 30 0 (pt_nt l3))) (h5 : pt_in (pt_A M 30 0 (pt_nt l3)) 10) (h6 : pt_in ((pt_A M 30 0 (pt_nt l3)) + 1) 10) (h7 : (pt_A M 42 0 (pt_nt (pt_A M 30 0 (pt_nt l3)))) ≤ (pt_A M 42 0 (pt_nt ((pt_A M 30 0 (pt_nt l3)) + 1)))) (h8 : sv_H M (pt_A M 30 0 (pt_nt l3))) :
    pt_Go YX7_swept (65, [(0, pt_r 7 0), (1, pt_i l1), (2, pt_i l2), (3, pt_i l3)], [], M)
      (65, [(0, pt_r 7 0), (1, pt_i l1), (2, pt_i l2), (3, pt_i (l3 + 1))], [], (sv_M M (pt_A M 30 0 (pt_nt l3)) l3)) :=
  (pt_run_ok tX7_swept_ok 33 [.inl false, .inl false, .inl false, .inl true, .inr (3, none, (sv_M M (pt_A M 30 0 (pt_nt l3)) l3))] (P := (¬ (pt_F M 7 3 0) ≤ l3) ∧ (pt_in l3 140) ∧ (¬ (pt_A M 30 0 (pt_nt l3)) < 0) ∧ (¬ (l2 - 2) < (pt_A M 30 0 (pt_nt l3))) ∧ (pt_in (pt_A M 30 0 (pt_nt l3)) 10) ∧ (pt_in ((pt_A M 30 0 (pt_nt l3)) + 1) 10) ∧ ((pt_A M 42 0 (pt_nt (pt_A M 30 0 (pt_nt l3)))) ≤ (pt_A M 42 0 (pt_nt ((pt_A M 30 0 (pt_nt l3)) + 1)))) ∧ pt_Cal YX7_swept (.invokevirtual 180) [pt_r 7 0, pt_i (pt_A M 30 0 (pt_nt l3)), pt_i l3] M none (sv_M M (pt_A M 30 0 (pt_nt l3)) l3) ∧ True) (by with_unfolding_all rfl) ⟨h1, h2, h3, h4, h5, h6, h7, (pt_callV (i := 0) kX7_swept_180 mX7_swap rfl (by decide) rfl (dX7_swap h8)), trivial⟩ : pt_Go YX7_swept _ (65, [(0, pt_r 7 0), (1, pt_i l1), (2, pt_i l2), (3, pt_i (l3 + 1)), (4, pt_i (pt_A M 30 0 (pt_nt l3)))], [], (sv_M M (pt_A M 30 0 (pt_nt l3)) l3))).tr (pt_pick [0, 1, 2, 3] (by with_unfolding_all rfl))
set_option maxRecDepth 100000 in
theorem gX7_swept_65_3 (l1 : Int32) (l2 : Int32) (l3 : Int32)  (M : pt_M) (h1 : ¬ (pt_F M 7 3 0) ≤ l3) (h2 : pt_in l3 140) (h3 : ¬ (pt_A M 30 0 (pt_nt l3)) < 0) (h4 : (l2 - 2) < (pt_A M 30 0 (pt_nt l3))) :
    pt_Go YX7_swept (65, [(0, pt_r 7 0), (1, pt_i l1), (2, pt_i l2), (3, pt_i l3)], [], M)
      (114, [(0, pt_r 7 0), (1, pt_i l1), (2, pt_i l2), (3, pt_i l3), (4, pt_i (pt_A M 30 0 (pt_nt l3)))], [pt_i 0], M) :=
  pt_run_ok tX7_swept_ok 17 [.inl false, .inl false, .inl true] (P := (¬ (pt_F M 7 3 0) ≤ l3) ∧ (pt_in l3 140) ∧ (¬ (pt_A M 30 0 (pt_nt l3)) < 0) ∧ ((l2 - 2) < (pt_A M 30 0 (pt_nt l3))) ∧ True) (by with_unfolding_all rfl) ⟨h1, h2, h3, h4, trivial⟩
set_option maxRecDepth 100000 in
theorem gX7_swept_65_4 (l1 : Int32) (l2 : Int32) (l3 : Int32)  (M : pt_M) (h1 : ¬ (pt_F M 7 3 0) ≤ l3) (h2 : pt_in l3 140) (h3 : (pt_A M 30 0 (pt_nt l3)) < 0) :
    pt_Go YX7_swept (65, [(0, pt_r 7 0), (1, pt_i l1), (2, pt_i l2), (3, pt_i l3)], [], M)
      (114, [(0, pt_r 7 0), (1, pt_i l1), (2, pt_i l2), (3, pt_i l3), (4, pt_i (pt_A M 30 0 (pt_nt l3)))], [pt_i 0], M) :=
  pt_run_ok tX7_swept_ok 12 [.inl false, .inl true] (P := (¬ (pt_F M 7 3 0) ≤ l3) ∧ (pt_in l3 140) ∧ ((pt_A M 30 0 (pt_nt l3)) < 0) ∧ True) (by with_unfolding_all rfl) ⟨h1, h2, h3, trivial⟩
set_option maxRecDepth 100000 in
theorem gX7_swept_65_5 (l1 : Int32) (l2 : Int32) (l3 : Int32)  (M : pt_M) (h1 : (pt_F M 7 3 0) ≤ l3) :
    pt_Go YX7_swept (65, [(0, pt_r 7 0), (1, pt_i l1), (2, pt_i l2), (3, pt_i l3)], [], M)
      (130, [(0, pt_r 7 0), (1, pt_i l1), (2, pt_i l2), (3, pt_i 0)], [], M) :=
  pt_run_ok tX7_swept_ok 6 [.inl true] (P := ((pt_F M 7 3 0) ≤ l3) ∧ True) (by with_unfolding_all rfl) ⟨h1, trivial⟩
set_option maxRecDepth 100000 in
theorem gX7_swept_130_1 (l1 : Int32) (l2 : Int32) (l3 : Int32)  (M : pt_M) (h1 : ¬ l2 ≤ l3) :
    pt_Go YX7_swept (130, [(0, pt_r 7 0), (1, pt_i l1), (2, pt_i l2), (3, pt_i l3)], [], M)
      (140, [(0, pt_r 7 0), (1, pt_i l1), (2, pt_i l2), (3, pt_i l3), (4, pt_i (l3 + 1))], [], M) :=
  pt_run_ok tX7_swept_ok 7 [.inl false] (P := (¬ l2 ≤ l3) ∧ True) (by with_unfolding_all rfl) ⟨h1, trivial⟩
set_option maxRecDepth 100000 in
theorem gX7_swept_130_2 (l1 : Int32) (l2 : Int32) (l3 : Int32)  (M : pt_M) (h1 : l2 ≤ l3) (h2 : pt_in l1 6) :
    pt_Go YX7_swept (130, [(0, pt_r 7 0), (1, pt_i l1), (2, pt_i l2), (3, pt_i l3)], [], M)
      (230, [(0, pt_r 7 0), (1, pt_i l1), (2, pt_i l2), (3, pt_i l3)], [pt_i 1], (pt_wA M 31 0 (upd (pt_A M 31 0) (pt_nt l1) l2))) :=
  pt_run_ok tX7_swept_ok 9 [.inl true] (P := (l2 ≤ l3) ∧ (pt_in l1 6) ∧ True) (by with_unfolding_all rfl) ⟨h1, h2, trivial⟩
set_option maxRecDepth 100000 in
theorem gX7_swept_140_1 (l1 : Int32) (l2 : Int32) (l3 : Int32) (l4 : Int32)  (M : pt_M) (h1 : ¬ l2 ≤ l4) :
    pt_Go YX7_swept (140, [(0, pt_r 7 0), (1, pt_i l1), (2, pt_i l2), (3, pt_i l3), (4, pt_i l4)], [], M)
      (152, [(0, pt_r 7 0), (1, pt_i l1), (2, pt_i l2), (3, pt_i l3), (4, pt_i l4), (5, pt_i (l4 + 1))], [], M) :=
  pt_run_ok tX7_swept_ok 7 [.inl false] (P := (¬ l2 ≤ l4) ∧ True) (by with_unfolding_all rfl) ⟨h1, trivial⟩
set_option maxRecDepth 100000 in
theorem gX7_swept_140_2 (l1 : Int32) (l2 : Int32) (l3 : Int32) (l4 : Int32)  (M : pt_M) (h1 : l2 ≤ l4) :
    pt_Go YX7_swept (140, [(0, pt_r 7 0), (1, pt_i l1), (2, pt_i l2), (3, pt_i l3), (4, pt_i l4)], [], M)
      (130, [(0, pt_r 7 0), (1, pt_i l1), (2, pt_i l2), (3, pt_i (l3 + 1))], [], M) :=
  (pt_run_ok tX7_swept_ok 5 [.inl true] (P := (l2 ≤ l4) ∧ True) (by with_unfolding_all rfl) ⟨h1, trivial⟩ : pt_Go YX7_swept _ (130, [(0, pt_r 7 0), (1, pt_i l1), (2, pt_i l2), (3, pt_i (l3 + 1)), (4, pt_i l4)], [], M)).tr (pt_pick [0, 1, 2, 3] (by with_unfolding_all rfl))
set_option maxRecDepth 100000 in
theorem gX7_swept_152_1 (l1 : Int32) (l2 : Int32) (l3 : Int32) (l4 : Int32) (l5 : Int32)  (M : pt_M) (h1 : ¬ l2 ≤ l5) (h2 : pt_in ((10 * l3) + l4) 100) (h3 : pt_in ((10 * l4) + l5) 100) (h4 : ¬ (pt_A M 43 0 (pt_nt ((10 * l4) + l5))) ≤ (pt_A M 43 0 (pt_nt ((10 * l3) + l4)))) (h5 : pt_in ((120 * l1) + (th_I l3 l4 l5)) 960) :
    pt_Go YX7_swept (152, [(0, pt_r 7 0), (1, pt_i l1), (2, pt_i l2), (3, pt_i l3), (4, pt_i l4), (5, pt_i l5)], [], M)
      (152, [(0, pt_r 7 0), (1, pt_i l1), (2, pt_i l2), (3, pt_i l3), (4, pt_i l4), (5, pt_i (l5 + 1))], [], (se_M M (120 * l1) l3 l4 l5 1)) :=
  pt_run_ok tX7_swept_ok 32 [.inl false, .inl false, .inr (6, none, (se_M M (120 * l1) l3 l4 l5 1))] (P := (¬ l2 ≤ l5) ∧ (pt_in ((10 * l3) + l4) 100) ∧ (pt_in ((10 * l4) + l5) 100) ∧ (¬ (pt_A M 43 0 (pt_nt ((10 * l4) + l5))) ≤ (pt_A M 43 0 (pt_nt ((10 * l3) + l4)))) ∧ pt_Cal YX7_swept (.invokevirtual 99) [pt_r 7 0, pt_i (120 * l1), pt_i l3, pt_i l4, pt_i l5, pt_i 1] M none (se_M M (120 * l1) l3 l4 l5 1) ∧ True) (by with_unfolding_all rfl) ⟨h1, h2, h3, h4, (pt_callV (i := 0) kX7_swept_99 mX7_set rfl (by decide) rfl (dX7_set h5)), trivial⟩
set_option maxRecDepth 100000 in
theorem gX7_swept_152_2 (l1 : Int32) (l2 : Int32) (l3 : Int32) (l4 : Int32) (l5 : Int32)  (M : pt_M) (h1 : ¬ l2 ≤ l5) (h2 : pt_in ((10 * l3) + l4) 100) (h3 : pt_in ((10 * l4) + l5) 100) (h4 : (pt_A M 43 0 (pt_nt ((10 * l4) + l5))) ≤ (pt_A M 43 0 (pt_nt ((10 * l3) + l4)))) (h5 : pt_in ((120 * l1) + (th_I l3 l4 l5)) 960) :
    pt_Go YX7_swept (152, [(0, pt_r 7 0), (1, pt_i l1), (2, pt_i l2), (3, pt_i l3), (4, pt_i l4), (5, pt_i l5)], [], M)
      (152, [(0, pt_r 7 0), (1, pt_i l1), (2, pt_i l2), (3, pt_i l3), (4, pt_i l4), (5, pt_i (l5 + 1))], [], (se_M M (120 * l1) l3 l4 l5 (-1))) :=
  pt_run_ok tX7_swept_ok 31 [.inl false, .inl true, .inr (6, none, (se_M M (120 * l1) l3 l4 l5 (-1)))] (P := (¬ l2 ≤ l5) ∧ (pt_in ((10 * l3) + l4) 100) ∧ (pt_in ((10 * l4) + l5) 100) ∧ ((pt_A M 43 0 (pt_nt ((10 * l4) + l5))) ≤ (pt_A M 43 0 (pt_nt ((10 * l3) + l4)))) ∧ pt_Cal YX7_swept (.invokevirtual 99) [pt_r 7 0, pt_i (120 * l1), pt_i l3, pt_i l4, pt_i l5, pt_i (-1)] M none (se_M M (120 * l1) l3 l4 l5 (-1)) ∧ True) (by with_unfolding_all rfl) ⟨h1, h2, h3, h4, (pt_callV (i := 0) kX7_swept_99 mX7_set rfl (by decide) rfl (dX7_set h5)), trivial⟩
set_option maxRecDepth 100000 in
theorem gX7_swept_152_3 (l1 : Int32) (l2 : Int32) (l3 : Int32) (l4 : Int32) (l5 : Int32)  (M : pt_M) (h1 : l2 ≤ l5) :
    pt_Go YX7_swept (152, [(0, pt_r 7 0), (1, pt_i l1), (2, pt_i l2), (3, pt_i l3), (4, pt_i l4), (5, pt_i l5)], [], M)
      (140, [(0, pt_r 7 0), (1, pt_i l1), (2, pt_i l2), (3, pt_i l3), (4, pt_i (l4 + 1))], [], M) :=
  (pt_run_ok tX7_swept_ok 5 [.inl true] (P := (l2 ≤ l5) ∧ True) (by with_unfolding_all rfl) ⟨h1, trivial⟩ : pt_Go YX7_swept _ (140, [(0, pt_r 7 0), (1, pt_i l1), (2, pt_i l2), (3, pt_i l3), (4, pt_i (l4 + 1)), (5, pt_i l5)], [], M)).tr (pt_pick [0, 1, 2, 3, 4] (by with_unfolding_all rfl))
def fs_S (w : Nat → Int32) (i j k : Nat) : Bool := decide (¬ w (10 * j + k) ≤ w (10 * i + j))
theorem pt_wA_id {M : pt_M} {k i : Nat} {g : Nat → Int32} (h : g = pt_A M k i) : pt_wA M k i g = M := by rw [h, pt_wA_self]
theorem sw_init {s n : Nat} {M : pt_M} (hn : n ≤ 10) : pt_Go YX7_swept (45, [(0, pt_r 7 0), (1, pt_i (nI s)), (2, pt_i (nI n)), (3, pt_i 0)], [], M) (65, [(0, pt_r 7 0), (1, pt_i (nI s)), (2, pt_i (nI n)), (3, pt_i 0)], [], ow_M M n (pt_A M 42 0) (fun p => p) (pt_A M 43 0)) := by
  have K := pt_for0 (Y := YX7_swept) (fun k => (45, [(0, pt_r 7 0), (1, pt_i (nI s)), (2, pt_i (nI n)), (3, pt_i (nI k))], [], pt_wA M 42 0 (co_F (pt_A M 42 0) (fun p => nI p) k))) (n := n) fun k hk => by
    refine (gX7_swept_45_1 (nI s) (nI n) (nI k) _ (nI_ge hk (by omega)) (pt_in_nI (by omega) (by decide))).to ?_
    rw [nI_1, pt_nt_nI (by omega), pt_wA_wA, pt_A_wA, co_step (pt_A M 42 0) (fun p => nI p) k]
  refine ((pt_Go.rf.toM ?_).tr (K.tr (gX7_swept_45_2 (nI s) (nI n) (nI n) _ (Int32.le_refl _)))).toM ?_
  · rw [co_zero, pt_wA_self]
  · unfold ow_M
    exact (pt_wA_id rfl).symm
theorem sw_read {s n : Nat} {b : Nat → Nat} {f w : Nat → Int32} {M : pt_M} (hn : n ≤ 10) (h3 : 3 ≤ n) (hL : pt_F M 7 3 0 = nI (sN_F n)) (hb : mp_P M (sN_F n) b) : (rk_P n b (sN_F n) → pt_Go YX7_swept (65, [(0, pt_r 7 0), (1, pt_i (nI s)), (2, pt_i (nI n)), (3, pt_i 0)], [], ow_M M n f (fun p => p) w) (130, [(0, pt_r 7 0), (1, pt_i (nI s)), (2, pt_i (nI n)), (3, pt_i 0)], [], ow_M M n f (oo_F b (sN_F n)) (sf_F w b (sN_F n)))) ∧ (¬ rk_P n b (sN_F n) → ∃ k, pt_Go YX7_swept (65, [(0, pt_r 7 0), (1, pt_i (nI s)), (2, pt_i (nI n)), (3, pt_i 0)], [], ow_M M n f (fun p => p) w) (114, [], [pt_i 0], ow_M M n f (oo_F b k) (sf_F w b k))) := by
  have hN := (so_nI hn).2
  have K := pt_srn (α := Nat) (Y := YX7_swept) (S := fun k => (65, [(0, pt_r 7 0), (1, pt_i (nI s)), (2, pt_i (nI n)), (3, pt_i (nI k))], [], ow_M M n f (oo_F b k) (sf_F w b k))) (R := fun k => (114, [], [pt_i 0], ow_M M n f (oo_F b k) (sf_F w b k))) (n := sN_F n) (f := fun k => if rd_F n (b k) (oo_F b k) then none else some k) 0 (fun k _ hk hpre => by
    have hrk : rk_P n b k := fun t ht => by
      have := hpre t (by omega) ht
      cases c : rd_F n (b t) (oo_F b t)
      · rw [c] at this
        cases this
      · rfl
    obtain ⟨ho, -, -⟩ := ww_ok k hrk
    have hbk := (hb.2 k hk).2
    have e30 : pt_A (ow_M M n f (oo_F b k) (sf_F w b k)) 30 0 (pt_nt (nI k)) = sb_F (b k) := by
      rw [pt_nt_nI (by omega)]
      exact (hb.2 k hk).1
    have hlt : ¬ pt_F (ow_M M n f (oo_F b k) (sf_F w b k)) 7 3 0 ≤ nI k := by
      rw [show pt_F (ow_M M n f (oo_F b k) (sf_F w b k)) 7 3 0 = nI (sN_F n) from hL]
      exact nI_ge hk (by omega)
    have h140 : pt_in (nI k) 140 := pt_in_nI (by omega) (by decide)
    by_cases c1 : 128 ≤ b k
    · have hq : rd_F n (b k) (oo_F b k) = false := by unfold rd_F; rw [decide_eq_false (by omega)]; rfl
      rw [hq]
      refine ⟨fun v z => ?_, fun z => (by cases z)⟩
      cases z
      exact (gX7_swept_65_4 (nI s) (nI n) (nI k) _ hlt h140 (by rw [e30]; exact (sb_neg hbk).mpr c1)).tr pt_dropA
    have e30' : pt_A (ow_M M n f (oo_F b k) (sf_F w b k)) 30 0 (pt_nt (nI k)) = nI (b k) := by rw [e30]; exact sb_pos (by omega)
    have hnn : ¬ pt_A (ow_M M n f (oo_F b k) (sf_F w b k)) 30 0 (pt_nt (nI k)) < 0 := by rw [e30']; exact nI_pos (by omega)
    have en2 : nI n - 2 = nI (n - 2) := pk_sub (b := 2) (by omega)
    by_cases c2 : b k + 2 ≤ n
    · have hle : ¬ (nI n - 2) < pt_A (ow_M M n f (oo_F b k) (sf_F w b k)) 30 0 (pt_nt (nI k)) := by rw [en2, e30']; exact nI_nlt (by omega) (by omega)
      have hb1 := ho.1 (b k) (by omega)
      have hb2 := ho.1 (b k + 1) (by omega)
      have o1 : pt_A (ow_M M n f (oo_F b k) (sf_F w b k)) 42 0 (b k) = nI (oo_F b k (b k)) := by rw [ow_42]; exact if_pos (by omega)
      have o2 : pt_A (ow_M M n f (oo_F b k) (sf_F w b k)) 42 0 (b k + 1) = nI (oo_F b k (b k + 1)) := by rw [ow_42]; exact if_pos (by omega)
      have i1 : pt_in (pt_A (ow_M M n f (oo_F b k) (sf_F w b k)) 30 0 (pt_nt (nI k))) 10 := by rw [e30']; exact pt_in_nI (by omega) (by decide)
      have i2 : pt_in (pt_A (ow_M M n f (oo_F b k) (sf_F w b k)) 30 0 (pt_nt (nI k)) + 1) 10 := by rw [e30', nI_1]; exact pt_in_nI (by omega) (by decide)
      by_cases c3 : oo_F b k (b k) ≤ oo_F b k (b k + 1)
      · have hq : rd_F n (b k) (oo_F b k) = true := by unfold rd_F; rw [decide_eq_true c2, decide_eq_true c3]; rfl
        rw [hq]
        refine ⟨fun v z => (by cases z), fun _ => (gX7_swept_65_2 (nI s) (nI n) (nI k) _ hlt h140 hnn hle i1 i2 (by rw [e30', nI_1, pt_nt_nI (by omega), pt_nt_nI (by omega), o1, o2]; exact nI_le c3 (by omega)) (by rw [e30']; exact ow_H hn ho (by omega))).to ?_⟩
        rw [e30', nI_1, ow_sv hn ho (by omega)]
        rfl
      · have hq : rd_F n (b k) (oo_F b k) = false := by unfold rd_F; rw [decide_eq_false c3, Bool.and_false]
        rw [hq]
        refine ⟨fun v z => ?_, fun z => (by cases z)⟩
        cases z
        exact (gX7_swept_65_1 (nI s) (nI n) (nI k) _ hlt h140 hnn hle i1 i2 (by rw [e30', nI_1, pt_nt_nI (by omega), pt_nt_nI (by omega), o1, o2]; exact nI_ge (by omega) (by omega))).tr pt_dropA
    · have hq : rd_F n (b k) (oo_F b k) = false := by unfold rd_F; rw [decide_eq_false c2]; rfl
      rw [hq]
      refine ⟨fun v z => ?_, fun z => (by cases z)⟩
      cases z
      exact (gX7_swept_65_3 (nI s) (nI n) (nI k) _ hlt h140 hnn (by rw [en2, e30']; exact nI_lt (by omega) (by omega))).tr pt_dropA) (sN_F n - 0) 0 (Nat.le_refl 0) (by omega) (fun j a b => absurd b (Nat.not_lt_zero j))
  constructor
  · intro hrk
    refine (K.2 (fs_none.mpr fun t _ ht => by rw [hrk t (by omega)]; rfl)).tr (gX7_swept_65_5 (nI s) (nI n) (nI (sN_F n)) _ ?_)
    rw [show pt_F (ow_M M n f (oo_F b (sN_F n)) (sf_F w b (sN_F n))) 7 3 0 = nI (sN_F n) from hL]
    exact Int32.le_refl _
  · intro hrk
    cases hf : fs_F (sN_F n - 0) 0 fun k => if rd_F n (b k) (oo_F b k) then none else some k with
    | some k => exact ⟨k, K.1 k hf⟩
    | none =>
      refine absurd (fun t ht => ?_) hrk
      have := fs_none.mp hf t (by omega) (by omega)
      cases c : rd_F n (b t) (oo_F b t)
      · rw [c] at this
        cases this
      · rfl
theorem sw_fill {s n : Nat} {M : pt_M} (hs : s < 6) (hn : n ≤ 10) : pt_Go YX7_swept (130, [(0, pt_r 7 0), (1, pt_i (nI s)), (2, pt_i (nI n)), (3, pt_i 0)], [], M) (230, [], [pt_i 1], sl_M (st_M M (120 * s) n (fs_S (pt_A M 43 0))) s n) := by
  have ho : 120 * s + 120 ≤ 960 := by omega
  have K := pt_three (Y := YX7_swept) (n := n)
    (fun i => (130, [(0, pt_r 7 0), (1, pt_i (nI s)), (2, pt_i (nI n)), (3, pt_i (nI i))], [], sp_M M (120 * s) n (fs_S (pt_A M 43 0)) i (i + 1) (i + 2)))
    (fun i j => (140, [(0, pt_r 7 0), (1, pt_i (nI s)), (2, pt_i (nI n)), (3, pt_i (nI i)), (4, pt_i (nI j))], [], sp_M M (120 * s) n (fs_S (pt_A M 43 0)) i j (j + 1)))
    (fun i j k => (152, [(0, pt_r 7 0), (1, pt_i (nI s)), (2, pt_i (nI n)), (3, pt_i (nI i)), (4, pt_i (nI j)), (5, pt_i (nI k))], [], sp_M M (120 * s) n (fs_S (pt_A M 43 0)) i j k))
    (fun i hi => (gX7_swept_130_1 (nI s) (nI n) (nI i) _ (nI_ge hi (by omega))).to (by rw [nI_1]))
    (fun i j hij hj => (gX7_swept_140_1 (nI s) (nI n) (nI i) (nI j) _ (nI_ge hj (by omega))).to (by rw [nI_1]))
    (fun i hi => (gX7_swept_140_2 (nI s) (nI n) (nI i) (nI n) _ (Int32.le_refl _)).to (by rw [nI_1, sp_i (Nat.le_refl n)]))
    (fun i j k hij hjk hk => by
      have hin := si_in ho hij hjk (show k < 10 by omega)
      have e1 : (10 * nI i) + nI j = nI (10 * i + j) := by rw [show (10 : Int32) = nI 10 from rfl, pk_mul, nI_add]
      have e2 : (10 * nI j) + nI k = nI (10 * j + k) := by rw [show (10 : Int32) = nI 10 from rfl, pk_mul, nI_add]
      have n1 : pt_nt (nI (10 * i + j)) = 10 * i + j := pt_nt_nI (by omega)
      have n2 : pt_nt (nI (10 * j + k)) = 10 * j + k := pt_nt_nI (by omega)
      have i1 : pt_in ((10 * nI i) + nI j) 100 := by rw [e1]; exact pt_in_nI (by omega) (by decide)
      have i2 : pt_in ((10 * nI j) + nI k) 100 := by rw [e2]; exact pt_in_nI (by omega) (by decide)
      have a43 : pt_A (sp_M M (120 * s) n (fs_S (pt_A M 43 0)) i j k) 43 0 = pt_A M 43 0 := rfl
      by_cases c : pt_A M 43 0 (10 * j + k) ≤ pt_A M 43 0 (10 * i + j)
      · refine (gX7_swept_152_2 (nI s) (nI n) (nI i) (nI j) (nI k) _ (nI_ge hk (by omega)) i1 i2 (by rw [e1, e2, n1, n2, a43]; exact c) (by rw [m120]; exact hin)).to ?_
        rw [nI_1, m120, sp_k ho hn hij hjk hk (by unfold fs_S; rw [decide_eq_false (fun z => z c)]; rfl)]
      · refine (gX7_swept_152_1 (nI s) (nI n) (nI i) (nI j) (nI k) _ (nI_ge hk (by omega)) i1 i2 (by rw [e1, e2, n1, n2, a43]; exact c) (by rw [m120]; exact hin)).to ?_
        rw [nI_1, m120, sp_k ho hn hij hjk hk (by unfold fs_S; rw [decide_eq_true c]; rfl)])
    (fun i j hij hj => (gX7_swept_152_3 (nI s) (nI n) (nI i) (nI j) (nI n) _ (Int32.le_refl _)).to (by rw [nI_1, sp_j]))
  refine (pt_Go.rf.toM ?_).tr (K.tr (((gX7_swept_130_2 (nI s) (nI n) (nI n) _ (Int32.le_refl _) (pt_in_nI hs (by decide))).tr pt_dropA).toM ?_))
  · show M = sp_M M (120 * s) n (fs_S (pt_A M 43 0)) 0 1 2
    rw [sp_0]
  · rw [pt_nt_nI (by omega), sp_n]
    rfl
