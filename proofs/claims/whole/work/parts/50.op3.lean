/-! CALLS ON BOTH SIDES: rim, lines -/
theorem CR_l1 {M : pt_M} {A : iv_A} {s : Nat} (h : CR_P M A) (hs : s < 6) (hn : iv_N A s ≠ 0) : tA_P M (nI s) ∧ tb_P M (pt_R M (pt_nt (nI s) + 1)) (iv_N A s) (iv_B A s) ∧ fa_P M (pt_R M (pt_nt (nI s) + 1)) (iv_N A s) (iv_B A s) := by
  obtain ⟨q1, q2, q3, q4, q5, q6⟩ := CR_y h hs hn
  refine ⟨q3, ?_, ?_⟩
  · rw [CR_R h hs]
    exact q4
  · rw [CR_R h hs]
    exact q5
theorem CR_lA {M : pt_M} {A : iv_A} {s : Nat} (h : CR_P M A) (hs : s < 6) (hn : iv_N A s ≠ 0) (hz : wy_F (iv_N A s) (iv_B A s) = 0) : lA_P M (nI s) (iv_N A s) (iv_B A s) := ⟨(CR_l1 h hs hn).1, (CR_l1 h hs hn).2.1, (CR_l1 h hs hn).2.2, hz⟩
theorem CR_lN {M : pt_M} {A : iv_A} {s : Nat} (h : CR_P M A) (hs : s < 6) (hn : iv_N A s ≠ 0) (hz : ¬ wy_F (iv_N A s) (iv_B A s) = 0) : lN_P M (nI s) (iv_N A s) (iv_B A s) := ⟨(CR_l1 h hs hn).1, (CR_l1 h hs hn).2.1, (CR_l1 h hs hn).2.2, hz⟩
theorem CR_wm {M : pt_M} {A : iv_A} {s : Nat} (h : CR_P M A) (hs : s < 6) (hn : iv_N A s ≠ 0) : CR_P (wl_M M (nI s) (iv_N A s) (iv_B A s)) A := by
  unfold wl_M
  rw [CR_R h hs]
  exact CR_wl h hs hn
theorem mo_wm {M : pt_M} {x : Int32} {n : Nat} {B : Nat → Nat → Nat → Bool} : mo_P M (wl_M M x n B) := mo_wF (by decide)
theorem e2_n {n : Nat} (hn : n ≤ 10) : ((1 : Int32) <<< (nI n &&& 31)) - 1 = nI (2 ^ n - 1) := by
  have := Nat.two_pow_pos n
  rw [pt_shl1 n (by omega), show (1 : Int32) = nI 1 from rfl, pk_sub (by omega)]
theorem MR_36 {M : pt_M} {A : iv_A} {g : Nat → Int32} (h : MR_P M A) : MR_P (pt_wA (t0_M M) 36 0 g) A := MR_w (MR_t0 h) (by decide) (by decide) (by decide) (by decide) (by decide) (by decide)
theorem ca_t36 {M : pt_M} {g : Nat → Int32} : ca_P M (pt_wA (t0_M M) 36 0 g) := t0_ca.tr ca_36
theorem il_t {M : pt_M} {A : iv_A} {s : Nat} (h : MR_P M A) (hs : s < 6) (hn : iv_N A s ≠ 0) (hz : wy_F (iv_N A s) (iv_B A s) = 0) : ∃ g, pt_Does yX7_isLawful YX7_isLawful [pt_r 7 0, pt_i (nI s)] (pt_wF M 7 0 0 0) (some (pt_i 1)) (pt_wA (t0_M M) 36 0 g) := by
  obtain ⟨g, hg⟩ := il_y (MR_t0 h) hs hn
  rw [decide_eq_true hz] at hg
  exact ⟨g, hg⟩
theorem il_f {M : pt_M} {A : iv_A} {s : Nat} (h : MR_P M A) (hs : s < 6) (hn : iv_N A s ≠ 0) (hz : ¬ wy_F (iv_N A s) (iv_B A s) = 0) : ∃ g, pt_Does yX7_isLawful YX7_isLawful [pt_r 7 0, pt_i (nI s)] (pt_wF M 7 0 0 0) (some (pt_i 0)) (pt_wA (t0_M M) 36 0 g) := by
  obtain ⟨g, hg⟩ := il_y (MR_t0 h) hs hn
  rw [decide_eq_false hz] at hg
  exact ⟨g, hg⟩
/-- the roads of a call that asks for a lawful table: none, an unlawful one, a lawful one -/
theorem lw_case {M : pt_M} {A : iv_A} (hC : CR_P M A) (x : Int32) : (tN_P M x ∧ ∀ M', MR_P M' A → mN_P (t0_M M') x) ∨ ∃ s, s < 6 ∧ x = nI s ∧ iv_N A s ≠ 0 := by
  by_cases h1 : sl_P x
  · obtain ⟨s, hs, rfl⟩ := sl_of h1
    by_cases hn : iv_N A s = 0
    · exact Or.inl ⟨(CR_n hC hs hn).1, fun M' h => (MR_n h hs hn).1⟩
    · exact Or.inr ⟨s, hs, rfl, hn⟩
  · exact Or.inl ⟨Or.inl h1, fun _ _ => Or.inl h1⟩
theorem rX7_rim_38 {vs : List pt_V} {M M' : pt_M} {x : Int32} {L : List (Nat × pt_V)} (hvs : (vs.map pt_w).sum ≤ 2) (hX : M'.2.2.2.2 = M.2.2.2.2) (h : pt_Go YX7_rim (0, pt_en 0 vs, [], M) (38, L, [pt_i x], M')) : pt_Does yX7_rim YX7_rim vs M (some (pt_i x)) M' := pt_does_go tX7_rim_ok nX7_rim hvs hX ⟨_, by with_unfolding_all rfl, rfl, _, rfl, rfl⟩ h
set_option maxRecDepth 100000 in
theorem gX7_rim_0_1 (x1 : Int32) (n : Nat) (B : Nat → Nat → Nat → Bool) (M2 : pt_M) (M : pt_M) (h1 : pt_Does yX7_isLawful YX7_isLawful [pt_r 7 0, pt_i x1] (pt_wF M 7 0 0 0) (some (pt_i 1)) M2) (h2 : pt_in x1 6) (h3 : ro_P M2 (120 * x1) (((1 : Int32) <<< ((pt_A M2 31 0 (pt_nt x1)) &&& 31)) - 1) n B) (h4 : st_P (ri_I n B (((1 : Int32) <<< ((pt_A M2 31 0 (pt_nt x1)) &&& 31)) - 1)) 0) :
    pt_Go YX7_rim (0, [(0, pt_r 7 0), (1, pt_i x1)], [], M)
      (38, [(0, pt_r 7 0), (1, pt_i x1)], [pt_i (nI (pc_F (pt_nt (ri_I n B (((1 : Int32) <<< ((pt_A M2 31 0 (pt_nt x1)) &&& 31)) - 1)))))], M2) :=
  pt_run_ok tX7_rim_ok 22 [.inr (2, some (pt_i 1), M2), .inl false, .inr (3, some (pt_i (ri_I n B (((1 : Int32) <<< ((pt_A M2 31 0 (pt_nt x1)) &&& 31)) - 1))), M2), .inr (1, some (pt_i (nI (pc_F (pt_nt (ri_I n B (((1 : Int32) <<< ((pt_A M2 31 0 (pt_nt x1)) &&& 31)) - 1)))))), M2)] (P := pt_Cal YX7_rim (.invokevirtual 141) [pt_r 7 0, pt_i x1] (pt_wF M 7 0 0 0) (some (pt_i 1)) M2 ∧ (¬ (1 : Int32) = (0 : Int32)) ∧ (pt_in x1 6) ∧ pt_Cal YX7_rim (.invokevirtual 147) [pt_r 7 0, pt_i (120 * x1), pt_i (((1 : Int32) <<< ((pt_A M2 31 0 (pt_nt x1)) &&& 31)) - 1)] M2 (some (pt_i (ri_I n B (((1 : Int32) <<< ((pt_A M2 31 0 (pt_nt x1)) &&& 31)) - 1)))) M2 ∧ pt_Cal YX7_rim (.invokestatic 129) [pt_i (ri_I n B (((1 : Int32) <<< ((pt_A M2 31 0 (pt_nt x1)) &&& 31)) - 1))] M2 (some (pt_i (nI (pc_F (pt_nt (ri_I n B (((1 : Int32) <<< ((pt_A M2 31 0 (pt_nt x1)) &&& 31)) - 1))))))) M2 ∧ True) (by with_unfolding_all rfl) ⟨(pt_callV (i := 0) kX7_rim_141 mX7_isLawful rfl (by decide) rfl h1), (by decide), h2, (pt_callV (i := 0) kX7_rim_147 mX7_rimOf rfl (by decide) rfl (dX7_rimOf_t h3)), (pt_callS kX7_rim_129 mX7_bits rfl (dX7_bits_t h4)), trivial⟩
set_option maxRecDepth 100000 in
theorem gX7_rim_0_2 (x1 : Int32) (n : Nat) (B : Nat → Nat → Nat → Bool) (M2 : pt_M) (M : pt_M) (h1 : pt_Does yX7_isLawful YX7_isLawful [pt_r 7 0, pt_i x1] (pt_wF M 7 0 0 0) (some (pt_i 0)) M2) :
    pt_Go YX7_rim (0, [(0, pt_r 7 0), (1, pt_i x1)], [], M)
      (38, [(0, pt_r 7 0), (1, pt_i x1)], [pt_i (-1)], M2) :=
  pt_run_ok tX7_rim_ok 8 [.inr (2, some (pt_i 0), M2), .inl true] (P := pt_Cal YX7_rim (.invokevirtual 141) [pt_r 7 0, pt_i x1] (pt_wF M 7 0 0 0) (some (pt_i 0)) M2 ∧ ((0 : Int32) = (0 : Int32)) ∧ True) (by with_unfolding_all rfl) ⟨(pt_callV (i := 0) kX7_rim_141 mX7_isLawful rfl (by decide) rfl h1), (by decide), trivial⟩
theorem dX7_rim_p1 (x1 : Int32) (n : Nat) (B : Nat → Nat → Nat → Bool) (M2 : pt_M) (M : pt_M) (h1 : pt_Does yX7_isLawful YX7_isLawful [pt_r 7 0, pt_i x1] (pt_wF M 7 0 0 0) (some (pt_i 1)) M2) (h2 : pt_in x1 6) (h3 : ro_P M2 (120 * x1) (((1 : Int32) <<< ((pt_A M2 31 0 (pt_nt x1)) &&& 31)) - 1) n B) (h4 : st_P (ri_I n B (((1 : Int32) <<< ((pt_A M2 31 0 (pt_nt x1)) &&& 31)) - 1)) 0) : pt_Does yX7_rim YX7_rim [pt_r 7 0, pt_i x1] M (some (pt_i (nI (pc_F (pt_nt (ri_I n B (((1 : Int32) <<< ((pt_A M2 31 0 (pt_nt x1)) &&& 31)) - 1))))))) M2 :=
  rX7_rim_38 (Nat.le_of_ble_eq_true rfl) (show M2.2.2.2.2 = (pt_wF M 7 0 0 0).2.2.2.2 from dX_x5 h1) (gX7_rim_0_1 x1 n B M2 M h1 h2 h3 h4)
theorem dX7_rim_p2 (x1 : Int32) (n : Nat) (B : Nat → Nat → Nat → Bool) (M2 : pt_M) (M : pt_M) (h1 : pt_Does yX7_isLawful YX7_isLawful [pt_r 7 0, pt_i x1] (pt_wF M 7 0 0 0) (some (pt_i 0)) M2) : pt_Does yX7_rim YX7_rim [pt_r 7 0, pt_i x1] M (some (pt_i (-1))) M2 :=
  rX7_rim_38 (Nat.le_of_ble_eq_true rfl) (show M2.2.2.2.2 = (pt_wF M 7 0 0 0).2.2.2.2 from dX_x5 h1) (gX7_rim_0_2 x1 n B M2 M h1)
theorem op_rim {M : pt_M} (h : IV_P M) (x : Int32) : op_P yX6_rim YX6_rim yX7_rim YX7_rim [pt_i x] M := by
  obtain ⟨A, hC, hM⟩ := h
  rcases lw_case hC x with ⟨h1, h2⟩ | ⟨s, hs, rfl, hn⟩
  · exact op_of hC hM (A' := A) (M2 := t0_M M) (dX6_rim_p3 x 0 (fun _ _ _ => false) M h1) mo_P.rf hC fun hM => ⟨dX7_rim_p2 x 0 (fun _ _ _ => false) (t0_M M) M (il_0 (h2 M hM)), t0_ca, hM⟩
  · obtain ⟨q1, q2, q3, q4, q5, q6⟩ := CR_y hC hs hn
    have hM1 := MR_mo hM (mo_wm (x := nI s) (n := iv_N A s) (B := iv_B A s))
    by_cases hz : wy_F (iv_N A s) (iv_B A s) = 0
    · obtain ⟨g, hg⟩ := il_t hM1 hs hn hz
      have e : pt_nt (nI s) = s := pt_nt_nI (by omega)
      have hl := CR_lA hC hs hn hz
      have htb : tb_P (wl_M M (nI s) (iv_N A s) (iv_B A s)) (pt_R M (pt_nt (nI s) + 1)) (iv_N A s) (iv_B A s) := hl.2.1
      have h2 := pb_p2 q2
      have hm : 2 ^ iv_N A s - 1 < 1024 := by omega
      have hep : ep_F (wl_M M (nI s) (iv_N A s) (iv_B A s)) (pt_R M (pt_nt (nI s) + 1)) = nI (2 ^ iv_N A s - 1) := ep_nI q2 htb.2.2.1
      have hrl := ri_lt (B := iv_B A s) q2 hm
      have d1 := dX6_rim_p1 (nI s) (iv_N A s) (iv_B A s) M hl hl.2.1.1 htb (by rw [hep]; exact ⟨_, rfl, hm⟩)
      rw [hep, ri_nI hm, bc_nI hrl] at d1
      refine op_of hC hM (A' := A) (M2 := pt_wA (t0_M (wl_M M (nI s) (iv_N A s) (iv_B A s))) 36 0 g) d1 mo_wm (CR_wm hC hs hn) fun hM => ⟨?_, ca_t36, MR_36 hM⟩
      obtain ⟨p1, p2, p3⟩ := MR_y (MR_36 (g := g) hM) hs hn
      have em : pt_A (pt_wA (t0_M (wl_M M (nI s) (iv_N A s) (iv_B A s))) 36 0 g) 31 0 (pt_nt (nI s)) = nI (iv_N A s) := by rw [e]; exact p2
      have d2 := dX7_rim_p1 (nI s) (iv_N A s) (iv_B A s) _ (wl_M M (nI s) (iv_N A s) (iv_B A s)) hg (pt_in_nI hs (by decide))
      rw [em, e2_n q2, m120, ri_nI hm, pt_nt_nI (by omega)] at d2
      exact d2 ⟨_, _, rfl, rfl, p3, by have := Nat.two_pow_pos (iv_N A s); omega⟩ ⟨_, rfl, hrl⟩
    · obtain ⟨g, hg⟩ := il_f hM1 hs hn hz
      exact op_of hC hM (A' := A) (dX6_rim_p2 (nI s) (iv_N A s) (iv_B A s) M (CR_lN hC hs hn hz)) mo_wm (CR_wm hC hs hn) fun hM => ⟨dX7_rim_p2 (nI s) 0 (fun _ _ _ => false) _ _ hg, ca_t36, MR_36 hM⟩
/-! lines -/
def lk_F (B : Nat → Nat → Nat → Bool) (i j k : Nat) : Bool := decide (k ≠ i) && (decide (k ≠ j) && B i j k)
def lm_F (n : Nat) (B : Nat → Nat → Nat → Bool) (x : Int32) (i j : Nat) : Bool := decide (nI (ct_N (lk_F B i j) n) = x)
theorem ct_cong {f g : Nat → Bool} : ∀ {k : Nat}, (∀ i, i < k → f i = g i) → ct_N f k = ct_N g k
  | 0, _ => rfl
  | k + 1, h => by
    show ct_N f k + (if f k then 1 else 0) = ct_N g k + (if g k then 1 else 0)
    rw [ct_cong fun i hi => h i (by omega), h k (by omega)]
theorem ct_more {f : Nat → Bool} {n : Nat} : ∀ e, (∀ k, n ≤ k → f k = false) → ct_N f (n + e) = ct_N f n
  | 0, _ => rfl
  | e + 1, h => by
    rw [← Nat.add_assoc, ct_n (h (n + e) (by omega)), ct_more e h]
theorem pc_ct {p : Nat → Bool} : pc_F (pb_s 10 p) = ct_N p 10 := by
  rw [← of_decide_eq_true (pt_all bi_tab (pb_lt p 10))]
  exact ct_cong fun k hk => by rw [pb_bit, decide_eq_true hk]; rfl
theorem nB_g {n i j k : Nat} {s : Nat → Nat → Nat → Bool} (h : pb_g n i j k = false) : nB_F n s i j k = false := by
  unfold nB_F
  rw [h]
  rfl
theorem pb_gf {n i j k : Nat} (h : ¬ (i < n ∧ j < n ∧ k < n ∧ i ≠ j ∧ j ≠ k ∧ i ≠ k)) : pb_g n i j k = false := by
  cases c : pb_g n i j k
  · rfl
  · exact absurd (pb_g_iff.mp c) h
theorem lm_lw {n i j : Nat} {s : Nat → Nat → Nat → Bool} {x : Int32} (hn : n ≤ 10) : lm_F n (nB_F n s) x i j = lw_F (nB_F n s) x i j := by
  unfold lm_F lw_F
  rw [pc_ct]
  have e1 : ct_N (lk_F (nB_F n s) i j) n = ct_N (fun k => nB_F n s i j k) n := ct_cong fun k hk => by
    unfold lk_F
    by_cases h1 : k = i
    · rw [nB_g (pb_gf (fun z => z.2.2.2.2.2 h1.symm))]
      simp
    · by_cases h2 : k = j
      · rw [nB_g (pb_gf (fun z => z.2.2.2.2.1 h2.symm))]
        simp
      · rw [decide_eq_true h1, decide_eq_true h2]
        rfl
  have e2 := ct_more (f := fun k => nB_F n s i j k) (n := n) (10 - n) fun k hk => nB_g (pb_gf (fun z => by omega))
  rw [show n + (10 - n) = 10 by omega] at e2
  rw [e1, e2]
theorem ls_cong {n : Nat} {f g : Nat → Nat → Bool} (h : ∀ i j, f i j = g i j) : ∀ k, ls_F n f k = ls_F n g k := by
  have e : f = g := funext fun i => funext fun j => h i j
  intro k
  rw [e]
theorem rX7_lines_14 {vs : List pt_V} {M M' : pt_M} {x : Int32} {L : List (Nat × pt_V)} (hvs : (vs.map pt_w).sum ≤ 8) (hX : M'.2.2.2.2 = M.2.2.2.2) (h : pt_Go YX7_lines (0, pt_en 0 vs, [], M) (14, L, [pt_i x], M')) : pt_Does yX7_lines YX7_lines vs M (some (pt_i x)) M' := pt_does_go tX7_lines_ok nX7_lines hvs hX ⟨_, by with_unfolding_all rfl, rfl, _, rfl, rfl⟩ h
theorem rX7_lines_139 {vs : List pt_V} {M M' : pt_M} {x : Int32} {L : List (Nat × pt_V)} (hvs : (vs.map pt_w).sum ≤ 8) (hX : M'.2.2.2.2 = M.2.2.2.2) (h : pt_Go YX7_lines (0, pt_en 0 vs, [], M) (139, L, [pt_i x], M')) : pt_Does yX7_lines YX7_lines vs M (some (pt_i x)) M' := pt_does_go tX7_lines_ok nX7_lines hvs hX ⟨_, by with_unfolding_all rfl, rfl, _, rfl, rfl⟩ h
set_option maxRecDepth 100000 in
theorem gX7_lines_0_1 (x1 : Int32) (x2 : Int32) (n : Nat) (B : Nat → Nat → Nat → Bool) (M : pt_M) (h1 : mA_P (pt_wF M 7 0 0 0) x1) :
    pt_Go YX7_lines (0, [(0, pt_r 7 0), (1, pt_i x1), (2, pt_i x2)], [], M)
      (20, [(0, pt_r 7 0), (1, pt_i x1), (2, pt_i x2), (3, pt_i 0), (4, pt_i 0)], [], (pt_wF M 7 0 0 0)) :=
  pt_run_ok tX7_lines_ok 11 [.inr (2, some (pt_i 1), (pt_wF M 7 0 0 0)), .inl true] (P := pt_Cal YX7_lines (.invokevirtual 89) [pt_r 7 0, pt_i x1] (pt_wF M 7 0 0 0) (some (pt_i 1)) (pt_wF M 7 0 0 0) ∧ (¬ (1 : Int32) = (0 : Int32)) ∧ True) (by with_unfolding_all rfl) ⟨(pt_callV (i := 0) kX7_lines_89 mX7_has rfl (by decide) rfl (dX7_has_1 h1)), (by decide), trivial⟩
set_option maxRecDepth 100000 in
theorem gX7_lines_0_2 (x1 : Int32) (x2 : Int32) (n : Nat) (B : Nat → Nat → Nat → Bool) (M : pt_M) (h1 : mN_P (pt_wF M 7 0 0 0) x1) :
    pt_Go YX7_lines (0, [(0, pt_r 7 0), (1, pt_i x1), (2, pt_i x2)], [], M)
      (14, [(0, pt_r 7 0), (1, pt_i x1), (2, pt_i x2)], [pt_i (-1)], (pt_wF M 7 0 0 0)) :=
  pt_run_ok tX7_lines_ok 8 [.inr (2, some (pt_i 0), (pt_wF M 7 0 0 0)), .inl false] (P := pt_Cal YX7_lines (.invokevirtual 89) [pt_r 7 0, pt_i x1] (pt_wF M 7 0 0 0) (some (pt_i 0)) (pt_wF M 7 0 0 0) ∧ ((0 : Int32) = (0 : Int32)) ∧ True) (by with_unfolding_all rfl) ⟨(pt_callV (i := 0) kX7_lines_89 mX7_has rfl (by decide) rfl (dX7_has_0 h1)), (by decide), trivial⟩
set_option maxRecDepth 100000 in
theorem gX7_lines_20_1 (l1 : Int32) (l2 : Int32) (l3 : Int32) (l4 : Int32) (n : Nat) (B : Nat → Nat → Nat → Bool) (M : pt_M) (h1 : pt_in l1 6) (h2 : ¬ (pt_A M 31 0 (pt_nt l1)) ≤ l4) :
    pt_Go YX7_lines (20, [(0, pt_r 7 0), (1, pt_i l1), (2, pt_i l2), (3, pt_i l3), (4, pt_i l4)], [], M)
      (37, [(0, pt_r 7 0), (1, pt_i l1), (2, pt_i l2), (3, pt_i l3), (4, pt_i l4), (5, pt_i (l4 + 1))], [], M) :=
  pt_run_ok tX7_lines_ok 10 [.inl false] (P := (pt_in l1 6) ∧ (¬ (pt_A M 31 0 (pt_nt l1)) ≤ l4) ∧ True) (by with_unfolding_all rfl) ⟨h1, h2, trivial⟩
set_option maxRecDepth 100000 in
theorem gX7_lines_20_2 (l1 : Int32) (l2 : Int32) (l3 : Int32) (l4 : Int32) (n : Nat) (B : Nat → Nat → Nat → Bool) (M : pt_M) (h1 : pt_in l1 6) (h2 : (pt_A M 31 0 (pt_nt l1)) ≤ l4) :
    pt_Go YX7_lines (20, [(0, pt_r 7 0), (1, pt_i l1), (2, pt_i l2), (3, pt_i l3), (4, pt_i l4)], [], M)
      (139, [(0, pt_r 7 0), (1, pt_i l1), (2, pt_i l2), (3, pt_i l3), (4, pt_i l4)], [pt_i l3], M) :=
  pt_run_ok tX7_lines_ok 7 [.inl true] (P := (pt_in l1 6) ∧ ((pt_A M 31 0 (pt_nt l1)) ≤ l4) ∧ True) (by with_unfolding_all rfl) ⟨h1, h2, trivial⟩
set_option maxRecDepth 100000 in
theorem gX7_lines_37_1 (l1 : Int32) (l2 : Int32) (l3 : Int32) (l4 : Int32) (l5 : Int32) (n : Nat) (B : Nat → Nat → Nat → Bool) (M : pt_M) (h1 : pt_in l1 6) (h2 : ¬ (pt_A M 31 0 (pt_nt l1)) ≤ l5) :
    pt_Go YX7_lines (37, [(0, pt_r 7 0), (1, pt_i l1), (2, pt_i l2), (3, pt_i l3), (4, pt_i l4), (5, pt_i l5)], [], M)
      (54, [(0, pt_r 7 0), (1, pt_i l1), (2, pt_i l2), (3, pt_i l3), (4, pt_i l4), (5, pt_i l5), (6, pt_i 0), (7, pt_i 0)], [], M) :=
  pt_run_ok tX7_lines_ok 10 [.inl false] (P := (pt_in l1 6) ∧ (¬ (pt_A M 31 0 (pt_nt l1)) ≤ l5) ∧ True) (by with_unfolding_all rfl) ⟨h1, h2, trivial⟩
set_option maxRecDepth 100000 in
theorem gX7_lines_37_2 (l1 : Int32) (l2 : Int32) (l3 : Int32) (l4 : Int32) (l5 : Int32) (n : Nat) (B : Nat → Nat → Nat → Bool) (M : pt_M) (h1 : pt_in l1 6) (h2 : (pt_A M 31 0 (pt_nt l1)) ≤ l5) :
    pt_Go YX7_lines (37, [(0, pt_r 7 0), (1, pt_i l1), (2, pt_i l2), (3, pt_i l3), (4, pt_i l4), (5, pt_i l5)], [], M)
      (20, [(0, pt_r 7 0), (1, pt_i l1), (2, pt_i l2), (3, pt_i l3), (4, pt_i (l4 + 1))], [], M) :=
  (pt_run_ok tX7_lines_ok 8 [.inl true] (P := (pt_in l1 6) ∧ ((pt_A M 31 0 (pt_nt l1)) ≤ l5) ∧ True) (by with_unfolding_all rfl) ⟨h1, h2, trivial⟩ : pt_Go YX7_lines _ (20, [(0, pt_r 7 0), (1, pt_i l1), (2, pt_i l2), (3, pt_i l3), (4, pt_i (l4 + 1)), (5, pt_i l5)], [], M)).tr (pt_pick [0, 1, 2, 3, 4] (by with_unfolding_all rfl))
set_option maxRecDepth 100000 in
theorem gX7_lines_54_1 (l1 : Int32) (l2 : Int32) (l3 : Int32) (l4 : Int32) (l5 : Int32) (l6 : Int32) (l7 : Int32) (n : Nat) (B : Nat → Nat → Nat → Bool) (M : pt_M) (h1 : pt_in l1 6) (h2 : ¬ (pt_A M 31 0 (pt_nt l1)) ≤ l7) (h3 : ¬ l7 = l4) (h4 : ¬ l7 = l5) (h5 : tq_P M (120 * l1) l4 l5 l7 n B) (h6 : ¬ (tl_I B l4 l5 l7) = 0) :
    pt_Go YX7_lines (54, [(0, pt_r 7 0), (1, pt_i l1), (2, pt_i l2), (3, pt_i l3), (4, pt_i l4), (5, pt_i l5), (6, pt_i l6), (7, pt_i l7)], [], M)
      (54, [(0, pt_r 7 0), (1, pt_i l1), (2, pt_i l2), (3, pt_i l3), (4, pt_i l4), (5, pt_i l5), (6, pt_i (l6 + 1)), (7, pt_i (l7 + 1))], [], M) :=
  pt_run_ok tX7_lines_ok 28 [.inl false, .inl false, .inl false, .inr (5, some (pt_i (tl_I B l4 l5 l7)), M), .inl false] (P := (pt_in l1 6) ∧ (¬ (pt_A M 31 0 (pt_nt l1)) ≤ l7) ∧ (¬ l7 = l4) ∧ (¬ l7 = l5) ∧ pt_Cal YX7_lines (.invokevirtual 118) [pt_r 7 0, pt_i (120 * l1), pt_i l4, pt_i l5, pt_i l7] M (some (pt_i (tl_I B l4 l5 l7))) M ∧ (¬ (tl_I B l4 l5 l7) = 0) ∧ True) (by with_unfolding_all rfl) ⟨h1, h2, h3, h4, (pt_callV (i := 0) kX7_lines_118 mX7_left rfl (by decide) rfl (dX7_left_t h5)), h6, trivial⟩
set_option maxRecDepth 100000 in
theorem gX7_lines_54_2 (l1 : Int32) (l2 : Int32) (l3 : Int32) (l4 : Int32) (l5 : Int32) (l6 : Int32) (l7 : Int32) (n : Nat) (B : Nat → Nat → Nat → Bool) (M : pt_M) (h1 : pt_in l1 6) (h2 : ¬ (pt_A M 31 0 (pt_nt l1)) ≤ l7) (h3 : ¬ l7 = l4) (h4 : ¬ l7 = l5) (h5 : tq_P M (120 * l1) l4 l5 l7 n B) (h6 : (tl_I B l4 l5 l7) = 0) :
    pt_Go YX7_lines (54, [(0, pt_r 7 0), (1, pt_i l1), (2, pt_i l2), (3, pt_i l3), (4, pt_i l4), (5, pt_i l5), (6, pt_i l6), (7, pt_i l7)], [], M)
      (54, [(0, pt_r 7 0), (1, pt_i l1), (2, pt_i l2), (3, pt_i l3), (4, pt_i l4), (5, pt_i l5), (6, pt_i (l6 + 0)), (7, pt_i (l7 + 1))], [], M) :=
  pt_run_ok tX7_lines_ok 27 [.inl false, .inl false, .inl false, .inr (5, some (pt_i (tl_I B l4 l5 l7)), M), .inl true] (P := (pt_in l1 6) ∧ (¬ (pt_A M 31 0 (pt_nt l1)) ≤ l7) ∧ (¬ l7 = l4) ∧ (¬ l7 = l5) ∧ pt_Cal YX7_lines (.invokevirtual 118) [pt_r 7 0, pt_i (120 * l1), pt_i l4, pt_i l5, pt_i l7] M (some (pt_i (tl_I B l4 l5 l7))) M ∧ ((tl_I B l4 l5 l7) = 0) ∧ True) (by with_unfolding_all rfl) ⟨h1, h2, h3, h4, (pt_callV (i := 0) kX7_lines_118 mX7_left rfl (by decide) rfl (dX7_left_t h5)), h6, trivial⟩
set_option maxRecDepth 100000 in
theorem gX7_lines_54_3 (l1 : Int32) (l2 : Int32) (l3 : Int32) (l4 : Int32) (l5 : Int32) (l6 : Int32) (l7 : Int32) (n : Nat) (B : Nat → Nat → Nat → Bool) (M : pt_M) (h1 : pt_in l1 6) (h2 : ¬ (pt_A M 31 0 (pt_nt l1)) ≤ l7) (h3 : ¬ l7 = l4) (h4 : l7 = l5) :
    pt_Go YX7_lines (54, [(0, pt_r 7 0), (1, pt_i l1), (2, pt_i l2), (3, pt_i l3), (4, pt_i l4), (5, pt_i l5), (6, pt_i l6), (7, pt_i l7)], [], M)
      (54, [(0, pt_r 7 0), (1, pt_i l1), (2, pt_i l2), (3, pt_i l3), (4, pt_i l4), (5, pt_i l5), (6, pt_i (l6 + 0)), (7, pt_i (l7 + 1))], [], M) :=
  pt_run_ok tX7_lines_ok 18 [.inl false, .inl false, .inl true] (P := (pt_in l1 6) ∧ (¬ (pt_A M 31 0 (pt_nt l1)) ≤ l7) ∧ (¬ l7 = l4) ∧ (l7 = l5) ∧ True) (by with_unfolding_all rfl) ⟨h1, h2, h3, h4, trivial⟩
set_option maxRecDepth 100000 in
theorem gX7_lines_54_4 (l1 : Int32) (l2 : Int32) (l3 : Int32) (l4 : Int32) (l5 : Int32) (l6 : Int32) (l7 : Int32) (n : Nat) (B : Nat → Nat → Nat → Bool) (M : pt_M) (h1 : pt_in l1 6) (h2 : ¬ (pt_A M 31 0 (pt_nt l1)) ≤ l7) (h3 : l7 = l4) :
    pt_Go YX7_lines (54, [(0, pt_r 7 0), (1, pt_i l1), (2, pt_i l2), (3, pt_i l3), (4, pt_i l4), (5, pt_i l5), (6, pt_i l6), (7, pt_i l7)], [], M)
      (54, [(0, pt_r 7 0), (1, pt_i l1), (2, pt_i l2), (3, pt_i l3), (4, pt_i l4), (5, pt_i l5), (6, pt_i (l6 + 0)), (7, pt_i (l7 + 1))], [], M) :=
  pt_run_ok tX7_lines_ok 15 [.inl false, .inl true] (P := (pt_in l1 6) ∧ (¬ (pt_A M 31 0 (pt_nt l1)) ≤ l7) ∧ (l7 = l4) ∧ True) (by with_unfolding_all rfl) ⟨h1, h2, h3, trivial⟩
set_option maxRecDepth 100000 in
theorem gX7_lines_54_5 (l1 : Int32) (l2 : Int32) (l3 : Int32) (l4 : Int32) (l5 : Int32) (l6 : Int32) (l7 : Int32) (n : Nat) (B : Nat → Nat → Nat → Bool) (M : pt_M) (h1 : pt_in l1 6) (h2 : (pt_A M 31 0 (pt_nt l1)) ≤ l7) (h3 : l6 = l2) :
    pt_Go YX7_lines (54, [(0, pt_r 7 0), (1, pt_i l1), (2, pt_i l2), (3, pt_i l3), (4, pt_i l4), (5, pt_i l5), (6, pt_i l6), (7, pt_i l7)], [], M)
      (37, [(0, pt_r 7 0), (1, pt_i l1), (2, pt_i l2), (3, pt_i (l3 + 1)), (4, pt_i l4), (5, pt_i (l5 + 1))], [], M) :=
  (pt_run_ok tX7_lines_ok 16 [.inl true, .inl false] (P := (pt_in l1 6) ∧ ((pt_A M 31 0 (pt_nt l1)) ≤ l7) ∧ (l6 = l2) ∧ True) (by with_unfolding_all rfl) ⟨h1, h2, h3, trivial⟩ : pt_Go YX7_lines _ (37, [(0, pt_r 7 0), (1, pt_i l1), (2, pt_i l2), (3, pt_i (l3 + 1)), (4, pt_i l4), (5, pt_i (l5 + 1)), (6, pt_i l6), (7, pt_i l7)], [], M)).tr (pt_pick [0, 1, 2, 3, 4, 5] (by with_unfolding_all rfl))
set_option maxRecDepth 100000 in
theorem gX7_lines_54_6 (l1 : Int32) (l2 : Int32) (l3 : Int32) (l4 : Int32) (l5 : Int32) (l6 : Int32) (l7 : Int32) (n : Nat) (B : Nat → Nat → Nat → Bool) (M : pt_M) (h1 : pt_in l1 6) (h2 : (pt_A M 31 0 (pt_nt l1)) ≤ l7) (h3 : ¬ l6 = l2) :
    pt_Go YX7_lines (54, [(0, pt_r 7 0), (1, pt_i l1), (2, pt_i l2), (3, pt_i l3), (4, pt_i l4), (5, pt_i l5), (6, pt_i l6), (7, pt_i l7)], [], M)
      (37, [(0, pt_r 7 0), (1, pt_i l1), (2, pt_i l2), (3, pt_i (l3 + 0)), (4, pt_i l4), (5, pt_i (l5 + 1))], [], M) :=
  (pt_run_ok tX7_lines_ok 15 [.inl true, .inl true] (P := (pt_in l1 6) ∧ ((pt_A M 31 0 (pt_nt l1)) ≤ l7) ∧ (¬ l6 = l2) ∧ True) (by with_unfolding_all rfl) ⟨h1, h2, h3, trivial⟩ : pt_Go YX7_lines _ (37, [(0, pt_r 7 0), (1, pt_i l1), (2, pt_i l2), (3, pt_i (l3 + 0)), (4, pt_i l4), (5, pt_i (l5 + 1)), (6, pt_i l6), (7, pt_i l7)], [], M)).tr (pt_pick [0, 1, 2, 3, 4, 5] (by with_unfolding_all rfl))
theorem dX7_lines {s n : Nat} {x : Int32} {B : Nat → Nat → Nat → Bool} {M : pt_M} (hs : s < 6) (hA : mA_P M (nI s)) (hN : pt_A M 31 0 s = nI n) (h : ml_P M (120 * s) n B) : pt_Does yX7_lines YX7_lines [pt_r 7 0, pt_i (nI s), pt_i x] M (some (pt_i (nI (ls_F n (lm_F n B x) n)))) (t0_M M) := by
  have hn := h.2.1
  have e : pt_nt (nI s) = s := pt_nt_nI (by omega)
  have hi6 : pt_in (nI s) 6 := pt_in_nI hs (by decide)
  have g0 := gX7_lines_0_1 (nI s) x n B M hA
  have hml : ml_P (t0_M M) (120 * s) n B := h
  have hX : (t0_M M).2.2.2.2 = M.2.2.2.2 := rfl
  have hN' : pt_A (t0_M M) 31 0 (pt_nt (nI s)) = nI n := by rw [e]; exact hN
  have g0 : pt_Go YX7_lines _ (20, [(0, pt_r 7 0), (1, pt_i (nI s)), (2, pt_i x), (3, pt_i 0), (4, pt_i 0)], [], t0_M M) := g0
  generalize t0_M M = M2 at *
  have hlt : ∀ i, i < n → ¬ pt_A M2 31 0 (pt_nt (nI s)) ≤ nI i := fun i hi => by rw [hN']; exact nI_ge hi (by omega)
  have hle : pt_A M2 31 0 (pt_nt (nI s)) ≤ nI n := by rw [hN']; exact Int32.le_refl _
  have K := pt_for0 (Y := YX7_lines) (fun i => (20, [(0, pt_r 7 0), (1, pt_i (nI s)), (2, pt_i x), (3, pt_i (nI (ls_F n (lm_F n B x) i))), (4, pt_i (nI i))], [], M2)) (n := n) fun i hi => by
    refine ((gX7_lines_20_1 (nI s) x _ (nI i) n B M2 hi6 (hlt i hi)).to ?_).tr ((pt_fori (fun j => (37, [(0, pt_r 7 0), (1, pt_i (nI s)), (2, pt_i x), (3, pt_i (nI (ls_F n (lm_F n B x) i + ct_N (fun j => decide (i < j) && lm_F n B x i j) j))), (4, pt_i (nI i)), (5, pt_i (nI j))], [], M2)) (i := i + 1) (n := n) (by omega) fun j hj0 hj => ?_).tr ((gX7_lines_37_2 (nI s) x _ (nI i) (nI n) n B M2 hi6 hle).to ?_))
    · rw [nI_1, ct_lo]
      rfl
    · have K2 := pt_for0 (Y := YX7_lines) (fun k => (54, [(0, pt_r 7 0), (1, pt_i (nI s)), (2, pt_i x), (3, pt_i (nI (ls_F n (lm_F n B x) i + ct_N (fun j => decide (i < j) && lm_F n B x i j) j))), (4, pt_i (nI i)), (5, pt_i (nI j)), (6, pt_i (nI (ct_N (lk_F B i j) k))), (7, pt_i (nI k))], [], M2)) (n := n) fun k hk => by
        by_cases c1 : k = i
        · refine (gX7_lines_54_4 (nI s) x _ (nI i) (nI j) _ (nI k) n B M2 hi6 (hlt k hk) (by rw [c1])).to ?_
          rw [nI_1, Int32.add_zero, ct_n (f := lk_F B i j) (by unfold lk_F; simp [c1])]
        have c1' := nI_nE c1 (by omega) (by omega)
        by_cases c2 : k = j
        · refine (gX7_lines_54_3 (nI s) x _ (nI i) (nI j) _ (nI k) n B M2 hi6 (hlt k hk) c1' (by rw [c2])).to ?_
          rw [nI_1, Int32.add_zero, ct_n (f := lk_F B i j) (by unfold lk_F; simp [c2])]
        have c2' := nI_nE c2 (by omega) (by omega)
        have hq : tq_P M2 (120 * nI s) (nI i) (nI j) (nI k) n B := by rw [m120]; exact tq_of hml hi hj hk (by omega) (fun z => c2 z.symm) (fun z => c1 z.symm)
        have hl := tl_nI (B := B) (a := i) (b := j) (c := k) (by omega) (by omega) (by omega)
        have hk' : lk_F B i j k = B i j k := by unfold lk_F; simp [c1, c2]
        cases c4 : B i j k
        · refine (gX7_lines_54_2 (nI s) x _ (nI i) (nI j) _ (nI k) n B M2 hi6 (hlt k hk) c1' c2' hq (by rw [hl, c4]; rfl)).to ?_
          rw [nI_1, Int32.add_zero, ct_n (f := lk_F B i j) (hk'.trans c4)]
        · refine (gX7_lines_54_1 (nI s) x _ (nI i) (nI j) _ (nI k) n B M2 hi6 (hlt k hk) c1' c2' hq (by rw [hl, c4]; decide)).to ?_
          rw [nI_1 k, ct_y (f := lk_F B i j) (hk'.trans c4)]
      refine (gX7_lines_37_1 (nI s) x _ (nI i) (nI j) n B M2 hi6 (hlt j hj)).tr (K2.tr ?_)
      by_cases c : nI (ct_N (lk_F B i j) n) = x
      · refine (gX7_lines_54_5 (nI s) x _ (nI i) (nI j) _ (nI n) n B M2 hi6 hle c).to ?_
        have hc : (decide (i < j) && lm_F n B x i j) = true := by simp [lm_F, c]; omega
        have e2 : ct_N (fun j => decide (i < j) && lm_F n B x i j) (j + 1) = ct_N (fun j => decide (i < j) && lm_F n B x i j) j + 1 := ct_up hc
        rw [nI_1, nI_1, e2, Nat.add_assoc]
      · refine (gX7_lines_54_6 (nI s) x _ (nI i) (nI j) _ (nI n) n B M2 hi6 hle c).to ?_
        rw [nI_1, Int32.add_zero, ct_n (k := j) (by simp [lm_F, c])]
    · rw [nI_1]
      rfl
  exact rX7_lines_139 (Nat.le_of_ble_eq_true rfl) hX (g0.tr (K.tr (gX7_lines_20_2 (nI s) x _ (nI n) n B M2 hi6 hle)))
theorem op_lines {M : pt_M} (h : IV_P M) (x y : Int32) : op_P yX6_lines YX6_lines yX7_lines YX7_lines [pt_i x, pt_i y] M := by
  obtain ⟨A, hC, hM⟩ := h
  rcases lw_case hC x with ⟨h1, h2⟩ | ⟨s, hs, rfl, hn⟩
  · exact op_of hC hM (A' := A) (M2 := t0_M M) (dX6_lines_p2 x y M h1) mo_P.rf hC fun hM => ⟨rX7_lines_14 (Nat.le_of_ble_eq_true rfl) rfl (gX7_lines_0_2 x y 0 (fun _ _ _ => false) M (h2 M hM)), t0_ca, hM⟩
  · have hl := CR_l1 hC hs hn
    have e : ls_F (iv_N A s) (lm_F (iv_N A s) (iv_B A s) y) (iv_N A s) = ls_F (iv_N A s) (lw_F (iv_B A s) y) (iv_N A s) := ls_cong (fun i j => lm_lw hl.2.1.2.1) _
    refine op_of hC hM (A' := A) (M2 := t0_M M) (dX6_lines hl.1 hl.2.1) mo_P.rf hC fun hM => ⟨?_, t0_ca, hM⟩
    rw [← e]
    exact dX7_lines hs (MR_y hM hs hn).1 (MR_y hM hs hn).2.1 (MR_y hM hs hn).2.2
