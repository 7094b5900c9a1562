/-! CALLS ON BOTH SIDES: sweep, to the end -/
def iw_A (A : iv_A) (N : Nat) (u : Nat → Int32) : iv_A := (A.1, A.2.1, A.2.2.1, A.2.2.2.1, A.2.2.2.2.1, N, u)
theorem CR_out {M : pt_M} {A : iv_A} {k i N : Nat} {u : Nat → Int32} (h : CR_P M A) (hN : N ≤ 120) (hu : ∀ p, p < N → pt_A M k i p = u p) : CR_P (ou_M M k i N) (iw_A A N u) := by
  obtain ⟨h1, h2, h3, h4, h5, h6, h7, h8, h9⟩ := h
  have eF : ∀ k' f i', k' ≠ 2 → pt_F (ou_M M k i N) k' f i' = pt_F M k' f i' := fun k' f i' hk => if_neg fun z => hk z.1
  have eA : ∀ q i', q ≠ 20 → pt_A (ou_M M k i N) q i' = pt_A M q i' := fun q i' hq => if_neg fun z => hq z.1
  refine ⟨⟨h1.1, h1.2.1, fun p hp => ?_⟩, h2, h3, fun q hq => ?_, fun i' hi => ?_, h6, rfl, hN, fun p hp => ?_⟩
  · rw [eA 14 0 (by decide)]
    exact h1.2.2 p hp
  · exact cs_ca (h4 q hq) (fun f => eF 3 f _ (by decide)) (eA 11 _ (by decide)) (eA 12 _ (by decide)) (eA 13 _ (by decide))
  · rw [eA 15 0 (by decide)]
    exact h5 i' hi
  · show co_F (pt_A M 20 0) (pt_A M k i) N p = u p
    exact (if_pos hp).trans (hu p hp)
theorem mo_out {M : pt_M} {k i N : Nat} : mo_P M (ou_M M k i N) := (mo_wF (by decide)).tr (mo_wA (by decide))
theorem MR_out {M : pt_M} {A : iv_A} {N : Nat} {g u : Nat → Int32} (h : MR_P M A) (hu : ∀ p, p < N → g p = u p) : MR_P (pt_wF (pt_wA M 41 0 g) 7 16 0 (nI N)) (iw_A A N u) := by
  obtain ⟨h1, h2, h3, h4, h5, h6, h7⟩ := h
  exact ⟨h1, h2, h3, h4, rfl, fun p hp => hu p hp, h7⟩
set_option maxRecDepth 100000 in
theorem b8_tab : ((List.range 120).all fun v => decide (((nI v).toInt8.toInt32).toInt8.toInt32 = nI v)) = true := by decide +kernel
theorem b8_nI {v : Nat} (h : v < 120) : ((nI v).toInt8.toInt32).toInt8.toInt32 = nI v := of_decide_eq_true (pt_all b8_tab h)
theorem ms_0 {M : pt_M} {n : Nat} {B : Nat → Nat → Nat → Bool} : ms_M M n B 0 = ow_M M n (pt_A M 42 0) (fun p => p) fun p => if p < 100 then -1 else pt_A M 43 0 p := by
  unfold ms_M
  rw [co_zero]
  exact pt_wA_id rfl
theorem ms_ca {M : pt_M} {n m : Nat} {B : Nat → Nat → Nat → Bool} : ca_P M (ms_M M n B m) := ow_ca.tr (ca_wA (by decide))
theorem MR_ms {M : pt_M} {A : iv_A} {n m : Nat} {B : Nat → Nat → Nat → Bool} (h : MR_P M A) : MR_P (ms_M M n B m) A := MR_w (MR_ow h) (by decide) (by decide) (by decide) (by decide) (by decide) (by decide)
def so_M (M : pt_M) (n : Nat) (B : Nat → Nat → Nat → Bool) : pt_M := pt_wF (pt_wA (ms_M M n B (sN_F n)) 41 0 (co_F (pt_A M 41 0) (fun p => nI (pl_F n B p)) (sN_F n))) 7 16 0 (nI (sN_F n))
theorem pl_lt {n m : Nat} {B : Nat → Nat → Nat → Bool} (hn : n ≤ 10) : pl_F n B m < 120 := by
  unfold pl_F
  cases h : lq_F n B m with
  | none => decide
  | some q =>
    have := (lp_ok h).1
    show q < 120
    omega
theorem dX7_sweep {s n : Nat} {B : Nat → Nat → Nat → Bool} {M : pt_M} (hs : s < 6) (h3 : 3 ≤ n) (hA : mA_P M (nI s)) (hN : pt_A M 31 0 s = nI n) (h : ml_P M (120 * s) n B) : (∀ k, (fs_F (sN_F n - 0) 0 fun k => if (lq_F n B k).isNone then some k else none) = some k → pt_Does yX7_sweep YX7_sweep [pt_r 7 0, pt_i (nI s)] M (some (pt_i (-1))) (ms_M (t0_M M) n B k)) ∧ ((fs_F (sN_F n - 0) 0 fun k => if (lq_F n B k).isNone then some k else none) = none → pt_Does yX7_sweep YX7_sweep [pt_r 7 0, pt_i (nI s)] M (some (pt_i (nI (sN_F n)))) (so_M (t0_M M) n B)) := by
  have hn := h.2.1
  have hso := (so_nI hn).1
  have h45 := (so_nI hn).2
  have es : pt_nt (nI s) = s := pt_nt_nI (by omega)
  have g0 := gX7_sweep_0_1 (nI s) M hA (pt_in_nI hs (by decide))
  rw [show pt_A (pt_wF M 7 0 0 0) 31 0 (pt_nt (nI s)) = nI n by rw [es]; exact hN] at g0
  have hml : ml_P (t0_M M) (120 * s) n B := h
  have hX : (t0_M M).2.2.2.2 = M.2.2.2.2 := rfl
  have g0 : pt_Go YX7_sweep (0, [(0, pt_r 7 0), (1, pt_i (nI s))], [], M) (24, [(0, pt_r 7 0), (1, pt_i (nI s)), (2, pt_i (nI n)), (3, pt_i 0)], [], t0_M M) := g0
  generalize t0_M M = M0 at *
  have K1 := pt_for0 (Y := YX7_sweep) (fun k => (24, [(0, pt_r 7 0), (1, pt_i (nI s)), (2, pt_i (nI n)), (3, pt_i (nI k))], [], pt_wA M0 42 0 (co_F (pt_A M0 42 0) (fun p => nI p) k))) (n := n) fun k hk => by
    refine (gX7_sweep_24_1 (nI s) (nI n) (nI k) _ (nI_ge hk (by omega)) (pt_in_nI (by omega) (by decide))).to ?_
    rw [nI_1, pt_nt_nI (by omega), pt_wA_wA, pt_A_wA, co_step (pt_A M0 42 0) (fun p => nI p) k]
  have K2 := pt_for0 (Y := YX7_sweep) (fun k => (44, [(0, pt_r 7 0), (1, pt_i (nI s)), (2, pt_i (nI n)), (3, pt_i (nI k))], [], pt_wA (pt_wA M0 42 0 (co_F (pt_A M0 42 0) (fun p => nI p) n)) 43 0 (co_F (pt_A M0 43 0) (fun _ => -1) k))) (n := 100) fun k hk => by
    refine (gX7_sweep_44_1 (nI s) (nI n) (nI k) _ (nI_ge (b := 100) hk (by decide)) (pt_in_nI (by omega) (by decide))).to ?_
    rw [nI_1, pt_nt_nI (by omega), pt_wA_wA, pt_A_wA, co_step (pt_A M0 43 0) (fun _ => -1) k]
  have gi : pt_Go YX7_sweep (0, [(0, pt_r 7 0), (1, pt_i (nI s))], [], M) (74, [(0, pt_r 7 0), (1, pt_i (nI s)), (2, pt_i (nI n)), (3, pt_i (nI (sN_F n))), (4, pt_i (nI 0))], [], ms_M M0 n B 0) := by
    refine ((g0.toM (by rw [co_zero, pt_wA_self])).tr (K1.tr (((gX7_sweep_24_2 (nI s) (nI n) (nI n) _ (Int32.le_refl _)).toM ?_).tr (K2.tr (gX7_sweep_44_2 (nI s) (nI n) (nI 100) _ (Int32.le_refl _)))))).to ?_
    · rw [co_zero]
      exact (pt_wA_id rfl).symm
    · rw [ms_0]
      have hso' : (nI n * (nI n - 1)) / 2 = nI (sN_F n) := hso
      rw [hso']
      rfl
  have K := pt_nest (Y := YX7_sweep) (σ := (0, [(0, pt_r 7 0), (1, pt_i (nI s))], [], M)) (τ := (147, [(0, pt_r 7 0), (3, pt_i (nI (sN_F n))), (4, pt_i 0)], [], ms_M M0 n B (sN_F n))) (R := fun m => (120, [], [pt_i (-1)], ms_M M0 n B m)) (n := sN_F n) (i := 0)
    (S := fun m => (74, [(0, pt_r 7 0), (1, pt_i (nI s)), (2, pt_i (nI n)), (3, pt_i (nI (sN_F n))), (4, pt_i (nI m))], [], ms_M M0 n B m)) (f := fun k => if (lq_F n B k).isNone then some k else none)
    (Nat.zero_le _) gi (gX7_sweep_74_2 (nI s) (nI n) (nI (sN_F n)) (nI (sN_F n)) _ (Int32.le_refl _)) fun m _ hm => by
      obtain ⟨s1, s2⟩ := sp_step (s := s) (m := m) hml h3 (by omega)
      have g1 := gX7_sweep_74_1 (nI s) (nI n) (nI (sN_F n)) (nI m) (ms_M M0 n B m) (nI_ge hm (by omega))
      cases hl : lq_F n B m with
      | none =>
        refine ⟨fun v z => ?_, fun z => (by cases z)⟩
        cases z
        exact g1.tr (s2 hl)
      | some q => exact ⟨fun v z => (by cases z), fun _ => g1.tr (s1 q hl)⟩
  refine ⟨fun k hk => ?_, fun hk => ?_⟩
  · refine rX7_sweep_120 (Nat.le_of_ble_eq_true rfl) ?_ (K.1 k hk)
    exact hX
  · have K3 := pt_for0 (Y := YX7_sweep) (fun m => (147, [(0, pt_r 7 0), (3, pt_i (nI (sN_F n))), (4, pt_i (nI m))], [], pt_wA (ms_M M0 n B (sN_F n)) 41 0 (co_F (pt_A M0 41 0) (fun p => nI (pl_F n B p)) m))) (n := sN_F n) fun m hm => by
      refine (gX7_sweep_147_1 (nI (sN_F n)) (nI m) _ (nI_ge hm (by omega)) (pt_in_nI (by omega) (by decide))).to ?_
      have e37 : pt_A (pt_wA (ms_M M0 n B (sN_F n)) 41 0 (co_F (pt_A M0 41 0) (fun p => nI (pl_F n B p)) m)) 37 0 m = nI (pl_F n B m) := if_pos hm
      rw [nI_1, pt_nt_nI (by omega), e37, b8_nI (pl_lt hn), pt_wA_wA, pt_A_wA, co_step (pt_A M0 41 0) (fun p => nI (pl_F n B p)) m]
    refine rX7_sweep_180 (Nat.le_of_ble_eq_true rfl) ?_ (((K.2 hk).toM ?_).tr (K3.tr (gX7_sweep_147_2 (nI (sN_F n)) (nI (sN_F n)) _ (Int32.le_refl _))))
    · exact hX
    · rw [co_zero]
      exact (pt_wA_id rfl).symm
theorem op_sweep {M : pt_M} (h : IV_P M) (x : Int32) : op_P yX6_sweep YX6_sweep yX7_sweep YX7_sweep [pt_i x] M := by
  obtain ⟨A, hC, hM⟩ := h
  rcases lw_case hC x with ⟨h1, h2⟩ | ⟨s, hs, rfl, hn⟩
  · exact op_of hC hM (A' := A) (M2 := t0_M M) (dX6_sweep_p3 x 0 M M h1) mo_P.rf hC fun hM => ⟨rX7_sweep_14 (Nat.le_of_ble_eq_true rfl) rfl (gX7_sweep_0_2 x M (h2 M hM)), t0_ca, hM⟩
  obtain ⟨q1, q2, q3, q4, q5, q6⟩ := CR_y hC hs hn
  have hl := CR_l1 hC hs hn
  obtain ⟨f1, f2⟩ := dX3_find hl.2.1
  rw [fd_lq q2] at f1 f2
  have ks : ∀ k, ks_P M (fm_M (iv_N A s) (iv_B A s) (sb_M M (iv_N A s)) k) := fun k => ks_sb.tr (fm_ok q2 (sb_so q2) k).2
  have d7 : ∀ M', MR_P M' A → _ := fun M' h' => dX7_sweep hs q1 (MR_y h' hs hn).1 (MR_y h' hs hn).2.1 (MR_y h' hs hn).2.2
  cases hf : (fs_F (sN_F (iv_N A s) - 0) 0 fun k => if (lq_F (iv_N A s) (iv_B A s) k).isNone then some k else none) with
  | some k => exact op_ex hC hM (A' := A) (dX6_sweep_p2 (nI s) 0 _ M hl.1 (f2 k hf)) (mo_ks (ks k)) (CR_ks hC (ks k)) fun hM => ⟨_, (d7 _ hM).1 k hf, t0_ca.tr ms_ca, MR_ms (MR_t0 hM)⟩
  | none =>
    have hk := ks (sN_F (iv_N A s))
    have h45 := (so_nI q2).2
    have hC2 := CR_ks hC hk
    have hall : ∀ t, t < sN_F (iv_N A s) → lq_F (iv_N A s) (iv_B A s) t ≠ none := fun t ht z => by
      have := fs_none.mp hf t (by omega) (by omega)
      rw [z] at this
      cases this
    have e16 := (fm_sq (M := M) (B := iv_B A s) q2 (sN_F (iv_N A s))).2.2 hall
    have hcy : cy_P 16 (so_F (pt_F (fm_M (iv_N A s) (iv_B A s) (sb_M M (iv_N A s)) (sN_F (iv_N A s))) 3 0 (pt_R M (pt_nt (nI s) + 1)))) (sN_F (iv_N A s)) := by
      rw [hk.1, hl.2.1.2.2.1]
      exact ⟨(so_nI q2).1, h45⟩
    have d1 := dX6_sweep_p1 (nI s) (sN_F (iv_N A s)) _ M hl.1 (f1 hf) hl.2.1.1 hcy
    refine op_ex hC hM (A' := iw_A A (sN_F (iv_N A s)) fun p => nI (pl_F (iv_N A s) (iv_B A s) p)) (r := nI (sN_F (iv_N A s))) d1 ((mo_ks hk).tr mo_out) (CR_out hC2 (by omega) e16) fun hM => ⟨_, (d7 _ hM).2 hf, ((t0_ca.tr ms_ca).tr (ca_wA (by decide))).tr ca_wF, MR_out (MR_ms (MR_t0 hM)) fun p hp => if_pos hp⟩
