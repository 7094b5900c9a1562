/-! The class's rows are those of the table alone -/
theorem eq_cf {f f' w : Nat → Int32} : ∀ {p : Nat}, (∀ q, q < p → f q = f' q) → eq_F f w p = eq_F f' w p
  | 0, _ => rfl
  | p + 1, h => by rw [eq_succ, eq_succ, eq_cf fun q hq => h q (by omega), h p (by omega)]
theorem rt_cf {f f' w : Nat → Int32} {p : Nat} (h : ∀ q, q ≤ p → f q = f' q) : rt_F f w p = rt_F f' w p := by
  unfold rt_F
  rw [eq_cf fun q hq => h q (by omega), h p (by omega)]
theorem al_cf {f f' w : Nat → Int32} {N : Nat} (h : ∀ q, q < N → f q = f' q) : ((List.range N).all fun p => !rt_F f w p) = (List.range N).all fun p => !rt_F f' w p := by
  rw [Bool.eq_iff_iff, List.all_eq_true, List.all_eq_true]
  constructor
  · intro z p hp
    rw [← rt_cf fun q hq => h q (by have := List.mem_range.mp hp; omega)]
    exact z p hp
  · intro z p hp
    rw [rt_cf fun q hq => h q (by have := List.mem_range.mp hp; omega)]
    exact z p hp
theorem fm_s {M : pt_M} {k t n r : Nat} {B : Nat → Nat → Nat → Bool} {mr : Bool} : fr_M M k t n B mr (r + 1) = if (ri_F n B (2 ^ n - 1)).testBit r then of_M (nb_M (fr_M M k t n B mr r) n B (nI r) mr) k t (rk_0 n n) (rw_F n B (gm_F (nb_M (fr_M M k t n B mr r) n B (nI r) mr)) mr) else fr_M M k t n B mr r := by
  rw [fr_M]
theorem fr_k {M : pt_M} {k t n : Nat} {B : Nat → Nat → Nat → Bool} {mr : Bool} {k' i' : Nat} (h1 : ¬ (k' = k ∧ i' = t)) (h2 : k' ≠ 15) : ∀ r, pt_A (fr_M M k t n B mr r) k' i' = pt_A M k' i' := by
  intro r
  induction r with
  | zero =>
    rw [fr_M]
    exact if_neg h1
  | succ r ih =>
    rw [fm_s]
    have e1 : pt_A (nb_M (fr_M M k t n B mr r) n B (nI r) mr) k' i' = pt_A M k' i' := (if_neg fun z => h2 z.1).trans ih
    split
    · unfold of_M
      split
      · exact (if_neg h1).trans e1
      · exact e1
    · exact ih
theorem fr_A {M : pt_M} {k t n : Nat} {B : Nat → Nat → Nat → Bool} {mr : Bool} (h : lw_P n B) (hd : dg_P n B) (h3 : 3 ≤ n) (hk : k ≠ 15) : ∀ r, r ≤ n → ∀ p, p < 120 → pt_A (fr_M M k t n B mr r) k t p = fr_R n B mr r p := by
  intro r
  have h120 := (to_nI h.1).2
  induction r with
  | zero =>
    intro _ p hp
    rw [fr_M, fr_R]
    unfold fi_F
    rw [pt_A_wA]
    exact if_pos hp
  | succ r ih =>
    intro hr p hp
    have ih := ih (by omega)
    rw [fm_s, fr_s]
    cases c : (ri_F n B (2 ^ n - 1)).testBit r
    · rw [if_neg Bool.false_ne_true, if_neg Bool.false_ne_true]
      exact ih p hp
    · rw [if_pos rfl, if_pos rfl]
      have hrm := ri_rm h.1 h3 c
      have eA : pt_A (nb_M (fr_M M k t n B mr r) n B (nI r) mr) k t = pt_A (fr_M M k t n B mr r) k t := if_neg fun z => hk z.1
      have hw : ∀ q, q < rk_0 n n → rw_F n B (gm_F (nb_M (fr_M M k t n B mr r) n B (nI r) mr)) mr q = rw_F n B (gz_F n B r mr) mr q := fun q hq => by
        obtain ⟨a, b, d, h1, h2, h4, h5, h6⟩ := tr_of h.1 hq
        have e : ∀ x, x < n → gm_F (nb_M (fr_M M k t n B mr r) n B (nI r) mr) x = gz_F n B r mr x := fun x hx => by
          have g := gz_all h hd h3 hrm mr x hx
          have hn := h.1
          unfold gm_F nb_M
          rw [pt_A_wA, pt_nt_nI (by omega), g.2.1, pt_nt_nI (by omega)]
        rw [← h5, rw_at h.1 h1 h2 h4, rw_at h.1 h1 h2 h4, e a (by omega), e b (by omega), e d h4]
      unfold of_M
      rw [al_cg hw, co_cg hw, eA, al_cf (f' := fr_R n B mr r) fun q hq => ih q (by omega)]
      split
      · rw [pt_A_wA]
        unfold co_F
        split
        · rfl
        · exact ih p hp
      · rw [eA]
        exact ih p hp
theorem fw_A {M : pt_M} {t n : Nat} {B : Nat → Nat → Nat → Bool} (h : lw_P n B) (hd : dg_P n B) (h3 : 3 ≤ n) (hf : fk_P M t n B) : ∀ p, p < rk_0 n n → pt_A (fw_M M t n B) 12 t p = fr_R n B false n p ∧ pt_A (fw_M M t n B) 13 t p = fr_R n B true n p := by
  intro p hp
  have h120 := (to_nI h.1).2
  unfold fw_M
  by_cases c : pt_F M 3 3 t = 0
  · rw [if_pos c]
    refine ⟨?_, ?_⟩
    · show pt_A (fr_M (fr_M M 12 t n B false n) 13 t n B true n) 12 t p = _
      rw [fr_k (by omega) (by decide)]
      exact fr_A h hd h3 (by decide) n (Nat.le_refl n) p (by omega)
    · exact fr_A (M := fr_M M 12 t n B false n) (t := t) h hd h3 (by decide) n (Nat.le_refl n) p (by omega)
  · rw [if_neg c]
    exact (hf.resolve_left c).2 p hp
theorem fw_F {M : pt_M} {t n : Nat} {B : Nat → Nat → Nat → Bool} (hn : n ≤ 10) : ¬ pt_F (fw_M M t n B) 3 3 t = 0 := by
  unfold fw_M
  by_cases c : pt_F M 3 3 t = 0
  · rw [if_pos c, pt_F_wF, if_pos ⟨rfl, rfl, rfl⟩]
    decide
  · rw [if_neg c]
    exact c
theorem fw_k {M : pt_M} {t n : Nat} {B : Nat → Nat → Nat → Bool} {k' i' : Nat} (h1 : ¬ (k' = 12 ∧ i' = t)) (h2 : ¬ (k' = 13 ∧ i' = t)) (h3 : k' ≠ 15) : pt_A (fw_M M t n B) k' i' = pt_A M k' i' := by
  unfold fw_M
  by_cases c : pt_F M 3 3 t = 0
  · rw [if_pos c]
    show pt_A (fr_M (fr_M M 12 t n B false n) 13 t n B true n) k' i' = _
    rw [fr_k h2 h3, fr_k h1 h3]
  · rw [if_neg c]
theorem fw_f {M : pt_M} {t n : Nat} {B : Nat → Nat → Nat → Bool} {k f i : Nat} (hn : n ≤ 10) (h : ¬ (k = 3 ∧ f = 3 ∧ i = t)) : pt_F (fw_M M t n B) k f i = pt_F M k f i := by
  unfold fw_M
  by_cases c : pt_F M 3 3 t = 0
  · rw [if_pos c, pt_F_wF, if_neg h]
    have hk1 : ke_P M (fr_M M 12 t n B false n) := fr_ke (by decide) hn n (Nat.le_refl n)
    have hk2 : ke_P M (fr_M (fr_M M 12 t n B false n) 13 t n B true n) := hk1.tr (fr_ke (by decide) hn n (Nat.le_refl n))
    rw [hk2.1]
  · rw [if_neg c]
theorem iv_dg {A : iv_A} {s : Nat} : dg_P (iv_N A s) (iv_B A s) := fun _ _ _ h => nB_g h
theorem CR_fw {M : pt_M} {A : iv_A} {s : Nat} (h : CR_P M A) (hs : s < 6) (hn : iv_N A s ≠ 0) (hw : lw_P (iv_N A s) (iv_B A s)) : CR_P (fw_M M (pt_R M (s + 1)) (iv_N A s) (iv_B A s)) A := by
  obtain ⟨q1, q2, q3, q4, q5, q6⟩ := CR_y h hs hn
  have hke := fw_ke (M := M) (t := pt_R M (s + 1)) (B := iv_B A s) q2
  have hR : (fw_M M (pt_R M (s + 1)) (iv_N A s) (iv_B A s)).2.2 = M.2.2 := hke.2.2.2
  have key : cs_P (fw_M M (pt_R M (s + 1)) (iv_N A s) (iv_B A s)) (pt_R M (s + 1)) (iv_N A s) (iv_B A s) := by
    refine Or.inr ⟨q1, tb_ca q4 (fw_f q2 (by omega)) (fw_k (by omega) (by omega) (by decide)), ?_, Or.inr ⟨fw_F q2, fw_A hw iv_dg q1 q6⟩⟩
    unfold fa_P
    rw [fw_f q2 (by omega)]
    exact q5
  have eR : pt_R (fw_M M (pt_R M (s + 1)) (iv_N A s) (iv_B A s)) = pt_R M := congrArg (fun z => z.2.1) hR
  have h2 := CR_slot (M' := fw_M M (pt_R M (s + 1)) (iv_N A s) (iv_B A s)) (n := iv_N A s) (S := iv_S A s) h hs (fun k f i z => fw_f q2 (fun w => z ⟨w.1, w.2.2⟩)) (fun k i a b => fw_k (fun z => b ⟨z.2, .inr (.inl z.1)⟩) (fun z => b ⟨z.2, .inr (.inr z.1)⟩) a) eR (hke.2.2.1 h.2.2.2.2.1) key
  rw [iv_self] at h2
  exact h2
theorem mo_fw {M : pt_M} {t n : Nat} {B : Nat → Nat → Nat → Bool} (hn : n ≤ 10) : mo_P M (fw_M M t n B) := ⟨by
  funext f i
  exact fw_f hn (by omega), fun k hk => by
  funext i
  exact fw_k (by omega) (by omega) (by omega)⟩
