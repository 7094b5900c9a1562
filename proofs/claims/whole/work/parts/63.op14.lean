/-! CALLS ON BOTH SIDES: sweep -/
def sq_S (n : Nat) (B : Nat → Nat → Nat → Bool) : Nat → (Nat → Nat) × (Nat → Nat → Bool)
  | 0 => (fun p => p, fun _ _ => false)
  | m + 1 => match lp_F n B (sq_S n B m).1 (sw2_F (sq_S n B m).2) with
    | none => sq_S n B m
    | some q => (ox_F (sq_S n B m).1 q, wp_F (sq_S n B m).2 ((sq_S n B m).1 q) ((sq_S n B m).1 (q + 1)))
def lq_F (n : Nat) (B : Nat → Nat → Nat → Bool) (m : Nat) : Option Nat := lp_F n B (sq_S n B m).1 (sw2_F (sq_S n B m).2)
theorem sq_y {n m q : Nat} {B : Nat → Nat → Nat → Bool} (h : lq_F n B m = some q) : sq_S n B (m + 1) = (ox_F (sq_S n B m).1 q, wp_F (sq_S n B m).2 ((sq_S n B m).1 q) ((sq_S n B m).1 (q + 1))) := by
  unfold lq_F at h
  show (match lp_F n B (sq_S n B m).1 (sw2_F (sq_S n B m).2) with | none => sq_S n B m | some q => (ox_F (sq_S n B m).1 q, wp_F (sq_S n B m).2 ((sq_S n B m).1 q) ((sq_S n B m).1 (q + 1)))) = _
  rw [h]
theorem sq_n {n m : Nat} {B : Nat → Nat → Nat → Bool} (h : lq_F n B m = none) : sq_S n B (m + 1) = sq_S n B m := by
  unfold lq_F at h
  show (match lp_F n B (sq_S n B m).1 (sw2_F (sq_S n B m).2) with | none => sq_S n B m | some q => (ox_F (sq_S n B m).1 q, wp_F (sq_S n B m).2 ((sq_S n B m).1 q) ((sq_S n B m).1 (q + 1)))) = _
  rw [h]
theorem lp_ok {n q : Nat} {B : Nat → Nat → Nat → Bool} {o : Nat → Nat} {S : Nat → Nat → Bool} (h : lp_F n B o S = some q) : q + 1 < n ∧ o q < o (q + 1) := by
  refine fs_lt (P := fun q => q + 1 < n ∧ o q < o (q + 1)) (fun a w h1 h2 h3 => ?_) h
  split at h3
  · rename_i hc
    cases h3
    rw [Bool.and_eq_true, decide_eq_true_eq] at hc
    exact ⟨by omega, hc.1⟩
  · cases h3
theorem sq_or {n : Nat} {B : Nat → Nat → Nat → Bool} : ∀ m, or_P n (sq_S n B m).1
  | 0 => or_id n
  | m + 1 => by
    cases h : lq_F n B m with
    | none =>
      rw [sq_n h]
      exact sq_or m
    | some q =>
      rw [sq_y h]
      exact or_ox (sq_or m) (by have := (lp_ok h).1; omega)
theorem dw_cong {n a b c : Nat} {B : Nat → Nat → Nat → Bool} {S S' : Nat → Nat → Bool} (ha : a < n) (hb : b < n) (hc : c < n) (h1 : c ≠ a) (h2 : c ≠ b) (h : ∀ x y, x < n → y < n → x ≠ y → S x y = S' x y) : dw_F B S a b c = dw_F B S' a b c := by
  unfold dw_F
  rw [h a c ha hc (fun z => h1 z.symm), h b c hb hc (fun z => h2 z.symm)]
theorem du_cong {n a b : Nat} {B : Nat → Nat → Nat → Bool} {S S' : Nat → Nat → Bool} (ha : a < n) (hb : b < n) (h : ∀ x y, x < n → y < n → x ≠ y → S x y = S' x y) : du_F n B S a b = du_F n B S' a b := by
  unfold du_F
  refine fs_cong fun c _ hc => ?_
  by_cases h1 : c = a
  · rw [decide_eq_false (fun z => z h1)]
    rfl
  by_cases h2 : c = b
  · rw [decide_eq_false (p := c ≠ b) (fun z => z h2), Bool.false_and, Bool.false_and]
  rw [dw_cong ha hb (by omega) h1 h2 h]
theorem lp_cong {n : Nat} {B : Nat → Nat → Nat → Bool} {o o' : Nat → Nat} {S S' : Nat → Nat → Bool} (ho : or_P n o) (h1 : ∀ p, p < n → o' p = o p) (h2 : ∀ x y, x < n → y < n → x ≠ y → S' x y = S x y) : lp_F n B o' S' = lp_F n B o S := by
  unfold lp_F
  refine fs_cong fun q _ hq => ?_
  rw [h1 q (by omega), h1 (q + 1) (by omega), du_cong (ho.1 q (by omega)) (ho.1 (q + 1) (by omega)) h2]
theorem sw2_wp {W : Nat → Nat → Bool} {a c x y : Nat} (hac : a < c) (hxy : x ≠ y) : sw2_F (wp_F W a c) x y = (sw2_F W x y || decide ((x = a ∧ y = c) ∨ (x = c ∧ y = a))) := by
  unfold sw2_F wp_F
  by_cases h : x < y
  · rw [if_pos h, if_pos h]
    congr 1
    rw [decide_eq_decide]
    omega
  · rw [if_neg h, if_neg h]
    congr 1
    rw [decide_eq_decide]
    omega
theorem sS_sa {M : pt_M} {n q x y : Nat} (hn : n ≤ 10) (h : so_P M n) (hq : q + 1 < n) (hne : og_F M q ≠ og_F M (q + 1)) (hy : y < n) : sS_F (sa_M M (nI q)) x y = (sS_F M x y || decide ((x = og_F M q ∧ y = og_F M (q + 1)) ∨ (x = og_F M (q + 1) ∧ y = og_F M q))) := by
  obtain ⟨a1, a2, -, -⟩ := h q (by omega)
  obtain ⟨b1, b2, -, -⟩ := h (q + 1) hq
  obtain ⟨-, -, -, u1⟩ := h (og_F M q) a2
  obtain ⟨-, -, -, u2⟩ := h (og_F M (q + 1)) b2
  have p1 : 2 ^ og_F M q < 2 ^ 10 := Nat.pow_lt_pow_right (by decide) (by omega)
  have p2 : 2 ^ og_F M (q + 1) < 2 ^ 10 := Nat.pow_lt_pow_right (by decide) (by omega)
  unfold sS_F
  show (pt_nt (pt_A (sa_M M (nI q)) 18 0 x)).testBit y = _
  rw [sa_18 hn h hq]
  dsimp only
  by_cases c1 : x = og_F M (q + 1)
  · rw [if_pos c1, if_neg (fun z => hne z.symm), pt_nt_nI (Nat.lt_of_lt_of_le (Nat.or_lt_two_pow (n := 10) u2 p1) (by decide)), Nat.testBit_or, Nat.testBit_two_pow, c1]
    congr 1
    rw [decide_eq_decide]
    omega
  · rw [if_neg c1]
    by_cases c2 : x = og_F M q
    · rw [if_pos c2, pt_nt_nI (Nat.lt_of_lt_of_le (Nat.or_lt_two_pow (n := 10) u1 p2) (by decide)), Nat.testBit_or, Nat.testBit_two_pow, c2]
      congr 1
      rw [decide_eq_decide]
      omega
    · rw [if_neg c2, decide_eq_false (by omega), Bool.or_false]
      rfl
def pl_F (n : Nat) (B : Nat → Nat → Nat → Bool) (m : Nat) : Nat := (lq_F n B m).getD 0
theorem fm_sq {M : pt_M} {n : Nat} {B : Nat → Nat → Nat → Bool} (hn : n ≤ 10) : ∀ m, (∀ p, p < n → og_F (fm_M n B (sb_M M n) m) p = (sq_S n B m).1 p) ∧ (∀ x y, x < n → y < n → x ≠ y → sS_F (fm_M n B (sb_M M n) m) x y = sw2_F (sq_S n B m).2 x y) ∧ ((∀ t, t < m → lq_F n B t ≠ none) → ∀ p, p < m → pt_A (fm_M n B (sb_M M n) m) 16 0 p = nI (pl_F n B p))
  | 0 => ⟨fun p hp => sb_og hn hp, fun x y hx hy hxy => by
      have e : sS_F (sb_M M n) x y = false := by
        unfold sS_F sg_F
        show (pt_nt (if x < n then (0 : Int32) else _)).testBit y = false
        rw [if_pos hx, show (0 : Int32) = nI 0 from rfl, pt_nt_nI (by decide), Nat.zero_testBit]
      rw [show fm_M n B (sb_M M n) 0 = sb_M M n from rfl, e]
      unfold sw2_F
      split <;> rfl, fun _ p hp => absurd hp (Nat.not_lt_zero p)⟩
  | m + 1 => by
    obtain ⟨h1, h2, h3⟩ := fm_sq (M := M) (B := B) hn m
    have hso := (fm_ok (B := B) hn (sb_so (M := M) hn) m).1
    have hlp : lp_F n B (og_F (fm_M n B (sb_M M n) m)) (sS_F (fm_M n B (sb_M M n) m)) = lq_F n B m := lp_cong (sq_or m) h1 h2
    cases hl : lq_F n B m with
    | none =>
      have e : fm_M n B (sb_M M n) (m + 1) = fm_M n B (sb_M M n) m := by
        show (match lp_F n B (og_F (fm_M n B (sb_M M n) m)) (sS_F (fm_M n B (sb_M M n) m)) with | none => _ | some q => _) = _
        rw [hlp, hl]
      rw [e, sq_n hl]
      exact ⟨h1, h2, fun hall => absurd hl (hall m (by omega))⟩
    | some q =>
      obtain ⟨hq, hlt⟩ := lp_ok hl
      have e : fm_M n B (sb_M M n) (m + 1) = sa_M (pt_wA (fm_M n B (sb_M M n) m) 16 0 (upd (pt_A (fm_M n B (sb_M M n) m) 16 0) m (nI q))) (nI q) := by
        show (match lp_F n B (og_F (fm_M n B (sb_M M n) m)) (sS_F (fm_M n B (sb_M M n) m)) with | none => _ | some q => _) = _
        rw [hlp, hl]
      have e1 := h1 q (by omega)
      have e2 := h1 (q + 1) hq
      rw [e, sq_y hl]
      refine ⟨fun p hp => ?_, fun x y hx hy hxy => ?_, fun hall p hp => ?_⟩
      · rw [og_sa hn hq]
        exact ox_cong hq hp h1
      · have hso' : so_P (pt_wA (fm_M n B (sb_M M n) m) 16 0 (upd (pt_A (fm_M n B (sb_M M n) m) 16 0) m (nI q))) n := hso
        have r := sS_sa (M := pt_wA (fm_M n B (sb_M M n) m) 16 0 (upd (pt_A (fm_M n B (sb_M M n) m) 16 0) m (nI q))) (x := x) hn hso' hq (show og_F (fm_M n B (sb_M M n) m) q ≠ og_F (fm_M n B (sb_M M n) m) (q + 1) by rw [e1, e2]; omega) hy
        rw [r, sw2_wp hlt hxy]
        have r2 : sS_F (pt_wA (fm_M n B (sb_M M n) m) 16 0 (upd (pt_A (fm_M n B (sb_M M n) m) 16 0) m (nI q))) x y = sw2_F (sq_S n B m).2 x y := h2 x y hx hy hxy
        have r3 : og_F (pt_wA (fm_M n B (sb_M M n) m) 16 0 (upd (pt_A (fm_M n B (sb_M M n) m) 16 0) m (nI q))) q = (sq_S n B m).1 q := e1
        have r4 : og_F (pt_wA (fm_M n B (sb_M M n) m) 16 0 (upd (pt_A (fm_M n B (sb_M M n) m) 16 0) m (nI q))) (q + 1) = (sq_S n B m).1 (q + 1) := e2
        rw [r2, r3, r4]
      · show upd (pt_A (fm_M n B (sb_M M n) m) 16 0) m (nI q) p = _
        unfold upd
        by_cases c : p = m
        · rw [if_pos c, c]
          unfold pl_F
          rw [hl]
          rfl
        · rw [if_neg c]
          exact h3 (fun t ht => hall t (by omega)) p (by omega)
theorem fd_lq {M : pt_M} {n : Nat} {B : Nat → Nat → Nat → Bool} (hn : n ≤ 10) : fd_F n B (sb_M M n) = fs_F (sN_F n - 0) 0 fun k => if (lq_F n B k).isNone then some k else none := by
  unfold fd_F
  refine fs_cong fun k _ _ => ?_
  obtain ⟨h1, h2, -⟩ := fm_sq (M := M) (B := B) hn k
  rw [lp_cong (sq_or k) h1 h2]
  rfl
/-! the model's -/
def wm_F (f : Nat → Int32) (n : Nat) (B : Nat → Nat → Nat → Bool) : Nat → Nat → Int32
  | 0 => fun p => if p < 100 then -1 else f p
  | m + 1 => match lq_F n B m with
    | none => wm_F f n B m
    | some q => upd (wm_F f n B m) (10 * (sq_S n B m).1 q + (sq_S n B m).1 (q + 1)) (nI m)
theorem wm_y {f : Nat → Int32} {n m q : Nat} {B : Nat → Nat → Nat → Bool} (h : lq_F n B m = some q) : wm_F f n B (m + 1) = upd (wm_F f n B m) (10 * (sq_S n B m).1 q + (sq_S n B m).1 (q + 1)) (nI m) := by
  show (match lq_F n B m with | none => _ | some q => _) = _
  rw [h]
theorem wm_n {f : Nat → Int32} {n m : Nat} {B : Nat → Nat → Nat → Bool} (h : lq_F n B m = none) : wm_F f n B (m + 1) = wm_F f n B m := by
  show (match lq_F n B m with | none => _ | some q => _) = _
  rw [h]
theorem wm_W {f : Nat → Int32} {n : Nat} {B : Nat → Nat → Nat → Bool} (hn : n ≤ 10) : ∀ m, m < 2 ^ 31 → ∀ i j, i < j → j < n → (wm_F f n B m (10 * i + j) < 0 ↔ (sq_S n B m).2 i j = false)
  | 0, _, i, j, hij, hj => by
    show (if 10 * i + j < 100 then (-1 : Int32) else _) < 0 ↔ _
    rw [if_pos (by omega)]
    exact ⟨fun _ => rfl, fun _ => by decide⟩
  | m + 1, hm, i, j, hij, hj => by
    have ih := wm_W (f := f) (B := B) hn m (by omega) i j hij hj
    cases hl : lq_F n B m with
    | none =>
      rw [wm_n hl, sq_n hl]
      exact ih
    | some q =>
      obtain ⟨hq, hlt⟩ := lp_ok hl
      have ho := sq_or (n := n) (B := B) m
      have b1 := ho.1 q (by omega)
      have b2 := ho.1 (q + 1) hq
      rw [wm_y hl, sq_y hl]
      show upd _ _ _ _ < 0 ↔ wp_F _ _ _ i j = false
      unfold upd wp_F
      by_cases c : i = (sq_S n B m).1 q ∧ j = (sq_S n B m).1 (q + 1)
      · rw [if_pos (by omega), decide_eq_true c, Bool.or_true]
        exact ⟨fun z => absurd z (nI_pos (by omega)), fun z => by cases z⟩
      · rw [if_neg (by omega), decide_eq_false c, Bool.or_false]
        exact ih
/-- the model's cells at step m -/
def ms_M (M : pt_M) (n : Nat) (B : Nat → Nat → Nat → Bool) (m : Nat) : pt_M := pt_wA (ow_M M n (pt_A M 42 0) (sq_S n B m).1 (wm_F (pt_A M 43 0) n B m)) 37 0 (co_F (pt_A M 37 0) (fun p => nI (pl_F n B p)) m)
theorem ms_wh {M : pt_M} {n m : Nat} {B : Nat → Nat → Nat → Bool} (hn : n ≤ 10) (hm : m < 2 ^ 31) : wh_P (ms_M M n B m) n (sq_S n B m).2 := fun i j hij hj => by
  have h := wm_W (f := pt_A M 43 0) (B := B) hn m hm i j hij hj
  have e : pt_A (ms_M M n B m) 43 0 = wm_F (pt_A M 43 0) n B m := rfl
  unfold wz_F
  rw [show (10 : Int32) * nI i + nI j = nI (10 * i + j) by rw [show (10 : Int32) = nI 10 from rfl, pk_mul, nI_add], pt_nt_nI (by omega), e]
  cases c : (sq_S n B m).2 i j
  · rw [if_pos (h.mpr c)]
    rfl
  · rw [if_neg (fun z => by rw [h, c] at z; cases z)]
    rfl
theorem rX7_sweep_14 {vs : List pt_V} {M M' : pt_M} {x : Int32} {L : List (Nat × pt_V)} (hvs : (vs.map pt_w).sum ≤ 6) (hX : M'.2.2.2.2 = M.2.2.2.2) (h : pt_Go YX7_sweep (0, pt_en 0 vs, [], M) (14, L, [pt_i x], M')) : pt_Does yX7_sweep YX7_sweep vs M (some (pt_i x)) M' := pt_does_go tX7_sweep_ok nX7_sweep hvs hX ⟨_, by with_unfolding_all rfl, rfl, _, rfl, rfl⟩ h
theorem rX7_sweep_120 {vs : List pt_V} {M M' : pt_M} {x : Int32} {L : List (Nat × pt_V)} (hvs : (vs.map pt_w).sum ≤ 6) (hX : M'.2.2.2.2 = M.2.2.2.2) (h : pt_Go YX7_sweep (0, pt_en 0 vs, [], M) (120, L, [pt_i x], M')) : pt_Does yX7_sweep YX7_sweep vs M (some (pt_i x)) M' := pt_does_go tX7_sweep_ok nX7_sweep hvs hX ⟨_, by with_unfolding_all rfl, rfl, _, rfl, rfl⟩ h
theorem rX7_sweep_180 {vs : List pt_V} {M M' : pt_M} {x : Int32} {L : List (Nat × pt_V)} (hvs : (vs.map pt_w).sum ≤ 6) (hX : M'.2.2.2.2 = M.2.2.2.2) (h : pt_Go YX7_sweep (0, pt_en 0 vs, [], M) (180, L, [pt_i x], M')) : pt_Does yX7_sweep YX7_sweep vs M (some (pt_i x)) M' := pt_does_go tX7_sweep_ok nX7_sweep hvs hX ⟨_, by with_unfolding_all rfl, rfl, _, rfl, rfl⟩ h
set_option maxRecDepth 100000 in
theorem gX7_sweep_0_1 (x1 : Int32)  (M : pt_M) (h1 : mA_P (pt_wF M 7 0 0 0) x1) (h2 : pt_in x1 6) :
    pt_Go YX7_sweep (0, [(0, pt_r 7 0), (1, pt_i x1)], [], M)
      (24, [(0, pt_r 7 0), (1, pt_i x1), (2, pt_i (pt_A (pt_wF M 7 0 0 0) 31 0 (pt_nt x1))), (3, pt_i 0)], [], (pt_wF M 7 0 0 0)) :=
  pt_run_ok tX7_sweep_ok 14 [.inr (2, some (pt_i 1), (pt_wF M 7 0 0 0)), .inl true] (P := pt_Cal YX7_sweep (.invokevirtual 89) [pt_r 7 0, pt_i x1] (pt_wF M 7 0 0 0) (some (pt_i 1)) (pt_wF M 7 0 0 0) ∧ (¬ (1 : Int32) = (0 : Int32)) ∧ (pt_in x1 6) ∧ True) (by with_unfolding_all rfl) ⟨(pt_callV (i := 0) kX7_sweep_89 mX7_has rfl (by decide) rfl (dX7_has_1 h1)), (by decide), h2, trivial⟩
set_option maxRecDepth 100000 in
theorem gX7_sweep_0_2 (x1 : Int32)  (M : pt_M) (h1 : mN_P (pt_wF M 7 0 0 0) x1) :
    pt_Go YX7_sweep (0, [(0, pt_r 7 0), (1, pt_i x1)], [], M)
      (14, [(0, pt_r 7 0), (1, pt_i x1)], [pt_i (-1)], (pt_wF M 7 0 0 0)) :=
  pt_run_ok tX7_sweep_ok 8 [.inr (2, some (pt_i 0), (pt_wF M 7 0 0 0)), .inl false] (P := pt_Cal YX7_sweep (.invokevirtual 89) [pt_r 7 0, pt_i x1] (pt_wF M 7 0 0 0) (some (pt_i 0)) (pt_wF M 7 0 0 0) ∧ ((0 : Int32) = (0 : Int32)) ∧ True) (by with_unfolding_all rfl) ⟨(pt_callV (i := 0) kX7_sweep_89 mX7_has rfl (by decide) rfl (dX7_has_0 h1)), (by decide), trivial⟩
set_option maxRecDepth 100000 in
theorem gX7_sweep_24_1 (l1 : Int32) (l2 : Int32) (l3 : Int32)  (M : pt_M) (h1 : ¬ l2 ≤ l3) (h2 : pt_in l3 10) :
    pt_Go YX7_sweep (24, [(0, pt_r 7 0), (1, pt_i l1), (2, pt_i l2), (3, pt_i l3)], [], M)
      (24, [(0, pt_r 7 0), (1, pt_i l1), (2, pt_i l2), (3, pt_i (l3 + 1))], [], (pt_wA M 42 0 (upd (pt_A M 42 0) (pt_nt l3) l3))) :=
  pt_run_ok tX7_sweep_ok 10 [.inl false] (P := (¬ l2 ≤ l3) ∧ (pt_in l3 10) ∧ True) (by with_unfolding_all rfl) ⟨h1, h2, trivial⟩
set_option maxRecDepth 100000 in
theorem gX7_sweep_24_2 (l1 : Int32) (l2 : Int32) (l3 : Int32)  (M : pt_M) (h1 : l2 ≤ l3) :
    pt_Go YX7_sweep (24, [(0, pt_r 7 0), (1, pt_i l1), (2, pt_i l2), (3, pt_i l3)], [], M)
      (44, [(0, pt_r 7 0), (1, pt_i l1), (2, pt_i l2), (3, pt_i 0)], [], M) :=
  pt_run_ok tX7_sweep_ok 5 [.inl true] (P := (l2 ≤ l3) ∧ True) (by with_unfolding_all rfl) ⟨h1, trivial⟩
set_option maxRecDepth 100000 in
theorem gX7_sweep_44_1 (l1 : Int32) (l2 : Int32) (l3 : Int32)  (M : pt_M) (h1 : ¬ 100 ≤ l3) (h2 : pt_in l3 100) :
    pt_Go YX7_sweep (44, [(0, pt_r 7 0), (1, pt_i l1), (2, pt_i l2), (3, pt_i l3)], [], M)
      (44, [(0, pt_r 7 0), (1, pt_i l1), (2, pt_i l2), (3, pt_i (l3 + 1))], [], (pt_wA M 43 0 (upd (pt_A M 43 0) (pt_nt l3) (-1)))) :=
  pt_run_ok tX7_sweep_ok 10 [.inl false] (P := (¬ 100 ≤ l3) ∧ (pt_in l3 100) ∧ True) (by with_unfolding_all rfl) ⟨h1, h2, trivial⟩
set_option maxRecDepth 100000 in
theorem gX7_sweep_44_2 (l1 : Int32) (l2 : Int32) (l3 : Int32)  (M : pt_M) (h1 : 100 ≤ l3) :
    pt_Go YX7_sweep (44, [(0, pt_r 7 0), (1, pt_i l1), (2, pt_i l2), (3, pt_i l3)], [], M)
      (74, [(0, pt_r 7 0), (1, pt_i l1), (2, pt_i l2), (3, pt_i ((l2 * (l2 - 1)) / 2)), (4, pt_i 0)], [], M) :=
  pt_run_ok tX7_sweep_ok 13 [.inl true] (P := (100 ≤ l3) ∧ (¬ (2 : Int32) = 0) ∧ True) (by with_unfolding_all rfl) ⟨h1, (by decide), trivial⟩
set_option maxRecDepth 100000 in
theorem gX7_sweep_74_1 (l1 : Int32) (l2 : Int32) (l3 : Int32) (l4 : Int32)  (M : pt_M) (h1 : ¬ l3 ≤ l4) :
    pt_Go YX7_sweep (74, [(0, pt_r 7 0), (1, pt_i l1), (2, pt_i l2), (3, pt_i l3), (4, pt_i l4)], [], M)
      (83, [(0, pt_r 7 0), (1, pt_i l1), (2, pt_i l2), (3, pt_i l3), (4, pt_i l4), (5, pt_i 0)], [], M) :=
  pt_run_ok tX7_sweep_ok 5 [.inl false] (P := (¬ l3 ≤ l4) ∧ True) (by with_unfolding_all rfl) ⟨h1, trivial⟩
set_option maxRecDepth 100000 in
theorem gX7_sweep_74_2 (l1 : Int32) (l2 : Int32) (l3 : Int32) (l4 : Int32)  (M : pt_M) (h1 : l3 ≤ l4) :
    pt_Go YX7_sweep (74, [(0, pt_r 7 0), (1, pt_i l1), (2, pt_i l2), (3, pt_i l3), (4, pt_i l4)], [], M)
      (147, [(0, pt_r 7 0), (3, pt_i l3), (4, pt_i 0)], [], M) :=
  (pt_run_ok tX7_sweep_ok 5 [.inl true] (P := (l3 ≤ l4) ∧ True) (by with_unfolding_all rfl) ⟨h1, trivial⟩ : pt_Go YX7_sweep _ (147, [(0, pt_r 7 0), (1, pt_i l1), (2, pt_i l2), (3, pt_i l3), (4, pt_i 0)], [], M)).tr (pt_pick [0, 3, 4] (by with_unfolding_all rfl))
set_option maxRecDepth 100000 in
theorem gX7_sweep_83_1 (l1 : Int32) (l2 : Int32) (l3 : Int32) (l4 : Int32) (l5 : Int32)  (M : pt_M) (h1 : ¬ (l2 - 1) ≤ l5) (h2 : pt_Does yX7_maySwap YX7_maySwap [pt_r 7 0, pt_i (120 * l1), pt_i l2, pt_i l5] M (some (pt_i 1)) M) (h3 : l5 = (l2 - 1)) :
    pt_Go YX7_sweep (83, [(0, pt_r 7 0), (1, pt_i l1), (2, pt_i l2), (3, pt_i l3), (4, pt_i l4), (5, pt_i l5)], [], M)
      (120, [(0, pt_r 7 0), (1, pt_i l1), (2, pt_i l2), (3, pt_i l3), (4, pt_i l4), (5, pt_i l5)], [pt_i (-1)], M) :=
  pt_run_ok tX7_sweep_ok 19 [.inl false, .inr (4, some (pt_i 1), M), .inl true, .inl false] (P := (¬ (l2 - 1) ≤ l5) ∧ pt_Cal YX7_sweep (.invokevirtual 187) [pt_r 7 0, pt_i (120 * l1), pt_i l2, pt_i l5] M (some (pt_i 1)) M ∧ (¬ (1 : Int32) = (0 : Int32)) ∧ (l5 = (l2 - 1)) ∧ True) (by with_unfolding_all rfl) ⟨h1, (pt_callV (i := 0) kX7_sweep_187 mX7_maySwap rfl (by decide) rfl h2), (by decide), h3, trivial⟩
set_option maxRecDepth 100000 in
theorem gX7_sweep_83_2 (l1 : Int32) (l2 : Int32) (l3 : Int32) (l4 : Int32) (l5 : Int32)  (M : pt_M) (h1 : ¬ (l2 - 1) ≤ l5) (h2 : pt_Does yX7_maySwap YX7_maySwap [pt_r 7 0, pt_i (120 * l1), pt_i l2, pt_i l5] M (some (pt_i 1)) M) (h3 : ¬ l5 = (l2 - 1)) (h4 : pt_in l4 120) (h5 : sv_H (pt_wA M 37 0 (upd (pt_A M 37 0) (pt_nt l4) l5)) l5) :
    pt_Go YX7_sweep (83, [(0, pt_r 7 0), (1, pt_i l1), (2, pt_i l2), (3, pt_i l3), (4, pt_i l4), (5, pt_i l5)], [], M)
      (74, [(0, pt_r 7 0), (1, pt_i l1), (2, pt_i l2), (3, pt_i l3), (4, pt_i (l4 + 1))], [], (sv_M (pt_wA M 37 0 (upd (pt_A M 37 0) (pt_nt l4) l5)) l5 l4)) :=
  (pt_run_ok tX7_sweep_ok 29 [.inl false, .inr (4, some (pt_i 1), M), .inl true, .inl true, .inr (3, none, (sv_M (pt_wA M 37 0 (upd (pt_A M 37 0) (pt_nt l4) l5)) l5 l4))] (P := (¬ (l2 - 1) ≤ l5) ∧ pt_Cal YX7_sweep (.invokevirtual 187) [pt_r 7 0, pt_i (120 * l1), pt_i l2, pt_i l5] M (some (pt_i 1)) M ∧ (¬ (1 : Int32) = (0 : Int32)) ∧ (¬ l5 = (l2 - 1)) ∧ (pt_in l4 120) ∧ pt_Cal YX7_sweep (.invokevirtual 180) [pt_r 7 0, pt_i l5, pt_i l4] (pt_wA M 37 0 (upd (pt_A M 37 0) (pt_nt l4) l5)) none (sv_M (pt_wA M 37 0 (upd (pt_A M 37 0) (pt_nt l4) l5)) l5 l4) ∧ True) (by with_unfolding_all rfl) ⟨h1, (pt_callV (i := 0) kX7_sweep_187 mX7_maySwap rfl (by decide) rfl h2), (by decide), h3, h4, (pt_callV (i := 0) kX7_sweep_180 mX7_swap rfl (by decide) rfl (dX7_swap h5)), trivial⟩ : pt_Go YX7_sweep _ (74, [(0, pt_r 7 0), (1, pt_i l1), (2, pt_i l2), (3, pt_i l3), (4, pt_i (l4 + 1)), (5, pt_i l5)], [], (sv_M (pt_wA M 37 0 (upd (pt_A M 37 0) (pt_nt l4) l5)) l5 l4))).tr (pt_pick [0, 1, 2, 3, 4] (by with_unfolding_all rfl))
set_option maxRecDepth 100000 in
theorem gX7_sweep_83_3 (l1 : Int32) (l2 : Int32) (l3 : Int32) (l4 : Int32) (l5 : Int32)  (M : pt_M) (h1 : ¬ (l2 - 1) ≤ l5) (h2 : pt_Does yX7_maySwap YX7_maySwap [pt_r 7 0, pt_i (120 * l1), pt_i l2, pt_i l5] M (some (pt_i 0)) M) :
    pt_Go YX7_sweep (83, [(0, pt_r 7 0), (1, pt_i l1), (2, pt_i l2), (3, pt_i l3), (4, pt_i l4), (5, pt_i l5)], [], M)
      (83, [(0, pt_r 7 0), (1, pt_i l1), (2, pt_i l2), (3, pt_i l3), (4, pt_i l4), (5, pt_i (l5 + 1))], [], M) :=
  pt_run_ok tX7_sweep_ok 15 [.inl false, .inr (4, some (pt_i 0), M), .inl false] (P := (¬ (l2 - 1) ≤ l5) ∧ pt_Cal YX7_sweep (.invokevirtual 187) [pt_r 7 0, pt_i (120 * l1), pt_i l2, pt_i l5] M (some (pt_i 0)) M ∧ ((0 : Int32) = (0 : Int32)) ∧ True) (by with_unfolding_all rfl) ⟨h1, (pt_callV (i := 0) kX7_sweep_187 mX7_maySwap rfl (by decide) rfl h2), (by decide), trivial⟩
set_option maxRecDepth 100000 in
theorem gX7_sweep_83_4 (l1 : Int32) (l2 : Int32) (l3 : Int32) (l4 : Int32) (l5 : Int32)  (M : pt_M) (h1 : (l2 - 1) ≤ l5) (h2 : l5 = (l2 - 1)) :
    pt_Go YX7_sweep (83, [(0, pt_r 7 0), (1, pt_i l1), (2, pt_i l2), (3, pt_i l3), (4, pt_i l4), (5, pt_i l5)], [], M)
      (120, [(0, pt_r 7 0), (1, pt_i l1), (2, pt_i l2), (3, pt_i l3), (4, pt_i l4), (5, pt_i l5)], [pt_i (-1)], M) :=
  pt_run_ok tX7_sweep_ok 11 [.inl true, .inl false] (P := ((l2 - 1) ≤ l5) ∧ (l5 = (l2 - 1)) ∧ True) (by with_unfolding_all rfl) ⟨h1, h2, trivial⟩
set_option maxRecDepth 100000 in
theorem gX7_sweep_83_5 (l1 : Int32) (l2 : Int32) (l3 : Int32) (l4 : Int32) (l5 : Int32)  (M : pt_M) (h1 : (l2 - 1) ≤ l5) (h2 : ¬ l5 = (l2 - 1)) (h3 : pt_in l4 120) (h4 : sv_H (pt_wA M 37 0 (upd (pt_A M 37 0) (pt_nt l4) l5)) l5) :
    pt_Go YX7_sweep (83, [(0, pt_r 7 0), (1, pt_i l1), (2, pt_i l2), (3, pt_i l3), (4, pt_i l4), (5, pt_i l5)], [], M)
      (74, [(0, pt_r 7 0), (1, pt_i l1), (2, pt_i l2), (3, pt_i l3), (4, pt_i (l4 + 1))], [], (sv_M (pt_wA M 37 0 (upd (pt_A M 37 0) (pt_nt l4) l5)) l5 l4)) :=
  (pt_run_ok tX7_sweep_ok 21 [.inl true, .inl true, .inr (3, none, (sv_M (pt_wA M 37 0 (upd (pt_A M 37 0) (pt_nt l4) l5)) l5 l4))] (P := ((l2 - 1) ≤ l5) ∧ (¬ l5 = (l2 - 1)) ∧ (pt_in l4 120) ∧ pt_Cal YX7_sweep (.invokevirtual 180) [pt_r 7 0, pt_i l5, pt_i l4] (pt_wA M 37 0 (upd (pt_A M 37 0) (pt_nt l4) l5)) none (sv_M (pt_wA M 37 0 (upd (pt_A M 37 0) (pt_nt l4) l5)) l5 l4) ∧ True) (by with_unfolding_all rfl) ⟨h1, h2, h3, (pt_callV (i := 0) kX7_sweep_180 mX7_swap rfl (by decide) rfl (dX7_swap h4)), trivial⟩ : pt_Go YX7_sweep _ (74, [(0, pt_r 7 0), (1, pt_i l1), (2, pt_i l2), (3, pt_i l3), (4, pt_i (l4 + 1)), (5, pt_i l5)], [], (sv_M (pt_wA M 37 0 (upd (pt_A M 37 0) (pt_nt l4) l5)) l5 l4))).tr (pt_pick [0, 1, 2, 3, 4] (by with_unfolding_all rfl))
set_option maxRecDepth 100000 in
theorem gX7_sweep_147_1 (l3 : Int32) (l4 : Int32)  (M : pt_M) (h1 : ¬ l3 ≤ l4) (h2 : pt_in l4 120) :
    pt_Go YX7_sweep (147, [(0, pt_r 7 0), (3, pt_i l3), (4, pt_i l4)], [], M)
      (147, [(0, pt_r 7 0), (3, pt_i l3), (4, pt_i (l4 + 1))], [], (pt_wA M 41 0 (upd (pt_A M 41 0) (pt_nt l4) (((pt_A M 37 0 (pt_nt l4)).toInt8.toInt32).toInt8.toInt32)))) :=
  pt_run_ok tX7_sweep_ok 14 [.inl false] (P := (¬ l3 ≤ l4) ∧ (pt_in l4 120) ∧ (pt_in l4 120) ∧ True) (by with_unfolding_all rfl) ⟨h1, h2, h2, trivial⟩
set_option maxRecDepth 100000 in
theorem gX7_sweep_147_2 (l3 : Int32) (l4 : Int32)  (M : pt_M) (h1 : l3 ≤ l4) :
    pt_Go YX7_sweep (147, [(0, pt_r 7 0), (3, pt_i l3), (4, pt_i l4)], [], M)
      (180, [(0, pt_r 7 0), (3, pt_i l3), (4, pt_i l4)], [pt_i l3], (pt_wF M 7 16 0 l3)) :=
  pt_run_ok tX7_sweep_ok 7 [.inl true] (P := (l3 ≤ l4) ∧ True) (by with_unfolding_all rfl) ⟨h1, trivial⟩
theorem sp_step {s n m : Nat} {B : Nat → Nat → Nat → Bool} {M : pt_M} (h : ml_P M (120 * s) n B) (h3 : 3 ≤ n) (hm : m < 45) : (∀ q, lq_F n B m = some q → pt_Go YX7_sweep (83, [(0, pt_r 7 0), (1, pt_i (nI s)), (2, pt_i (nI n)), (3, pt_i (nI (sN_F n))), (4, pt_i (nI m)), (5, pt_i 0)], [], ms_M M n B m) (74, [(0, pt_r 7 0), (1, pt_i (nI s)), (2, pt_i (nI n)), (3, pt_i (nI (sN_F n))), (4, pt_i (nI (m + 1)))], [], ms_M M n B (m + 1))) ∧ (lq_F n B m = none → pt_Go YX7_sweep (83, [(0, pt_r 7 0), (1, pt_i (nI s)), (2, pt_i (nI n)), (3, pt_i (nI (sN_F n))), (4, pt_i (nI m)), (5, pt_i 0)], [], ms_M M n B m) (120, [], [pt_i (-1)], ms_M M n B m)) := by
  have hn := h.2.1
  have ho := sq_or (n := n) (B := B) m
  have hml : ml_P (ms_M M n B m) (120 * s) n B := ml_A h rfl
  have hw := ms_wh (M := M) (B := B) (m := m) hn (by omega)
  have en : nI n - 1 = nI (n - 1) := pk_sub (b := 1) (by omega)
  have e42 : ∀ p, p < n → pt_A (ms_M M n B m) 42 0 p = nI ((sq_S n B m).1 p) := fun p hp => if_pos hp
  have K := pt_nest (Y := YX7_sweep) (σ := (83, [(0, pt_r 7 0), (1, pt_i (nI s)), (2, pt_i (nI n)), (3, pt_i (nI (sN_F n))), (4, pt_i (nI m)), (5, pt_i 0)], [], ms_M M n B m)) (τ := (120, [], [pt_i (-1)], ms_M M n B m))
    (R := fun q => (74, [(0, pt_r 7 0), (1, pt_i (nI s)), (2, pt_i (nI n)), (3, pt_i (nI (sN_F n))), (4, pt_i (nI (m + 1)))], [], sv_M (pt_wA (ms_M M n B m) 37 0 (upd (pt_A (ms_M M n B m) 37 0) m (nI q))) (nI q) (nI m))) (n := n - 1) (i := 0)
    (S := fun q => (83, [(0, pt_r 7 0), (1, pt_i (nI s)), (2, pt_i (nI n)), (3, pt_i (nI (sN_F n))), (4, pt_i (nI m)), (5, pt_i (nI q))], [], ms_M M n B m)) (f := fun q => if decide ((sq_S n B m).1 q < (sq_S n B m).1 (q + 1)) && (du_F n B (sw2_F (sq_S n B m).2) ((sq_S n B m).1 q) ((sq_S n B m).1 (q + 1))).isNone then some q else none)
    (Nat.zero_le _) pt_Go.rf ((gX7_sweep_83_4 (nI s) (nI n) (nI (sN_F n)) (nI m) (nI (n - 1)) _ (by rw [en]; exact Int32.le_refl _) (by rw [en])).tr pt_dropA) fun q _ hq => by
      have D := dX7_maySwap hml hw (q := q) (by omega) (e42 q (by omega)) (e42 (q + 1) (by omega)) (ho.1 q (by omega)) (ho.1 (q + 1) (by omega))
      have hlt : ¬ (nI n - 1) ≤ nI q := by rw [en]; exact nI_ge hq (by omega)
      have D' : pt_Does yX7_maySwap YX7_maySwap [pt_r 7 0, pt_i (120 * nI s), pt_i (nI n), pt_i (nI q)] (ms_M M n B m) (some (pt_i (pt_b (my_F n B (sw2_F (sq_S n B m).2) ((sq_S n B m).1 q) ((sq_S n B m).1 (q + 1)))))) (ms_M M n B m) := by rw [m120]; exact D
      unfold my_F at D'
      cases c : (decide ((sq_S n B m).1 q < (sq_S n B m).1 (q + 1)) && (du_F n B (sw2_F (sq_S n B m).2) ((sq_S n B m).1 q) ((sq_S n B m).1 (q + 1))).isNone)
      · rw [c] at D'
        exact ⟨fun v z => (by cases z), fun _ => (gX7_sweep_83_3 (nI s) (nI n) (nI (sN_F n)) (nI m) (nI q) _ hlt D').to (by rw [nI_1])⟩
      · rw [c] at D'
        refine ⟨fun v z => ?_, fun z => (by cases z)⟩
        cases z
        have hH : sv_H (pt_wA (ms_M M n B m) 37 0 (upd (pt_A (ms_M M n B m) 37 0) (pt_nt (nI m)) (nI q))) (nI q) := ow_H (M := M) (f := pt_A M 42 0) (w := wm_F (pt_A M 43 0) n B m) hn ho (show q + 1 < n by omega)
        refine (gX7_sweep_83_2 (nI s) (nI n) (nI (sN_F n)) (nI m) (nI q) _ hlt D' (by rw [en]; exact nI_nE (by omega) (by omega) (by omega)) (pt_in_nI (by omega) (by decide)) hH).to ?_
        rw [nI_1, pt_nt_nI (show m < 2 ^ 31 by omega)]
  refine ⟨fun q hq => (K.1 q hq).toM ?_, fun hq => K.2 hq⟩
  obtain ⟨hq1, hq2⟩ := lp_ok hq
  have e1 := ow_sv (M := pt_wA M 37 0 (co_F (pt_A M 37 0) (fun p => nI (pl_F n B p)) (m + 1))) (n := n) (q := q) (f := pt_A M 42 0) (w := wm_F (pt_A M 43 0) n B m) (o := (sq_S n B m).1) (y := nI m) hn ho hq1
  have e2 : pt_wA (ms_M M n B m) 37 0 (upd (pt_A (ms_M M n B m) 37 0) m (nI q)) = ow_M (pt_wA M 37 0 (co_F (pt_A M 37 0) (fun p => nI (pl_F n B p)) (m + 1))) n (pt_A M 42 0) (sq_S n B m).1 (wm_F (pt_A M 43 0) n B m) := by
    have e3 : nI q = nI (pl_F n B m) := by
      unfold pl_F
      rw [hq]
      rfl
    unfold ms_M
    rw [pt_wA_wA, pt_A_wA, e3, co_step (pt_A M 37 0) (fun p => nI (pl_F n B p)) m]
    unfold ow_M
    rw [pt_wA_sw (by decide : (43 : Nat) ≠ 37), pt_wA_sw (M := M) (by decide : (42 : Nat) ≠ 37)]
  rw [e2, e1]
  unfold ms_M
  rw [sq_y hq, wm_y hq]
  unfold ow_M
  rw [pt_wA_sw (M := pt_wA M 42 0 _) (by decide : (43 : Nat) ≠ 37), pt_wA_sw (M := M) (by decide : (42 : Nat) ≠ 37)]
