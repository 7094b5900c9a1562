/-! SWEEPS: the order step by step, the pairs that have been swapped -/
def ox_F (o : Nat → Nat) (q : Nat) : Nat → Nat := fun p => if p = q then o (q + 1) else if p = q + 1 then o q else o p
def oo_F (b : Nat → Nat) : Nat → Nat → Nat
  | 0 => fun p => p
  | k + 1 => ox_F (oo_F b k) (b k)
def sx_P (q p : Nat) : Nat := if p = q then q + 1 else if p = q + 1 then q else p
theorem ox_eq (o : Nat → Nat) (q p : Nat) : ox_F o q p = o (sx_P q p) := by
  unfold ox_F sx_P
  by_cases h1 : p = q
  · rw [if_pos h1, if_pos h1]
  · rw [if_neg h1, if_neg h1]
    by_cases h2 : p = q + 1
    · rw [if_pos h2, if_pos h2]
    · rw [if_neg h2, if_neg h2]
theorem sx_cases (q p : Nat) : (p = q ∧ sx_P q p = q + 1) ∨ (p = q + 1 ∧ sx_P q p = q) ∨ (p ≠ q ∧ p ≠ q + 1 ∧ sx_P q p = p) := by
  unfold sx_P
  by_cases h1 : p = q
  · exact Or.inl ⟨h1, if_pos h1⟩
  · rw [if_neg h1]
    by_cases h2 : p = q + 1
    · exact Or.inr (Or.inl ⟨h2, if_pos h2⟩)
    · exact Or.inr (Or.inr ⟨h1, h2, if_neg h2⟩)
theorem sx_lt {n q p : Nat} (hq : q + 2 ≤ n) (hp : p < n) : sx_P q p < n := by
  rcases sx_cases q p with h | h | h <;> omega
theorem sx_sx (q p : Nat) : sx_P q (sx_P q p) = p := by
  have h1 := sx_cases q p
  have h2 := sx_cases q (sx_P q p)
  omega
theorem sx_inj {q p r : Nat} (h : sx_P q p = sx_P q r) : p = r := by
  rw [← sx_sx q p, h, sx_sx]
/-- an order of n points -/
def or_P (n : Nat) (o : Nat → Nat) : Prop := (∀ p, p < n → o p < n) ∧ ∀ p r, p < n → r < n → o p = o r → p = r
theorem or_id (n : Nat) : or_P n fun p => p := ⟨fun _ h => h, fun _ _ _ _ h => h⟩
theorem or_ox {n q : Nat} {o : Nat → Nat} (h : or_P n o) (hq : q + 2 ≤ n) : or_P n (ox_F o q) := by
  refine ⟨fun p hp => ?_, fun p r hp hr he => ?_⟩
  · rw [ox_eq]
    exact h.1 _ (sx_lt hq hp)
  · rw [ox_eq, ox_eq] at he
    exact sx_inj (h.2 _ _ (sx_lt hq hp) (sx_lt hq hr) he)
/-- which pairs have been swapped -/
def wp_F (W : Nat → Nat → Bool) (a c i j : Nat) : Bool := W i j || decide (i = a ∧ j = c)
/-- a greater one is ahead of the lesser, where they have been swapped -/
def ah_P (n : Nat) (o : Nat → Nat) (W : Nat → Nat → Bool) : Prop := ∀ i j, W i j = true → i < j ∧ ∃ p r, p < r ∧ r < n ∧ o p = j ∧ o r = i
theorem ah_step {n q : Nat} {o : Nat → Nat} {W : Nat → Nat → Bool} (ho : or_P n o) (h : ah_P n o W) (hq : q + 2 ≤ n) (hac : o q < o (q + 1)) : ah_P n (ox_F o q) (wp_F W (o q) (o (q + 1))) := by
  intro i j hw
  unfold wp_F at hw
  rw [Bool.or_eq_true, decide_eq_true_eq] at hw
  rcases hw with hw | ⟨rfl, rfl⟩
  · obtain ⟨hij, p, r, h1, h2, h3, h4⟩ := h i j hw
    refine ⟨hij, sx_P q p, sx_P q r, ?_, sx_lt hq h2, ?_, ?_⟩
    · have hne : ¬ (p = q ∧ r = q + 1) := by
        rintro ⟨rfl, rfl⟩
        omega
      have c1 := sx_cases q p
      have c2 := sx_cases q r
      omega
    · rw [ox_eq, sx_sx]
      exact h3
    · rw [ox_eq, sx_sx]
      exact h4
  · refine ⟨hac, q, q + 1, by omega, by omega, ?_, ?_⟩
    · exact if_pos rfl
    · show (if q + 1 = q then _ else if q + 1 = q + 1 then o q else _) = o q
      rw [if_neg (by omega), if_pos rfl]
theorem ah_new {n q : Nat} {o : Nat → Nat} {W : Nat → Nat → Bool} (ho : or_P n o) (h : ah_P n o W) (hq : q + 2 ≤ n) : W (o q) (o (q + 1)) = false := by
  cases c : W (o q) (o (q + 1))
  · rfl
  · obtain ⟨hij, p, r, h1, h2, h3, h4⟩ := h _ _ c
    have e1 := ho.2 p (q + 1) (by omega) (by omega) h3
    have e2 := ho.2 r q h2 (by omega) h4
    omega
/-! counting pairs -/
theorem ct_up1 {f g : Nat → Bool} {c : Nat} (h : ∀ j, j ≠ c → g j = f j) (h0 : f c = false) (h1 : g c = true) : ∀ k, ct_N g k = ct_N f k + if c < k then 1 else 0
  | 0 => rfl
  | k + 1 => by
    show ct_N g k + (if g k then 1 else 0) = ct_N f k + (if f k then 1 else 0) + _
    rw [ct_up1 h h0 h1 k]
    by_cases e : k = c
    · subst e
      rw [h0, h1, if_neg (Nat.lt_irrefl k), if_pos (Nat.lt_succ_self k)]
      rfl
    · rw [h k e]
      by_cases e2 : c < k
      · rw [if_pos e2, if_pos (show c < k + 1 by omega)]
        exact Nat.add_right_comm _ _ _
      · rw [if_neg e2, if_neg (show ¬ c < k + 1 by omega)]
        rfl
theorem ls_up {n a c : Nat} {f g : Nat → Nat → Bool} (hac : a < c) (hc : c < n) (h : ∀ i j, ¬ (i = a ∧ j = c) → g i j = f i j) (h0 : f a c = false) (h1 : g a c = true) : ∀ k, ls_F n g k = ls_F n f k + if a < k then 1 else 0
  | 0 => rfl
  | k + 1 => by
    show ls_F n g k + lr_F n g k = ls_F n f k + lr_F n f k + _
    rw [ls_up hac hc h h0 h1 k]
    by_cases e : k = a
    · subst e
      have e3 : lr_F n g k = lr_F n f k + if c < n then 1 else 0 := ct_up1 (f := fun j => decide (k < j) && f k j) (g := fun j => decide (k < j) && g k j) (fun j hj => by rw [h k j (fun z => hj z.2)]) (by rw [h0]; simp) (by rw [h1]; simp; omega) n
      rw [e3, if_pos hc, if_neg (Nat.lt_irrefl k), if_pos (Nat.lt_succ_self k)]
      omega
    · have e3 : lr_F n g k = lr_F n f k := ct_cong fun j _ => by rw [h k j (fun z => e z.1)]
      rw [e3]
      by_cases e2 : a < k
      · rw [if_pos e2, if_pos (by omega)]
        omega
      · rw [if_neg e2, if_neg (by omega)]
        omega
theorem ct_lem {f : Nat → Bool} {i : Nat} : ∀ k, ct_N (fun j => decide (i < j) && f j) k ≤ k - (i + 1) ∧ (ct_N (fun j => decide (i < j) && f j) k = k - (i + 1) → ∀ j, i < j → j < k → f j = true)
  | 0 => ⟨Nat.le_refl 0 |> fun _ => by show 0 ≤ _; omega, fun _ j _ hj => absurd hj (Nat.not_lt_zero j)⟩
  | k + 1 => by
    obtain ⟨h1, h2⟩ := ct_lem (f := f) (i := i) k
    have e : ct_N (fun j => decide (i < j) && f j) (k + 1) = ct_N (fun j => decide (i < j) && f j) k + if (decide (i < k) && f k) then 1 else 0 := rfl
    by_cases c : i < k
    · rw [decide_eq_true c, Bool.true_and] at e
      cases c2 : f k
      · rw [c2] at e
        have e' : ct_N (fun j => decide (i < j) && f j) (k + 1) = ct_N (fun j => decide (i < j) && f j) k := e
        exact ⟨by omega, fun z => by omega⟩
      · rw [c2] at e
        have e' : ct_N (fun j => decide (i < j) && f j) (k + 1) = ct_N (fun j => decide (i < j) && f j) k + 1 := e
        refine ⟨by omega, fun z j hj hk => ?_⟩
        by_cases e2 : j = k
        · rw [e2]
          exact c2
        · exact h2 (by omega) j hj (by omega)
    · rw [decide_eq_false c] at e
      have e' : ct_N (fun j => decide (i < j) && f j) (k + 1) = ct_N (fun j => decide (i < j) && f j) k := e
      refine ⟨by omega, fun z j hj hk => by omega⟩
def tri_F (n : Nat) : Nat → Nat
  | 0 => 0
  | i + 1 => tri_F n i + (n - (i + 1))
theorem ls_lem {n : Nat} {f : Nat → Nat → Bool} : ∀ k, ls_F n f k ≤ tri_F n k ∧ (ls_F n f k = tri_F n k → ∀ i j, i < k → i < j → j < n → f i j = true)
  | 0 => ⟨Nat.le_refl 0, fun _ i _ hi => absurd hi (Nat.not_lt_zero i)⟩
  | k + 1 => by
    obtain ⟨h1, h2⟩ := ls_lem (n := n) (f := f) k
    obtain ⟨h3, h4⟩ := ct_lem (f := f k) (i := k) n
    have e : ls_F n f (k + 1) = ls_F n f k + ct_N (fun j => decide (k < j) && f k j) n := rfl
    have e2 : tri_F n (k + 1) = tri_F n k + (n - (k + 1)) := rfl
    refine ⟨by omega, fun z i j hi hj hn => ?_⟩
    by_cases c : i = k
    · subst c
      exact h4 (by omega) j hj hn
    · exact h2 (by omega) i j (by omega) hj hn
theorem tri_tab : ((List.range 11).all fun n => decide (tri_F n n = sN_F n)) = true := by decide +kernel
/-- a row of places that is a sweep so far -/
def rk_P (n : Nat) (b : Nat → Nat) (k : Nat) : Prop := ∀ t, t < k → rd_F n (b t) (oo_F b t) = true
def ww_F (b : Nat → Nat) : Nat → Nat → Nat → Bool
  | 0 => fun _ _ => false
  | k + 1 => wp_F (ww_F b k) (oo_F b k (b k)) (oo_F b k (b k + 1))
theorem ww_ok {n : Nat} {b : Nat → Nat} : ∀ k, rk_P n b k → or_P n (oo_F b k) ∧ ah_P n (oo_F b k) (ww_F b k) ∧ ls_F n (ww_F b k) n = k
  | 0, _ => ⟨or_id n, fun i j h => (by cases h), by
      have e : ∀ k, ls_F n (ww_F b 0) k = 0 := fun k => by
        induction k with
        | zero => rfl
        | succ k ih =>
          show ls_F n (ww_F b 0) k + lr_F n (ww_F b 0) k = 0
          rw [ih]
          exact (Nat.zero_add _).trans (ct_ff fun i _ => by simp [ww_F])
      exact e n⟩
  | k + 1, h => by
    obtain ⟨h1, h2, h3⟩ := ww_ok k fun t ht => h t (by omega)
    have hr := h k (by omega)
    unfold rd_F at hr
    rw [Bool.and_eq_true, decide_eq_true_eq, decide_eq_true_eq] at hr
    have hlt : oo_F b k (b k) < oo_F b k (b k + 1) := by
      rcases Nat.lt_or_eq_of_le hr.2 with z | z
      · exact z
      · have := h1.2 _ _ (by omega) (by omega) z
        omega
    have hnew := ah_new h1 h2 hr.1
    have hb := h1.1 (b k + 1) (by omega)
    refine ⟨or_ox h1 hr.1, ah_step h1 h2 hr.1 hlt, ?_⟩
    have e := ls_up (n := n) (f := ww_F b k) (g := wp_F (ww_F b k) (oo_F b k (b k)) (oo_F b k (b k + 1))) hlt hb (fun i j z => by unfold wp_F; rw [decide_eq_false z, Bool.or_false]) hnew (by unfold wp_F; rw [decide_eq_true ⟨rfl, rfl⟩, Bool.or_true]) n
    rw [if_pos (by omega), h3] at e
    exact e
theorem ww_all {n : Nat} {b : Nat → Nat} (hn : n ≤ 10) (h : rk_P n b (sN_F n)) {i j : Nat} (hij : i < j) (hj : j < n) : ww_F b (sN_F n) i j = true := by
  obtain ⟨-, -, h3⟩ := ww_ok (sN_F n) h
  have e := of_decide_eq_true (pt_all tri_tab (i := n) (by omega))
  exact (ls_lem (n := n) (f := ww_F b (sN_F n)) n).2 (by omega) i j (by omega) hij hj
/-- the steps at which pairs were swapped -/
def sf_F (f : Nat → Int32) (b : Nat → Nat) : Nat → Nat → Int32
  | 0 => f
  | k + 1 => upd (sf_F f b k) (10 * oo_F b k (b k) + oo_F b k (b k + 1)) (nI k)
theorem sf_same {n : Nat} {f g : Nat → Int32} {b : Nat → Nat} (hn : n ≤ 10) : ∀ k, rk_P n b k → ∀ i j, i < n → j < n → ww_F b k i j = true → sf_F f b k (10 * i + j) = sf_F g b k (10 * i + j)
  | 0, _, i, j, _, _, h => by cases h
  | k + 1, h, i, j, hi, hj, hw => by
    obtain ⟨h1, -, -⟩ := ww_ok k fun t ht => h t (by omega)
    have hr := h k (by omega)
    unfold rd_F at hr
    rw [Bool.and_eq_true, decide_eq_true_eq, decide_eq_true_eq] at hr
    have ha := h1.1 (b k) (by omega)
    have hc := h1.1 (b k + 1) (by omega)
    show upd _ _ _ _ = upd _ _ _ _
    unfold upd
    by_cases e : 10 * i + j = 10 * oo_F b k (b k) + oo_F b k (b k + 1)
    · rw [if_pos e, if_pos e]
    · rw [if_neg e, if_neg e]
      refine sf_same hn k (fun t ht => h t (by omega)) i j hi hj ?_
      have hw' : wp_F (ww_F b k) (oo_F b k (b k)) (oo_F b k (b k + 1)) i j = true := hw
      unfold wp_F at hw'
      rw [Bool.or_eq_true, decide_eq_true_eq] at hw'
      rcases hw' with z | z
      · exact z
      · exact absurd (by rw [z.1, z.2]) e
