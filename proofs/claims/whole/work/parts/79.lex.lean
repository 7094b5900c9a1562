/-! The first of the rows is the least -/
def lx_P (f w : Nat → Int32) (N : Nat) : Prop := ∃ v, v < N ∧ (∀ q, q < v → f q = w q) ∧ f v < w v
theorem lx_ir {f : Nat → Int32} {N : Nat} : ¬ lx_P f f N := fun ⟨_, _, _, h⟩ => Int32.lt_irrefl h
theorem lx_tr {a b c : Nat → Int32} {N : Nat} (h1 : lx_P a b N) (h2 : lx_P b c N) : lx_P a c N := by
  obtain ⟨v, v1, v2, v3⟩ := h1
  obtain ⟨u, u1, u2, u3⟩ := h2
  rcases Nat.lt_trichotomy v u with z | z | z
  · exact ⟨v, v1, fun q hq => (v2 q hq).trans (u2 q (by omega)), by rw [← u2 v z]; exact v3⟩
  · subst z
    exact ⟨v, v1, fun q hq => (v2 q hq).trans (u2 q hq), Int32.lt_trans v3 u3⟩
  · exact ⟨u, u1, fun q hq => (v2 q (by omega)).trans (u2 q hq), by rw [v2 u z]; exact u3⟩
theorem lx_cg {a b a' b' : Nat → Int32} {N : Nat} (ha : ∀ p, p < N → a p = a' p) (hb : ∀ p, p < N → b p = b' p) (h : lx_P a b N) : lx_P a' b' N := by
  obtain ⟨v, v1, v2, v3⟩ := h
  exact ⟨v, v1, fun q hq => (ha q (by omega)).symm.trans ((v2 q hq).trans (hb q (by omega))), by rw [← ha v v1, ← hb v v1]; exact v3⟩
theorem lx_to {a b : Nat → Int32} {N : Nat} (h1 : ¬ lx_P a b N) (h2 : ¬ lx_P b a N) : ∀ p, p < N → a p = b p := by
  rcases cq_1 (f := a) (w := b) (N := N) with ⟨v, v1, v2, v3, -⟩ | ⟨v3, -⟩
  · by_cases c : a v < b v
    · exact absurd ⟨v, v1, v3, c⟩ h1
    · refine absurd ⟨v, v1, fun q hq => (v3 q hq).symm, ?_⟩ h2
      rcases Int32.lt_or_eq_of_le (Int32.not_lt.mp c) with z | z
      · exact z
      · exact absurd z.symm v2
  · exact v3
theorem lx_al {W row : Nat → Int32} {N : Nat} : ((List.range N).all fun p => !rt_F W row p) = true ↔ ¬ lx_P W row N := by
  rw [List.all_eq_true]
  constructor
  · intro h ⟨v, v1, v2, v3⟩
    have := h v (List.mem_range.mpr v1)
    unfold rt_F at this
    rw [eq_iff.mpr fun q hq => (v2 q hq).symm, decide_eq_true v3] at this
    cases this
  · intro h p hp
    unfold rt_F
    cases c : eq_F W row p
    · rfl
    · by_cases d : W p < row p
      · exact absurd ⟨p, List.mem_range.mp hp, fun q hq => (eq_iff.mp c q hq).symm, d⟩ h
      · rw [decide_eq_false d]
        rfl
theorem fr_ind {n : Nat} {B : Nat → Nat → Nat → Bool} {mr : Bool} (t : Nat) : ((∀ r, r < t → (ri_F n B (2 ^ n - 1)).testBit r = false) ∧ fr_R n B mr t = fun _ => 3) ∨ ((∃ r, (ri_F n B (2 ^ n - 1)).testBit r = true ∧ ∀ p, p < rk_0 n n → fr_R n B mr t p = rw_F n B (gz_F n B r mr) mr p) ∧ ∀ r, r < t → (ri_F n B (2 ^ n - 1)).testBit r = true → ¬ lx_P (rw_F n B (gz_F n B r mr) mr) (fr_R n B mr t) (rk_0 n n)) := by
  induction t with
  | zero => exact .inl ⟨fun t ht => by omega, by rw [fr_R]⟩
  | succ t ih =>
    rw [fr_s]
    cases c : (ri_F n B (2 ^ n - 1)).testBit t
    · rw [if_neg Bool.false_ne_true]
      refine ih.imp (fun z => ⟨fun r hr => ?_, z.2⟩) fun z => ⟨z.1, fun r hr hb => ?_⟩
      · by_cases e : r = t
        · rw [e]
          exact c
        · exact z.1 r (by omega)
      · by_cases e : r = t
        · rw [e, c] at hb
          cases hb
        · exact z.2 r (by omega) hb
    · rw [if_pos rfl]
      have eco : ∀ p, p < rk_0 n n → co_F (fr_R n B mr t) (rw_F n B (gz_F n B t mr) mr) (rk_0 n n) p = rw_F n B (gz_F n B t mr) mr p := fun p hp => if_pos hp
      right
      split
      · rename_i hal
        have hal := lx_al.mp hal
        refine ⟨⟨t, c, eco⟩, fun r hr hb z => ?_⟩
        have z := lx_cg (fun _ _ => rfl) eco z
        by_cases e : r = t
        · rw [e] at z
          exact lx_ir z
        · rcases ih with ⟨y, -⟩ | ⟨-, y⟩
          · rw [y r (by omega)] at hb
            cases hb
          · refine y r (by omega) hb ?_
            by_cases d : lx_P (rw_F n B (gz_F n B t mr) mr) (fr_R n B mr t) (rk_0 n n)
            · exact lx_tr z d
            · exact lx_cg (fun _ _ => rfl) (lx_to d hal) z
      · rename_i hno
        have hlx : lx_P (fr_R n B mr t) (rw_F n B (gz_F n B t mr) mr) (rk_0 n n) := Classical.byContradiction fun z => hno (lx_al.mpr z)
        rcases ih with ⟨-, y⟩ | ⟨y1, y2⟩
        · obtain ⟨v, v1, v2, v3⟩ := hlx
          rw [y] at v3
          rcases rw_12 (n := n) (B := B) (g := gz_F n B t mr) (mr := mr) (p := v) with w | w
          · rw [w] at v3
            exact absurd (show (3 : Int32) < 1 from v3) (by decide)
          · rw [w] at v3
            exact absurd (show (3 : Int32) < 2 from v3) (by decide)
        · refine ⟨y1, fun r hr hb z => ?_⟩
          by_cases e : r = t
          · rw [e] at z
            exact lx_ir (lx_tr z hlx)
          · exact y2 r (by omega) hb z
theorem rm_ri {n r : Nat} {B : Nat → Nat → Nat → Bool} (hn : n ≤ 10) (h3 : 3 ≤ n) (h : rm_P n B r) : (ri_F n B (2 ^ n - 1)).testBit r = true := by
  rw [ri_bit (by rw [pc_all hn]; exact h3) h.1, tb_all, decide_eq_true h.1, (rm_nx hn h.1).mpr h]
  rfl
theorem fr_min {n : Nat} {B : Nat → Nat → Nat → Bool} (h : lw_P n B) (h3 : 3 ≤ n) : (∃ r, rm_P n B r ∧ ∀ p, p < rk_0 n n → fr_R n B false n p = rw_F n B (gz_F n B r false) false p) ∧ ∀ r, rm_P n B r → ¬ lx_P (rw_F n B (gz_F n B r false) false) (fr_R n B false n) (rk_0 n n) := by
  have h2 := Nat.two_pow_pos n
  rcases fr_ind (n := n) (B := B) (mr := false) n with ⟨z, -⟩ | ⟨⟨r, z1, z2⟩, z3⟩
  · obtain ⟨q, hq⟩ := rim_ne h (m := 2 ^ n - 1) (by omega) ⟨0, by rw [tb_all]; exact decide_eq_true (by omega)⟩
    rw [z q (tb_lt (ri_2 (by omega)) hq)] at hq
    cases hq
  · exact ⟨⟨r, ri_rm h.1 h3 z1, z2⟩, fun q hq => z3 q hq.1 (rm_ri h.1 h3 hq)⟩
/-- the rows of A are among those of B -/
def rs_P (n : Nat) (A B : Nat → Nat → Nat → Bool) : Prop := ∀ r, rm_P n A r → ∃ r', rm_P n B r' ∧ ∀ p, p < rk_0 n n → rw_F n A (gz_F n A r false) false p = rw_F n B (gz_F n B r' false) false p
theorem fr_same {n : Nat} {A B : Nat → Nat → Nat → Bool} (hA : lw_P n A) (hB : lw_P n B) (h3 : 3 ≤ n) (h1 : rs_P n A B) (h2 : rs_P n B A) : ∀ p, p < rk_0 n n → fr_R n A false n p = fr_R n B false n p := by
  obtain ⟨⟨a, a1, a2⟩, a3⟩ := fr_min hA h3
  obtain ⟨⟨b, b1, b2⟩, b3⟩ := fr_min hB h3
  refine lx_to (fun z => ?_) fun z => ?_
  · obtain ⟨r, r1, r2⟩ := h1 a a1
    exact b3 r r1 (lx_cg (fun p hp => (a2 p hp).trans (r2 p hp)) (fun _ _ => rfl) z)
  · obtain ⟨r, r1, r2⟩ := h2 b b1
    exact a3 r r1 (lx_cg (fun p hp => (b2 p hp).trans (r2 p hp)) (fun _ _ => rfl) z)
