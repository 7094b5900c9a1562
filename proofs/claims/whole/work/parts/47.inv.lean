/-! WHAT HOLDS BETWEEN CALLS: the class's and the model's cells tell the same tape, tables, line and OUT -/
abbrev iv_A : Type := Nat × (Nat → Nat) × (Nat → Nat) × (Nat → Nat → Nat → Nat → Bool) × Int32 × Nat × (Nat → Int32)
def iv_L (A : iv_A) : Nat := A.1
def iv_b (A : iv_A) : Nat → Nat := A.2.1
def iv_N (A : iv_A) : Nat → Nat := A.2.2.1
def iv_S (A : iv_A) : Nat → Nat → Nat → Nat → Bool := A.2.2.2.1
def iv_o (A : iv_A) : Int32 := A.2.2.2.2.1
def iv_O (A : iv_A) : Nat := A.2.2.2.2.2.1
def iv_u (A : iv_A) : Nat → Int32 := A.2.2.2.2.2.2
def nB_F (n : Nat) (s : Nat → Nat → Nat → Bool) : Nat → Nat → Nat → Bool := fun a c d => pb_g n a c d && pb_x s a c d
def iv_B (A : iv_A) (s : Nat) : Nat → Nat → Nat → Bool := nB_F (iv_N A s) (iv_S A s)
/-- names by r, and the first of the rows, of a table alone -/
def gz_F (n : Nat) (B : Nat → Nat → Nat → Bool) (r : Nat) (mr : Bool) (a : Nat) : Nat := pt_nt (na_F (fun _ => 0) n B r mr n a)
def fr_R (n : Nat) (B : Nat → Nat → Nat → Bool) (mr : Bool) : Nat → Nat → Int32
  | 0 => fun _ => 3
  | r + 1 => if (ri_F n B (2 ^ n - 1)).testBit r then (if ((List.range (rk_0 n n)).all fun p => !rt_F (fr_R n B mr r) (rw_F n B (gz_F n B r mr) mr) p) = true then co_F (fr_R n B mr r) (rw_F n B (gz_F n B r mr) mr) (rk_0 n n) else fr_R n B mr r) else fr_R n B mr r
def fk_P (M : pt_M) (t n : Nat) (B : Nat → Nat → Nat → Bool) : Prop := pt_F M 3 3 t = 0 ∨ (¬ pt_F M 3 3 t = 0 ∧ ∀ p, p < rk_0 n n → pt_A M 12 t p = fr_R n B false n p ∧ pt_A M 13 t p = fr_R n B true n p)
/-- the class's table t in a slot -/
def cs_P (M : pt_M) (t n : Nat) (B : Nat → Nat → Nat → Bool) : Prop := (n = 0 ∧ pt_F M 3 0 t = 0) ∨ (3 ≤ n ∧ tb_P M t n B ∧ fa_P M t n B ∧ fk_P M t n B)
def CR_P (M : pt_M) (A : iv_A) : Prop := tp_P M (iv_L A) (iv_b A) ∧ (∀ p, p < 7 → pt_R M p < 7) ∧ (∀ p q, p < 7 → q < 7 → pt_R M p = pt_R M q → p = q) ∧ (∀ s, s < 6 → cs_P M (pt_R M (s + 1)) (iv_N A s) (iv_B A s)) ∧ (∀ i, i < 10 → pt_in (pt_A M 15 0 i) 10) ∧ pt_F M 2 7 0 = iv_o A ∧ pt_F M 2 6 0 = nI (iv_O A) ∧ iv_O A ≤ 120 ∧ ∀ p, p < iv_O A → pt_A M 20 0 p = iv_u A p
def kn_F (n : Nat) : Nat := match n with
  | 3 => 1
  | 4 => 2
  | 5 => 3
  | _ => 16
def kd_P (M : pt_M) : Prop := ∀ n, 3 ≤ n → n ≤ 6 → pt_A M 44 0 n = -1 ∨ (pt_A M 44 0 n = nI (kn_F n) ∧ ∀ q, q < kn_F n → pt_A M 45 0 (64 * n + q) = nI (kv_F n q))
def ms_P (M : pt_M) (s n : Nat) (B : Nat → Nat → Nat → Bool) : Prop := pt_A M 31 0 s = nI n ∧ (n = 0 ∨ (3 ≤ n ∧ ml_P M (120 * s) n B))
def MR_P (M : pt_M) (A : iv_A) : Prop := pt_F M 7 2 0 = nI (iv_L A) ∧ mp_P M (iv_L A) (iv_b A) ∧ (∀ s, s < 6 → ms_P M s (iv_N A s) (iv_B A s)) ∧ pt_F M 7 8 0 = iv_o A ∧ pt_F M 7 16 0 = nI (iv_O A) ∧ (∀ p, p < iv_O A → pt_A M 41 0 p = iv_u A p) ∧ kd_P M
def IV_P (M : pt_M) : Prop := ∃ A, CR_P M A ∧ MR_P M A
/-- the class's cells are the same; the model's are -/
def ca_P (M M' : pt_M) : Prop := (∀ k, k ≠ 7 → pt_F M' k = pt_F M k) ∧ (∀ k, k < 30 → pt_A M' k = pt_A M k) ∧ pt_R M' = pt_R M
def mo_P (M M' : pt_M) : Prop := pt_F M' 7 = pt_F M 7 ∧ ∀ k, 30 ≤ k → pt_A M' k = pt_A M k
theorem ca_P.rf {M : pt_M} : ca_P M M := ⟨fun _ _ => rfl, fun _ _ => rfl, rfl⟩
theorem mo_P.rf {M : pt_M} : mo_P M M := ⟨rfl, fun _ _ => rfl⟩
theorem ca_P.tr {M M' M'' : pt_M} (h : ca_P M M') (h' : ca_P M' M'') : ca_P M M'' := ⟨fun k hk => (h'.1 k hk).trans (h.1 k hk), fun k hk => (h'.2.1 k hk).trans (h.2.1 k hk), h'.2.2.trans h.2.2⟩
theorem mo_P.tr {M M' M'' : pt_M} (h : mo_P M M') (h' : mo_P M' M'') : mo_P M M'' := ⟨h'.1.trans h.1, fun k hk => (h'.2 k hk).trans (h.2 k hk)⟩
theorem ca_wA {M : pt_M} {k i : Nat} {g : Nat → Int32} (h : 30 ≤ k) : ca_P M (pt_wA M k i g) := ⟨fun _ _ => rfl, fun k' hk => funext fun i' => if_neg fun z => by omega, rfl⟩
theorem ca_wF {M : pt_M} {f i : Nat} {v : Int32} : ca_P M (pt_wF M 7 f i v) := ⟨fun k' hk => funext fun f' => funext fun i' => if_neg fun z => hk z.1, fun _ _ => rfl, rfl⟩
theorem ca_wG {M : pt_M} {k : Nat} {g : Nat → Int64} : ca_P M (pt_wG M k g) := ⟨fun _ _ => rfl, fun _ _ => rfl, rfl⟩
theorem mo_wA {M : pt_M} {k i : Nat} {g : Nat → Int32} (h : k < 30) : mo_P M (pt_wA M k i g) := ⟨rfl, fun k' hk => funext fun i' => if_neg fun z => by omega⟩
theorem mo_wF {M : pt_M} {k f i : Nat} {v : Int32} (h : k ≠ 7) : mo_P M (pt_wF M k f i v) := ⟨funext fun f' => funext fun i' => if_neg fun z => h z.1.symm, fun _ _ => rfl⟩
theorem mo_wR {M : pt_M} {p v : Nat} : mo_P M (pt_wR M p v) := ⟨rfl, fun _ _ => rfl⟩
theorem tb_ca {M M' : pt_M} {t n : Nat} {B : Nat → Nat → Nat → Bool} (h : tb_P M t n B) (e1 : pt_F M' 3 0 t = pt_F M 3 0 t) (e2 : pt_A M' 11 t = pt_A M 11 t) : tb_P M' t n B := ⟨h.1, h.2.1, by rw [e1]; exact h.2.2.1, fun i j hi hj => by rw [e2]; exact h.2.2.2 i j hi hj⟩
theorem cs_ca {M M' : pt_M} {t n : Nat} {B : Nat → Nat → Nat → Bool} (h : cs_P M t n B) (e0 : ∀ f, pt_F M' 3 f t = pt_F M 3 f t) (e1 : pt_A M' 11 t = pt_A M 11 t) (e2 : pt_A M' 12 t = pt_A M 12 t) (e3 : pt_A M' 13 t = pt_A M 13 t) : cs_P M' t n B := by
  rcases h with ⟨h1, h2⟩ | ⟨h1, h2, h3, h4⟩
  · exact Or.inl ⟨h1, (e0 0).trans h2⟩
  · refine Or.inr ⟨h1, tb_ca h2 (e0 0) e1, ?_, ?_⟩
    · unfold fa_P
      rw [e0 2]
      exact h3
    · unfold fk_P
      rw [e0 3, e2, e3]
      exact h4
theorem CR_ca {M M' : pt_M} {A : iv_A} (h : CR_P M A) (c : ca_P M M') : CR_P M' A := by
  obtain ⟨h1, h2, h3, h4, h5, h6, h7, h8, h9⟩ := h
  obtain ⟨c1, c2, c3⟩ := c
  refine ⟨⟨?_, h1.2.1, fun p hp => ?_⟩, ?_, ?_, fun s hs => ?_, fun i hi => ?_, ?_, ?_, h8, fun p hp => ?_⟩
  · rw [c1 4 (by decide)]
    exact h1.1
  · rw [c2 14 (by decide)]
    exact h1.2.2 p hp
  · rw [c3]
    exact h2
  · rw [c3]
    exact h3
  · rw [c3]
    exact cs_ca (h4 s hs) (fun f => by rw [c1 3 (by decide)]) (by rw [c2 11 (by decide)]) (by rw [c2 12 (by decide)]) (by rw [c2 13 (by decide)])
  · rw [c2 15 (by decide)]
    exact h5 i hi
  · rw [c1 2 (by decide)]
    exact h6
  · rw [c1 2 (by decide)]
    exact h7
  · rw [c2 20 (by decide)]
    exact h9 p hp
theorem MR_mo {M M' : pt_M} {A : iv_A} (h : MR_P M A) (c : mo_P M M') : MR_P M' A := by
  obtain ⟨h1, h2, h3, h4, h5, h6, h7⟩ := h
  obtain ⟨c1, c2⟩ := c
  refine ⟨?_, mp_A h2 (by rw [c2 30 (by decide)]), fun s hs => ⟨?_, ?_⟩, ?_, ?_, fun p hp => ?_, fun n a b => ?_⟩
  · rw [c1]
    exact h1
  · rw [c2 31 (by decide)]
    exact (h3 s hs).1
  · exact (h3 s hs).2.imp id fun z => ⟨z.1, ml_A z.2 (by rw [c2 32 (by decide)])⟩
  · rw [c1]
    exact h4
  · rw [c1]
    exact h5
  · rw [c2 41 (by decide)]
    exact h6 p hp
  · rw [c2 44 (by decide), c2 45 (by decide)]
    exact h7 n a b
/-- a slot's number -/
theorem sl_of {x : Int32} (h : sl_P x) : ∃ s, s < 6 ∧ x = nI s := by
  obtain ⟨j, hj, rfl⟩ := nI_of h.1
  have h2 := h.2
  rw [show (6 : Int32) = nI 6 from rfl, nI_leI (by decide) hj] at h2
  exact ⟨j, by omega, rfl⟩
theorem nI_le0 {a : Nat} (ha : a < 2 ^ 31) : nI a ≤ 0 ↔ a = 0 := by
  rw [show (0 : Int32) = nI 0 from rfl, nI_leI ha (by decide)]
  omega
theorem CR_R {M : pt_M} {A : iv_A} (h : CR_P M A) {s : Nat} (hs : s < 6) : pt_R M (pt_nt (nI s) + 1) = pt_R M (s + 1) := by rw [pt_nt_nI (by omega)]
theorem CR_y {M : pt_M} {A : iv_A} {s : Nat} (h : CR_P M A) (hs : s < 6) (hn : iv_N A s ≠ 0) : 3 ≤ iv_N A s ∧ iv_N A s ≤ 10 ∧ tA_P M (nI s) ∧ tb_P M (pt_R M (s + 1)) (iv_N A s) (iv_B A s) ∧ fa_P M (pt_R M (s + 1)) (iv_N A s) (iv_B A s) ∧ fk_P M (pt_R M (s + 1)) (iv_N A s) (iv_B A s) := by
  rcases h.2.2.2.1 s hs with ⟨z, -⟩ | ⟨h1, h2, h3, h4⟩
  · exact absurd z hn
  · refine ⟨h1, h2.2.1, ⟨sl_nI hs, pt_in_nI hs (by decide), ?_, ?_⟩, h2, h3, h4⟩
    · rw [CR_R h hs]
      exact h2.1
    · rw [CR_R h hs, h2.2.2.1, nI_le0 (by have := h2.2.1; omega)]
      exact hn
theorem CR_n {M : pt_M} {A : iv_A} {s : Nat} (h : CR_P M A) (hs : s < 6) (hn : iv_N A s = 0) : tN_P M (nI s) ∧ pt_F M 3 0 (pt_R M (s + 1)) = 0 := by
  rcases h.2.2.2.1 s hs with ⟨-, z⟩ | ⟨h1, -⟩
  · refine ⟨Or.inr ⟨sl_nI hs, pt_in_nI hs (by decide), ?_, ?_⟩, z⟩
    · rw [CR_R h hs]
      exact h.2.1 _ (by omega)
    · rw [CR_R h hs, z]
      decide
  · omega
theorem MR_y {M : pt_M} {A : iv_A} {s : Nat} (h : MR_P M A) (hs : s < 6) (hn : iv_N A s ≠ 0) : mA_P M (nI s) ∧ pt_A M 31 0 s = nI (iv_N A s) ∧ ml_P M (120 * s) (iv_N A s) (iv_B A s) := by
  obtain ⟨h1, h2⟩ := h.2.2.1 s hs
  rcases h2 with z | ⟨-, h3⟩
  · exact absurd z hn
  · refine ⟨⟨sl_nI hs, pt_in_nI hs (by decide), ?_⟩, h1, h3⟩
    rw [pt_nt_nI (by omega), h1, nI_le0 (by have := h3.2.1; omega)]
    exact hn
theorem MR_n {M : pt_M} {A : iv_A} {s : Nat} (h : MR_P M A) (hs : s < 6) (hn : iv_N A s = 0) : mN_P M (nI s) ∧ pt_A M 31 0 s = 0 := by
  obtain ⟨h1, -⟩ := h.2.2.1 s hs
  rw [hn] at h1
  exact ⟨Or.inr ⟨sl_nI hs, pt_in_nI hs (by decide), by rw [pt_nt_nI (by omega), h1]; decide⟩, h1⟩
/-- a call on both sides: the same answer, and all holds again -/
def op_P (y : MethodName) (Y : pt_Y) (y' : MethodName) (Y' : pt_Y) (vs : List pt_V) (M : pt_M) : Prop := ∃ M1 M2 r, pt_Does y Y (pt_r 2 0 :: vs) M (some (pt_i r)) M1 ∧ pt_Does y' Y' (pt_r 7 0 :: vs) M1 (some (pt_i r)) M2 ∧ IV_P M2
theorem op_of {y : MethodName} {Y : pt_Y} {y' : MethodName} {Y' : pt_Y} {vs : List pt_V} {M M1 M2 : pt_M} {r : Int32} {A A' : iv_A} (hC : CR_P M A) (hM : MR_P M A) (d1 : pt_Does y Y (pt_r 2 0 :: vs) M (some (pt_i r)) M1) (m1 : mo_P M M1) (c1 : CR_P M1 A') (d2 : MR_P M1 A → pt_Does y' Y' (pt_r 7 0 :: vs) M1 (some (pt_i r)) M2 ∧ ca_P M1 M2 ∧ MR_P M2 A') : op_P y Y y' Y' vs M := by
  obtain ⟨g1, g2, g3⟩ := d2 (MR_mo hM m1)
  exact ⟨M1, M2, r, g1 |> fun _ => d1, g1, A', CR_ca c1 g2, g3⟩
/-! what the model's calls do to its cells -/
theorem t0_ca {M : pt_M} : ca_P M (t0_M M) := ca_wF
theorem MR_t0 {M : pt_M} {A : iv_A} (h : MR_P M A) : MR_P (t0_M M) A := h
theorem ca_36 {M : pt_M} {g : Nat → Int32} : ca_P M (pt_wA M 36 0 g) := ca_wA (by decide)
theorem MR_w {M : pt_M} {A : iv_A} {k : Nat} {g : Nat → Int32} (h : MR_P M A) (h0 : k ≠ 30) (h1 : k ≠ 31) (h2 : k ≠ 32) (h3 : k ≠ 41) (h4 : k ≠ 44) (h5 : k ≠ 45) : MR_P (pt_wA M k 0 g) A := by
  have e : ∀ k', k' ≠ k → pt_A (pt_wA M k 0 g) k' 0 = pt_A M k' 0 := fun k' hk => if_neg fun z => hk z.1
  obtain ⟨q1, q2, q3, q4, q5, q6, q7⟩ := h
  refine ⟨q1, mp_A q2 (e 30 (fun z => h0 z.symm)), fun s hs => ⟨?_, ?_⟩, q4, q5, fun p hp => ?_, fun n a b => ?_⟩
  · rw [e 31 (fun z => h1 z.symm)]
    exact (q3 s hs).1
  · exact (q3 s hs).2.imp id fun z => ⟨z.1, ml_A z.2 (e 32 (fun z => h2 z.symm))⟩
  · rw [e 41 (fun z => h3 z.symm)]
    exact q6 p hp
  · rw [e 44 (fun z => h4 z.symm), e 45 (fun z => h5 z.symm)]
    exact q7 n a b
