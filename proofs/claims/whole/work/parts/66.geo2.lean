/-! LAWFUL TABLES: orders around a point, edges, rims -/
theorem lw_cyc {n a b c : Nat} {B : Nat → Nat → Nat → Bool} (h : lw_P n B) (ha : a < n) (hb : b < n) (hc : c < n) (h1 : a ≠ b) (h2 : b ≠ c) (h3 : a ≠ c) : B b c a = B a b c := (h.2.1 a b c ha hb hc h1 h2 h3).1
theorem lw_swp {n a b c : Nat} {B : Nat → Nat → Nat → Bool} (h : lw_P n B) (ha : a < n) (hb : b < n) (hc : c < n) (h1 : a ≠ b) (h2 : b ≠ c) (h3 : a ≠ c) : B b a c = !B a b c := (h.2.1 a b c ha hb hc h1 h2 h3).2
theorem lw_an {n a b c : Nat} {B : Nat → Nat → Nat → Bool} (h : lw_P n B) (ha : a < n) (hb : b < n) (hc : c < n) (h1 : a ≠ b) (h2 : b ≠ c) (h3 : a ≠ c) : B a c b = !B a b c := by
  rw [lw_cyc h hb ha hc (fun z => h1 z.symm) h3 h2, lw_swp h ha hb hc h1 h2 h3]
theorem lw_ta {n t s p q r : Nat} {B : Nat → Nat → Nat → Bool} (h : lw_P n B) (ht : t < n) (hs : s < n) (hp : p < n) (hq : q < n) (hr : r < n) (n1 : t ≠ s) (n2 : t ≠ p) (n3 : t ≠ q) (n4 : t ≠ r) (n5 : s ≠ p) (n6 : s ≠ q) (n7 : s ≠ r) (n8 : p ≠ q) (n9 : p ≠ r) (n10 : q ≠ r) (h1 : B t s p = true) (h2 : B t s q = true) (h3 : B t s r = true) (h4 : B t p q = true) (h5 : B t q r = true) : B t p r = true := by
  have o := h.2.2.2 t s p q r ht hs hp hq hr n1 n2 n3 n4 n5 n6 n7 n8 n9 n10
  unfold os_F at o
  rw [h1, h2, h3, h4, h5] at o
  cases c : B t p r
  · rw [c] at o
    exact absurd o (by decide)
  · rfl
theorem lw_tb {n t s p q r : Nat} {B : Nat → Nat → Nat → Bool} (h : lw_P n B) (ht : t < n) (hs : s < n) (hp : p < n) (hq : q < n) (hr : r < n) (n1 : t ≠ s) (n2 : t ≠ p) (n3 : t ≠ q) (n4 : t ≠ r) (n5 : s ≠ p) (n6 : s ≠ q) (n7 : s ≠ r) (n8 : p ≠ q) (n9 : p ≠ r) (n10 : q ≠ r) (h1 : B t p s = true) (h2 : B t q s = true) (h3 : B t r s = true) (h4 : B t p q = true) (h5 : B t q r = true) : B t p r = true := by
  have o := h.2.2.2 t s p q r ht hs hp hq hr n1 n2 n3 n4 n5 n6 n7 n8 n9 n10
  unfold os_F at o
  have e1 := lw_an h ht hp hs n2 (fun z => n5 z.symm) n1
  have e2 := lw_an h ht hq hs n3 (fun z => n6 z.symm) n1
  have e3 := lw_an h ht hr hs n4 (fun z => n7 z.symm) n1
  rw [h1] at e1
  rw [h2] at e2
  rw [h3] at e3
  rw [e1, e2, e3, h4, h5] at o
  cases c : B t p r
  · rw [c] at o
    exact absurd o (by decide)
  · rfl
/-- a first one -/
theorem fst_of {T : Nat → Nat → Bool} {R : Nat → Bool} (tot : ∀ x y, R x = true → R y = true → x ≠ y → T x y = true ∨ T y x = true) (tr : ∀ x y z, R x = true → R y = true → R z = true → x ≠ y → y ≠ z → x ≠ z → T x y = true → T y z = true → T x z = true) : ∀ k, (∃ x, x < k ∧ R x = true) → ∃ x, x < k ∧ R x = true ∧ ∀ y, y < k → R y = true → y ≠ x → T x y = true
  | 0, ⟨x, hx, _⟩ => absurd hx (Nat.not_lt_zero x)
  | k + 1, hx => by
    by_cases hk : R k = true
    · by_cases he : ∃ x, x < k ∧ R x = true
      · obtain ⟨x, x1, x2, x3⟩ := fst_of tot tr k he
        rcases tot k x hk x2 (by omega) with c | c
        · refine ⟨k, by omega, hk, fun y hy hR hne => ?_⟩
          by_cases e : y = x
          · rw [e]
            exact c
          · exact tr k x y hk x2 hR (by omega) (fun z => e z.symm) (fun z => hne z.symm) c (x3 y (by omega) hR e)
        · refine ⟨x, by omega, x2, fun y hy hR hne => ?_⟩
          by_cases e : y = k
          · rw [e]
            exact c
          · exact x3 y (by omega) hR hne
      · refine ⟨k, by omega, hk, fun y hy hR hne => absurd ⟨y, by omega, hR⟩ he⟩
    · obtain ⟨x, x1, x2⟩ := hx
      have : x ≠ k := fun z => hk (z ▸ x2)
      obtain ⟨y, y1, y2, y3⟩ := fst_of tot tr k ⟨x, by omega, x2⟩
      refine ⟨y, by omega, y2, fun z hz hR hne => y3 z ?_ hR hne⟩
      have : z ≠ k := fun w => hk (w ▸ hR)
      omega
/-- of two points and more an edge -/
theorem lw_edge {n : Nat} {B : Nat → Nat → Nat → Bool} {R : Nat → Bool} (h : lw_P n B) : ∀ k, k ≤ n → (∃ x y, x < k ∧ y < k ∧ x ≠ y ∧ R x = true ∧ R y = true) → ∃ i j, i < k ∧ j < k ∧ i ≠ j ∧ R i = true ∧ R j = true ∧ ∀ z, z < k → R z = true → z ≠ i → z ≠ j → B i j z = true
  | 0, _, ⟨x, _, hx, _⟩ => absurd hx (Nat.not_lt_zero x)
  | k + 1, hkn, hxy => by
    by_cases hk : R k = true
    case neg =>
      obtain ⟨x, y, x1, y1, xy, x2, y2⟩ := hxy
      have a1 : x ≠ k := fun z => hk (z ▸ x2)
      have a2 : y ≠ k := fun z => hk (z ▸ y2)
      obtain ⟨i, j, i1, j1, ij, i2, j2, e⟩ := lw_edge h k (by omega) ⟨x, y, by omega, by omega, xy, x2, y2⟩
      refine ⟨i, j, by omega, by omega, ij, i2, j2, fun z hz hR => e z ?_ hR⟩
      have : z ≠ k := fun w => hk (w ▸ hR)
      omega
    by_cases he : ∃ x y, x < k ∧ y < k ∧ x ≠ y ∧ R x = true ∧ R y = true
    case neg =>
      have : ∃ x, x < k ∧ R x = true := by
        obtain ⟨x, y, x1, y1, xy, x2, y2⟩ := hxy
        by_cases c : x = k
        · exact ⟨y, by omega, y2⟩
        · exact ⟨x, by omega, x2⟩
      obtain ⟨x, x1, x2⟩ := this
      refine ⟨x, k, by omega, by omega, by omega, x2, hk, fun z hz hR z1 z2 => absurd ⟨x, z, x1, by omega, fun w => z1 w.symm, x2, hR⟩ he⟩
    obtain ⟨i, j, i1, j1, ij, i2, j2, e⟩ := lw_edge h k (by omega) he
    have ki : k ≠ i := by omega
    have kj : k ≠ j := by omega
    by_cases hb : B i j k = true
    · refine ⟨i, j, by omega, by omega, ij, i2, j2, fun z hz hR z1 z2 => ?_⟩
      by_cases c : z = k
      · rw [c]
        exact hb
      · exact e z (by omega) hR z1 z2
    have hb : B i j k = false := by simpa using hb
    have bji : B k j i = true := by
      rw [← lw_cyc h (show k < n by omega) (show j < n by omega) (show i < n by omega) kj (fun z => ij z.symm) ki, lw_swp h (show i < n by omega) (show j < n by omega) (show k < n by omega) ij (fun z => kj z.symm) (fun z => ki z.symm), hb]
      rfl
    obtain ⟨x, x1, x2, x3⟩ := fst_of (T := fun x y => B k x y) (R := fun x => R x && (decide (x < k) && (decide (x ≠ i) && B k x i))) (fun x y hx hy hne => by
        simp only [Bool.and_eq_true, decide_eq_true_eq] at hx hy
        have := lw_an h (show k < n by omega) (show x < n by omega) (show y < n by omega) (by omega) hne (by omega)
        cases c : B k x y
        · rw [c] at this
          exact Or.inr this
        · exact Or.inl rfl) (fun x y z hx hy hz n1 n2 n3 c1 c2 => by
        simp only [Bool.and_eq_true, decide_eq_true_eq] at hx hy hz
        exact lw_tb h (show k < n by omega) (show i < n by omega) (show x < n by omega) (show y < n by omega) (show z < n by omega) ki (by omega) (by omega) (by omega) (fun w => hx.2.2.1 w.symm) (fun w => hy.2.2.1 w.symm) (fun w => hz.2.2.1 w.symm) n1 n3 n2 hx.2.2.2 hy.2.2.2 hz.2.2.2 c1 c2) k ⟨j, j1, by
        simp only [Bool.and_eq_true, decide_eq_true_eq]
        exact ⟨j2, j1, fun w => ij w.symm, bji⟩⟩
    simp only [Bool.and_eq_true, decide_eq_true_eq] at x2
    obtain ⟨xR, -, xi, xB⟩ := x2
    refine ⟨k, x, by omega, by omega, by omega, hk, xR, fun z hz hR z1 z2 => ?_⟩
    have hz' : z < k := by omega
    by_cases zi : z = i
    · rw [zi]
      exact xB
    cases zB : B k z i
    case true =>
      exact x3 z hz' (by simp only [Bool.and_eq_true, decide_eq_true_eq]; exact ⟨hR, hz', zi, zB⟩) z2
    case false =>
      have kiz : B k i z = true := by
        have := lw_an h (show k < n by omega) (show z < n by omega) (show i < n by omega) (by omega) zi ki
        rw [zB] at this
        exact this
      have zj : z ≠ j := fun w => by rw [w, bji] at zB; cases zB
      have ijz := e z hz' hR zi zj
      cases c : B k x z
      case true => rfl
      case false =>
        exfalso
        have kzx : B k z x = true := by
          have := lw_an h (show k < n by omega) (show x < n by omega) (show z < n by omega) (by omega) (fun w => z2 w.symm) (by omega)
          rw [c] at this
          exact this
        -- the three x, i, z around k
        have d1 : B x i k = true := by rw [lw_cyc h (show k < n by omega) (show x < n by omega) (show i < n by omega) (by omega) xi ki]; exact xB
        have d2 : B i z k = true := by rw [lw_cyc h (show k < n by omega) (show i < n by omega) (show z < n by omega) ki (fun w => zi w.symm) (by omega)]; exact kiz
        have d3 : B z x k = true := by rw [lw_cyc h (show k < n by omega) (show z < n by omega) (show x < n by omega) (by omega) z2 (by omega)]; exact kzx
        have q := h.2.2.1 x i z k (by omega) (by omega) (by omega) (by omega) xi (fun w => z2 w.symm) (by omega) (fun w => zi w.symm) (fun w => ki w.symm) (by omega)
        unfold q4_F at q
        rw [d1, d2, d3] at q
        have xiz : B x i z = true := by
          cases c2 : B x i z
          · rw [c2] at q
            cases q
          · rfl
        by_cases xj : x = j
        · subst xj
          have := lw_swp h (show i < n by omega) (show x < n by omega) (show z < n by omega) ij (fun w => z2 w.symm) (fun w => zi w.symm)
          rw [ijz, xiz] at this
          cases this
        · have ijx := e x (by omega) xR xi xj
          have o := h.2.2.2 i j x z k (by omega) (by omega) (by omega) (by omega) (by omega) ij (fun w => xi w.symm) (fun w => zi w.symm) (fun w => ki w.symm) (fun w => xj w.symm) (fun w => zj w.symm) (fun w => kj w.symm) (fun w => z2 w.symm) (by omega) (by omega)
          have ixk : B i x k = false := by
            have := lw_swp h (show x < n by omega) (show i < n by omega) (show k < n by omega) xi (fun w => ki w.symm) (by omega)
            rw [d1] at this
            exact this
          have ixz : B i x z = false := by
            have := lw_swp h (show x < n by omega) (show i < n by omega) (show z < n by omega) xi (fun w => zi w.symm) (fun w => z2 w.symm)
            rw [xiz] at this
            exact this
          unfold os_F at o
          rw [ijx, ijz, hb, d2, ixk, ixz] at o
          exact absurd o (by decide)
