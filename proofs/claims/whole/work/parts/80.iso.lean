/-! Tables that differ by names only -/
def pz_F (n : Nat) (B : Nat → Nat → Nat → Bool) (r x : Nat) : Nat := if x = r then 0 else ra_F B r n x
theorem gz_p {n r : Nat} {B : Nat → Nat → Nat → Bool} (h : lw_P n B) (hd : dg_P n B) (h3 : 3 ≤ n) (hr : rm_P n B r) {x : Nat} (hx : x < n) : pz_F n B r x < n ∧ gz_F n B r false (pz_F n B r x) = x := by
  unfold pz_F
  by_cases c : x = r
  · rw [if_pos c]
    rcases (gz_all h hd h3 hr false 0 (by omega)).2.2.2 with ⟨-, z⟩ | ⟨-, z⟩
    · exact ⟨by omega, z.trans c.symm⟩
    · unfold ra_F at z
      omega
  · rw [if_neg c]
    have hc := ct_two_sides h hd hr.1 hx c
    have hlt : ra_F B r n x < n := by
      unfold ra_F
      omega
    refine ⟨hlt, ?_⟩
    have hg := gz_all h hd h3 hr false _ hlt
    rcases hg.2.2.2 with ⟨z, -⟩ | ⟨z1, z2⟩
    · unfold ra_F at z
      omega
    · exact Classical.byContradiction fun e => ra_inj h hd hr hg.1 hx z1 c e z2
theorem gz_q {n r e : Nat} {B : Nat → Nat → Nat → Bool} (h : lw_P n B) (hd : dg_P n B) (h3 : 3 ≤ n) (hr : rm_P n B r) (he : e < n) : pz_F n B r (gz_F n B r false e) = e := by
  have hg := gz_all h hd h3 hr false e he
  obtain ⟨p1, p2⟩ := gz_p h hd h3 hr hg.1
  exact Classical.byContradiction fun z => gz_inj (mr := false) h hd h3 hr p1 he z p2
theorem gz_so {n r a b : Nat} {B : Nat → Nat → Nat → Bool} (h : lw_P n B) (hd : dg_P n B) (h3 : 3 ≤ n) (hr : rm_P n B r) (h0 : 0 < a) (hab : a < b) (hb : b < n) : B r (gz_F n B r false a) (gz_F n B r false b) = true := by
  have ga := gz_all h hd h3 hr false a (by omega)
  have gb := gz_all h hd h3 hr false b hb
  have a2 : gz_F n B r false a ≠ r ∧ ra_F B r n (gz_F n B r false a) = a := ga.2.2.2.resolve_left fun z => by omega
  have b2 : gz_F n B r false b ≠ r ∧ ra_F B r n (gz_F n B r false b) = b := gb.2.2.2.resolve_left fun z => by omega
  have ne := gz_inj (mr := false) h hd h3 hr (by omega) hb (show a ≠ b by omega)
  cases c : B r (gz_F n B r false a) (gz_F n B r false b)
  · have := ra_n (t := n) h hd hr gb.1 ga.1 a2.1 b2.1 ne c
    have e : ra_F B r n (gz_F n B r false b) = 1 + ct_N (fun k => B r k (gz_F n B r false b)) n := rfl
    omega
  · rfl
theorem gz_0 {n r : Nat} {B : Nat → Nat → Nat → Bool} (h : lw_P n B) (hd : dg_P n B) (h3 : 3 ≤ n) (hr : rm_P n B r) : gz_F n B r false 0 = r := by
  rcases (gz_all h hd h3 hr false 0 (by omega)).2.2.2 with ⟨-, z⟩ | ⟨-, z⟩
  · exact z
  · unfold ra_F at z
    omega
/-- π names A's points as B's, ρ back -/
def is_P (n : Nat) (A B : Nat → Nat → Nat → Bool) (π ρ : Nat → Nat) : Prop := (∀ x, x < n → π x < n ∧ ρ (π x) = x) ∧ (∀ y, y < n → ρ y < n ∧ π (ρ y) = y) ∧ ∀ x y z, x < n → y < n → z < n → x ≠ y → y ≠ z → x ≠ z → A x y z = B (π x) (π y) (π z)
theorem is_ne {n : Nat} {A B : Nat → Nat → Nat → Bool} {π ρ : Nat → Nat} (h : is_P n A B π ρ) {x y : Nat} (hx : x < n) (hy : y < n) (hxy : x ≠ y) : π x ≠ π y := fun z => hxy (by rw [← (h.1 x hx).2, z, (h.1 y hy).2])
theorem is_sym {n : Nat} {A B : Nat → Nat → Nat → Bool} {π ρ : Nat → Nat} (h : is_P n A B π ρ) : is_P n B A ρ π := by
  refine ⟨h.2.1, h.1, fun x y z hx hy hz h1 h2 h3 => ?_⟩
  have ne : ∀ {x y}, x < n → y < n → x ≠ y → ρ x ≠ ρ y := fun {x y} hx hy hxy z => hxy (by rw [← (h.2.1 x hx).2, z, (h.2.1 y hy).2])
  rw [h.2.2 _ _ _ (h.2.1 x hx).1 (h.2.1 y hy).1 (h.2.1 z hz).1 (ne hx hy h1) (ne hy hz h2) (ne hx hz h3), (h.2.1 x hx).2, (h.2.1 y hy).2, (h.2.1 z hz).2]
theorem is_rm {n r : Nat} {A B : Nat → Nat → Nat → Bool} {π ρ : Nat → Nat} (h : is_P n A B π ρ) (hr : rm_P n A r) : rm_P n B (π r) := by
  obtain ⟨r1, j, j1, j2, j3⟩ := hr
  refine ⟨(h.1 r r1).1, π j, (h.1 j j1).1, is_ne h j1 r1 j2, fun z z1 z2 z3 => ?_⟩
  obtain ⟨w1, w2⟩ := h.2.1 z z1
  have e1 : ρ z ≠ r := fun e => z2 (by rw [← w2, e])
  have e2 : ρ z ≠ j := fun e => z3 (by rw [← w2, e])
  have := j3 (ρ z) w1 e1 e2
  rw [h.2.2 r j (ρ z) r1 j1 w1 (Ne.symm j2) (Ne.symm e2) (Ne.symm e1), w2] at this
  exact this
theorem is_gz {n r : Nat} {A B : Nat → Nat → Nat → Bool} {π ρ : Nat → Nat} (h : is_P n A B π ρ) (hA : lw_P n A) (hB : lw_P n B) (dA : dg_P n A) (dB : dg_P n B) (h3 : 3 ≤ n) (hr : rm_P n A r) : ∀ e, e < n → gz_F n B (π r) false e = π (gz_F n A r false e) := by
  have hr2 := is_rm h hr
  intro e
  induction e using Nat.strongRecOn with
  | ind e ih =>
    intro he
    by_cases c0 : e = 0
    · rw [c0, gz_0 hA dA h3 hr, gz_0 hB dB h3 hr2]
    refine Classical.byContradiction fun ne => ?_
    have gA := (gz_all hA dA h3 hr false e he).1
    have gB := (gz_all hB dB h3 hr2 false e he).1
    have hx := (h.1 _ gA).1
    -- the place of π (gz A e) among B's names
    obtain ⟨b1, b2⟩ := gz_p hB dB h3 hr2 hx
    generalize pz_F n B (π r) (π (gz_F n A r false e)) = b at b1 b2
    -- the place of gz B e among the images
    obtain ⟨w1, w2⟩ := h.2.1 _ gB
    obtain ⟨a1, a2⟩ := gz_p hA dA h3 hr w1
    generalize pz_F n A r (ρ (gz_F n B (π r) false e)) = a at a1 a2
    have hb : e < b := by
      rcases Nat.lt_trichotomy e b with z | z | z
      · exact z
      · exact absurd (by rw [← b2, z]) ne
      · have e1 := (ih b z (by omega)).symm.trans b2
        have e2 : gz_F n A r false b = gz_F n A r false e := by
          have g1 := (gz_all hA dA h3 hr false b b1).1
          rw [← (h.1 _ g1).2, e1, (h.1 _ gA).2]
        exact absurd e2 (gz_inj hA dA h3 hr b1 he (by omega))
    have ha : e < a := by
      rcases Nat.lt_trichotomy e a with z | z | z
      · exact z
      · exact absurd (by rw [← z] at a2; rw [a2, w2]) ne
      · have e1 := ih a z (by omega)
        rw [a2, w2] at e1
        exact absurd e1 (gz_inj hB dB h3 hr2 a1 he (by omega))
    have s1 := gz_so hB dB h3 hr2 (by omega) hb b1
    rw [b2] at s1
    have s2 := gz_so hA dA h3 hr (by omega) ha a1
    rw [a2] at s2
    obtain ⟨-, -, -, d1, d2, d3⟩ := dg_t dA s2
    rw [h.2.2 r _ _ hr.1 gA w1 d1 d2 d3, w2] at s2
    obtain ⟨t1, t2, t3, t4, t5, t6⟩ := dg_t dB s2
    rw [lw_an hB t1 t2 t3 t4 t5 t6, s2] at s1
    cases s1
theorem is_rs {n : Nat} {A B : Nat → Nat → Nat → Bool} {π ρ : Nat → Nat} (h : is_P n A B π ρ) (hA : lw_P n A) (hB : lw_P n B) (dA : dg_P n A) (dB : dg_P n B) (h3 : 3 ≤ n) : rs_P n A B := by
  intro r hr
  refine ⟨π r, is_rm h hr, fun p hp => ?_⟩
  obtain ⟨i, j, k, h1, h2, h4, h5, h6⟩ := tr_of hA.1 hp
  have g := is_gz h hA hB dA dB h3 hr
  have x1 := (gz_all hA dA h3 hr false i (by omega)).1
  have x2 := (gz_all hA dA h3 hr false j (by omega)).1
  have x3 := (gz_all hA dA h3 hr false k h4).1
  have d1 := gz_inj (mr := false) hA dA h3 hr (a := i) (b := j) (by omega) (by omega) (by omega)
  have d2 := gz_inj (mr := false) hA dA h3 hr (a := j) (b := k) (by omega) (by omega) (by omega)
  have d3 := gz_inj (mr := false) hA dA h3 hr (a := i) (b := k) (by omega) (by omega) (by omega)
  rw [← h5, rw_at hA.1 h1 h2 h4, rw_at hA.1 h1 h2 h4, g i (by omega), g j (by omega), g k h4, h.2.2 _ _ _ x1 x2 x3 d1 d2 d3]
/-- alike tables have the same first row -/
theorem is_fr {n : Nat} {A B : Nat → Nat → Nat → Bool} {π ρ : Nat → Nat} (h : is_P n A B π ρ) (hA : lw_P n A) (hB : lw_P n B) (dA : dg_P n A) (dB : dg_P n B) (h3 : 3 ≤ n) : ∀ p, p < rk_0 n n → fr_R n A false n p = fr_R n B false n p := fr_same hA hB h3 (is_rs h hA hB dA dB h3) (is_rs (is_sym h) hB hA dB dA h3)
