/-! The order around a point of the rim -/
def dg_P (n : Nat) (B : Nat → Nat → Nat → Bool) : Prop := ∀ i j k, pb_g n i j k = false → B i j k = false
def mb_F (n : Nat) (B : Nat → Nat → Nat → Bool) : Nat → Nat → Nat → Bool := fun i j k => pb_g n i j k && !B i j k
theorem mb_dg {n : Nat} {B : Nat → Nat → Nat → Bool} : dg_P n (mb_F n B) := fun i j k h => by
  unfold mb_F
  rw [h]
  rfl
theorem pb_gt {n i j k : Nat} (h1 : i < n) (h2 : j < n) (h3 : k < n) (h4 : i ≠ j) (h5 : j ≠ k) (h6 : i ≠ k) : pb_g n i j k = true := pb_g_iff.mpr ⟨h1, h2, h3, h4, h5, h6⟩
theorem mb_at {n i j k : Nat} {B : Nat → Nat → Nat → Bool} (h1 : i < n) (h2 : j < n) (h3 : k < n) (h4 : i ≠ j) (h5 : j ≠ k) (h6 : i ≠ k) : mb_F n B i j k = !B i j k := by
  unfold mb_F
  rw [pb_gt h1 h2 h3 h4 h5 h6]
  rfl
theorem dg_t {n i j k : Nat} {B : Nat → Nat → Nat → Bool} (h : dg_P n B) (hb : B i j k = true) : i < n ∧ j < n ∧ k < n ∧ i ≠ j ∧ j ≠ k ∧ i ≠ k := by
  cases c : pb_g n i j k
  · rw [h i j k c] at hb
    cases hb
  · exact pb_g_iff.mp c
theorem mb_mb {n : Nat} {B : Nat → Nat → Nat → Bool} (h : dg_P n B) : mb_F n (mb_F n B) = B := by
  funext i j k
  unfold mb_F
  cases c : pb_g n i j k
  · rw [h i j k c]
    rfl
  · simp
theorem lw_mb {n : Nat} {B : Nat → Nat → Nat → Bool} (h : lw_P n B) : lw_P n (mb_F n B) := by
  refine ⟨h.1, fun a b c ha hb hc h1 h2 h3 => ?_, fun a b c d ha hb hc hd h1 h2 h3 h4 h5 h6 => ?_, fun a b c d e ha hb hc hd he h1 h2 h3 h7 h4 h5 h8 h6 h9 h10 => ?_⟩
  · rw [mb_at hb hc ha h2 (Ne.symm h3) (Ne.symm h1), mb_at ha hb hc h1 h2 h3, mb_at hb ha hc (Ne.symm h1) h3 h2, lw_cyc h ha hb hc h1 h2 h3, lw_swp h ha hb hc h1 h2 h3]
    exact ⟨rfl, rfl⟩
  · have q := h.2.2.1 b a c d hb ha hc hd (Ne.symm h1) h4 h5 h2 h3 h6
    unfold q4_F at q ⊢
    rw [mb_at ha hb hd h1 h5 h3, mb_at hb hc hd h4 h6 h5, mb_at hc ha hd (Ne.symm h2) h3 h6, mb_at ha hb hc h1 h4 h2]
    rw [lw_swp h ha hb hd h1 h5 h3, lw_swp h hc ha hd (Ne.symm h2) h3 h6, lw_swp h hb hc hd h4 h6 h5, lw_swp h ha hb hc h1 h4 h2] at q
    revert q
    cases B a b d <;> cases B b c d <;> cases B c a d <;> cases B a b c <;> decide
  · have q := h.2.2.2 a b c d e ha hb hc hd he h1 h2 h3 h7 h4 h5 h8 h6 h9 h10
    unfold os_F at q ⊢
    rw [mb_at ha hb hc h1 h4 h2, mb_at ha hd he h3 h10 h7, mb_at ha hb hd h1 h5 h3, mb_at ha hc he h2 h9 h7, mb_at ha hb he h1 h8 h7, mb_at ha hc hd h2 h6 h3]
    revert q
    cases B a b c <;> cases B a d e <;> cases B a b d <;> cases B a c e <;> cases B a b e <;> cases B a c d <;> decide
def rm_P (n : Nat) (B : Nat → Nat → Nat → Bool) (r : Nat) : Prop := r < n ∧ ∃ j, j < n ∧ j ≠ r ∧ ∀ z, z < n → z ≠ r → z ≠ j → B r j z = true
theorem rm_nx {n r : Nat} {B : Nat → Nat → Nat → Bool} (hn : n ≤ 10) (hr : r < n) : (nx_F n B (2 ^ n - 1) r).isSome = true ↔ rm_P n B r := by
  have h2 := Nat.two_pow_pos n
  constructor
  · intro h
    obtain ⟨j, hj⟩ := Option.isSome_iff_exists.mp h
    obtain ⟨j1, q⟩ := nx_lt hj
    obtain ⟨ij, -, hz⟩ := nq_to hn q
    exact ⟨hr, j, j1, fun z => ij z.symm, fun z z1 => hz z z1 (by rw [tb_all]; exact decide_eq_true z1)⟩
  · rintro ⟨-, j, j1, j2, j3⟩
    exact nx_e j1 (nq_of (n := n) (by omega) (fun z => j2 z.symm) (by rw [tb_all]; exact decide_eq_true j1) fun z z1 _ => j3 z z1)
theorem rm_tr {n r p q s : Nat} {B : Nat → Nat → Nat → Bool} (h : lw_P n B) (hr : rm_P n B r) (hp : p < n) (hq : q < n) (hs : s < n) (p1 : p ≠ r) (q1 : q ≠ r) (s1 : s ≠ r) (pq : p ≠ q) (qs : q ≠ s) (ps : p ≠ s) (h1 : B r p q = true) (h2 : B r q s = true) : B r p s = true := by
  obtain ⟨r1, j, j1, j2, ed⟩ := hr
  by_cases c1 : p = j
  · rw [c1]
    exact ed s hs s1 (fun z => ps (by omega))
  by_cases c2 : q = j
  · have := ed p hp p1 c1
    rw [← c2, lw_an h r1 hp hq (Ne.symm p1) pq (Ne.symm q1), h1] at this
    cases this
  by_cases c3 : s = j
  · have := ed q hq q1 c2
    rw [← c3, lw_an h r1 hq hs (Ne.symm q1) qs (Ne.symm s1), h2] at this
    cases this
  exact lw_ta h r1 j1 hp hq hs (Ne.symm j2) (Ne.symm p1) (Ne.symm q1) (Ne.symm s1) (Ne.symm c1) (Ne.symm c2) (Ne.symm c3) pq ps qs (ed p hp p1 c1) (ed q hq q1 c2) (ed s hs s1 c3) h1 h2
theorem rm_mb {n r : Nat} {B : Nat → Nat → Nat → Bool} (h : lw_P n B) (h3 : 3 ≤ n) (hr : rm_P n B r) : rm_P n (mb_F n B) r := by
  have r1 := hr.1
  obtain ⟨k, k1, k2, kk⟩ := fst_of (T := fun x y => B r y x) (R := fun z => decide (z < n ∧ z ≠ r)) (fun x y hx hy xy => by
    have hx := of_decide_eq_true hx
    have hy := of_decide_eq_true hy
    show B r y x = true ∨ B r x y = true
    rw [lw_an h r1 hx.1 hy.1 (Ne.symm hx.2) xy (Ne.symm hy.2)]
    cases B r x y
    · exact .inl rfl
    · exact .inr rfl) (fun x y z hx hy hz xy yz xz t1 t2 => by
    have hx := of_decide_eq_true hx
    have hy := of_decide_eq_true hy
    have hz := of_decide_eq_true hz
    exact rm_tr h hr hz.1 hy.1 hx.1 hz.2 hy.2 hx.2 (Ne.symm yz) (Ne.symm xy) (Ne.symm xz) t2 t1) n (by
    rcases (by omega : 0 ≠ r ∨ 1 ≠ r) with c | c
    · exact ⟨0, by omega, decide_eq_true ⟨by omega, c⟩⟩
    · exact ⟨1, by omega, decide_eq_true ⟨by omega, c⟩⟩)
  have k2 := of_decide_eq_true k2
  refine ⟨r1, k, k1, k2.2, fun z z1 z2 z3 => ?_⟩
  have e : B r z k = true := kk z z1 (decide_eq_true ⟨z1, z2⟩) z3
  rw [mb_at r1 k1 z1 (Ne.symm k2.2) (Ne.symm z3) (Ne.symm z2), lw_an h r1 z1 k1 (Ne.symm z2) z3 (Ne.symm k2.2), e]
  rfl
theorem ri_mb {n : Nat} {B : Nat → Nat → Nat → Bool} (h : lw_P n B) (hd : dg_P n B) (h3 : 3 ≤ n) : ri_F n (mb_F n B) (2 ^ n - 1) = ri_F n B (2 ^ n - 1) := by
  have h2 := Nat.two_pow_pos n
  refine pb_ext (ri_2 (by omega)) (ri_2 (by omega)) fun i hi => ?_
  rw [ri_bit (by rw [pc_all h.1]; exact h3) hi, ri_bit (by rw [pc_all h.1]; exact h3) hi]
  refine congrArg _ (Bool.eq_iff_iff.mpr ?_)
  rw [rm_nx h.1 hi, rm_nx h.1 hi]
  refine ⟨fun z => ?_, rm_mb h h3⟩
  have := rm_mb (lw_mb h) h3 z
  rw [mb_mb hd] at this
  exact this
/-! ranks -/
def ra_F (B : Nat → Nat → Nat → Bool) (r t p : Nat) : Nat := 1 + ct_N (fun k => B r k p) t
theorem ra_y {n r t p q : Nat} {B : Nat → Nat → Nat → Bool} (h : lw_P n B) (hd : dg_P n B) (hr : rm_P n B r) (hq : q < n) (hp : p < t) (hpn : p < n) (p1 : p ≠ r) (q1 : q ≠ r) (pq : p ≠ q) (hb : B r p q = true) : ra_F B r t p ≤ ct_N (fun k => B r k q) t := by
  have := ct_lt (f := fun k => B r k p) (g := fun k => B r k q) (fun x hx => by
    obtain ⟨-, x1, -, x2, x3, -⟩ := dg_t hd hx
    show B r x q = true
    by_cases c : x = q
    · have hx : B r q p = true := c ▸ hx
      rw [lw_an h hr.1 hpn hq (Ne.symm p1) pq (Ne.symm q1), hb] at hx
      cases hx
    · exact rm_tr h hr x1 hpn hq (Ne.symm x2) p1 q1 x3 pq c hx hb) (y := p) hb (hd r p p (pb_gf fun z => z.2.2.2.2.1 rfl)) t hp
  unfold ra_F
  omega
theorem ra_n {n r t p q : Nat} {B : Nat → Nat → Nat → Bool} (h : lw_P n B) (hd : dg_P n B) (hr : rm_P n B r) (hq : q < n) (hpn : p < n) (p1 : p ≠ r) (q1 : q ≠ r) (pq : p ≠ q) (hb : B r p q = false) : ct_N (fun k => B r k q) t < ra_F B r t p := by
  have hb2 : B r q p = true := by rw [lw_an h hr.1 hpn hq (Ne.symm p1) pq (Ne.symm q1), hb]; rfl
  have := ct_sub (f := fun k => B r k q) (g := fun k => B r k p) (fun x hx => by
    obtain ⟨-, x1, -, x2, x3, -⟩ := dg_t hd hx
    show B r x p = true
    by_cases c : x = p
    · have hx : B r p q = true := c ▸ hx
      rw [hb] at hx
      cases hx
    · exact rm_tr h hr x1 hq hpn (Ne.symm x2) q1 p1 x3 (Ne.symm pq) c hx hb2) t
  unfold ra_F
  omega
theorem ra_inj {n r p q : Nat} {B : Nat → Nat → Nat → Bool} (h : lw_P n B) (hd : dg_P n B) (hr : rm_P n B r) (hp : p < n) (hq : q < n) (p1 : p ≠ r) (q1 : q ≠ r) (pq : p ≠ q) : ra_F B r n p ≠ ra_F B r n q := by
  cases hb : B r p q
  · have a := ra_n (t := n) h hd hr hq hp p1 q1 pq hb
    have b := ra_y h hd hr hp hq hq q1 p1 (Ne.symm pq) (by rw [lw_an h hr.1 hp hq (Ne.symm p1) pq (Ne.symm q1), hb]; rfl)
    unfold ra_F at a b ⊢
    omega
  · have b := ra_y h hd hr hq hp hp p1 q1 pq hb
    have e : ra_F B r n q = 1 + ct_N (fun k => B r k q) n := rfl
    omega
theorem ct_1 {r : Nat} : ∀ n, ct_N (fun k => decide (k = r)) n = if r < n then 1 else 0
  | 0 => rfl
  | n + 1 => by
    show ct_N (fun k => decide (k = r)) n + (if decide (n = r) = true then 1 else 0) = _
    rw [ct_1 n]
    by_cases c : n = r
    · rw [if_neg (by omega), if_pos (decide_eq_true c), if_pos (by omega)]
    · rw [if_neg (fun z => c (of_decide_eq_true z)) (c := decide (n = r) = true)]
      by_cases c2 : r < n
      · rw [if_pos c2, if_pos (by omega)]
      · rw [if_neg c2, if_neg (by omega)]
theorem ct_4 {f g u v : Nat → Bool} : ∀ n, (∀ k, k < n → (if f k then 1 else 0) + (if g k then 1 else 0) + (if u k then 1 else 0) + (if v k then 1 else 0) = 1) → ct_N f n + ct_N g n + ct_N u n + ct_N v n = n
  | 0, _ => rfl
  | n + 1, h => by
    have a := ct_4 n fun k hk => h k (by omega)
    have b := h n (by omega)
    show (ct_N f n + (if f n then 1 else 0)) + (ct_N g n + (if g n then 1 else 0)) + (ct_N u n + (if u n then 1 else 0)) + (ct_N v n + (if v n then 1 else 0)) = n + 1
    omega
theorem ct_two_sides {n r p : Nat} {B : Nat → Nat → Nat → Bool} (h : lw_P n B) (hd : dg_P n B) (hr : r < n) (hp : p < n) (pr : p ≠ r) : ct_N (fun k => B r k p) n + ct_N (fun k => B r p k) n + 2 = n := by
  have := ct_4 (f := fun k => B r k p) (g := fun k => B r p k) (u := fun k => decide (k = r)) (v := fun k => decide (k = p)) n fun k hk => by
    show (if B r k p = true then 1 else 0) + (if B r p k = true then 1 else 0) + (if decide (k = r) = true then 1 else 0) + (if decide (k = p) = true then 1 else 0) = 1
    by_cases c1 : k = r
    · rw [hd r k p (pb_gf fun z => z.2.2.2.1 c1.symm), hd r p k (pb_gf fun z => z.2.2.2.2.2 c1.symm), decide_eq_true c1, decide_eq_false (p := k = p) (fun z => pr (by omega))]
      rfl
    by_cases c2 : k = p
    · rw [hd r k p (pb_gf fun z => z.2.2.2.2.1 c2), hd r p k (pb_gf fun z => z.2.2.2.2.1 c2.symm), decide_eq_false c1, decide_eq_true c2]
      rfl
    rw [decide_eq_false c1, decide_eq_false c2, lw_an h hr hk hp (Ne.symm c1) c2 (Ne.symm pr)]
    cases B r k p <;> rfl
  rw [ct_1, ct_1, if_pos hr, if_pos hp] at this
  omega
theorem pc_d {n r p : Nat} {B : Nat → Nat → Nat → Bool} (hn : n ≤ 10) (hd : dg_P n B) : pc_F (pb_s 10 fun k => B r p k) = ct_N (fun k => B r p k) n := by
  rw [pc_ct, show 10 = n + (10 - n) by omega]
  exact ct_more _ fun k hk => hd r p k (pb_gf fun z => absurd z.2.2.1 (by omega))
theorem lq_of {n : Nat} {B : Nat → Nat → Nat → Bool} (h : lw_P n B) (hd : dg_P n B) : lq_P n B := fun r p hr hp pr => by
  rw [pc_d h.1 hd]
  have := ct_two_sides h hd hr hp pr
  omega
theorem nm_f {n r p : Nat} {B : Nat → Nat → Nat → Bool} (h : lw_P n B) (hd : dg_P n B) (hr : r < n) (hp : p < n) (pr : p ≠ r) : nm_F n B r false p = ra_F B r n p := by
  show n - 1 - pc_F (pb_s 10 fun k => B r p k) = 1 + ct_N (fun k => B r k p) n
  rw [pc_d h.1 hd]
  have := ct_two_sides h hd hr hp pr
  omega
theorem nm_t {n r p : Nat} {B : Nat → Nat → Nat → Bool} (h : lw_P n B) (hd : dg_P n B) (hr : r < n) (hp : p < n) (pr : p ≠ r) : nm_F n B r true p = ra_F (mb_F n B) r n p := by
  show pc_F (pb_s 10 fun k => B r p k) + 1 = 1 + ct_N (fun k => mb_F n B r k p) n
  rw [pc_d h.1 hd, ct_cong (f := fun k => B r p k) (g := fun k => mb_F n B r k p) fun k hk => ?_]
  · omega
  · show B r p k = mb_F n B r k p
    by_cases c1 : k = r
    · rw [mb_dg r k p (pb_gf fun z => z.2.2.2.1 c1.symm), hd r p k (pb_gf fun z => z.2.2.2.2.2 c1.symm)]
    by_cases c2 : k = p
    · rw [mb_dg r k p (pb_gf fun z => z.2.2.2.2.1 c2), hd r p k (pb_gf fun z => z.2.2.2.2.1 c2.symm)]
    rw [mb_at hr hk hp (Ne.symm c1) c2 (Ne.symm pr), lw_an h hr hk hp (Ne.symm c1) c2 (Ne.symm pr)]
theorem na_at {n r : Nat} {B : Nat → Nat → Nat → Bool} {mr : Bool} {f : Nat → Int32} (h0 : ∀ p, p < n → p ≠ r → nm_F n B r mr p ≠ 0) (hi : ∀ p q, p < n → q < n → p ≠ r → q ≠ r → p ≠ q → nm_F n B r mr p ≠ nm_F n B r mr q) : ∀ t, t ≤ n → na_F f n B r mr t 0 = nI r ∧ ∀ p, p < t → p ≠ r → na_F f n B r mr t (nm_F n B r mr p) = nI p
  | 0, _ => ⟨(show (if (0 : Nat) = 0 then nI r else f 0) = nI r from if_pos rfl), fun p hp => by omega⟩
  | t + 1, ht => by
    obtain ⟨a, b⟩ := na_at (f := f) h0 hi t (by omega)
    have e : na_F f n B r mr (t + 1) = if t = r then na_F f n B r mr t else upd (na_F f n B r mr t) (nm_F n B r mr t) (nI t) := rfl
    by_cases c : t = r
    · rw [e, if_pos c]
      exact ⟨a, fun p hp pr => b p (by omega) pr⟩
    · rw [e, if_neg c]
      refine ⟨?_, fun p hp pr => ?_⟩
      · show (if 0 = nm_F n B r mr t then nI t else na_F f n B r mr t 0) = nI r
        rw [if_neg (fun z => h0 t (by omega) c z.symm)]
        exact a
      · show (if nm_F n B r mr p = nm_F n B r mr t then nI t else na_F f n B r mr t (nm_F n B r mr p)) = nI p
        by_cases c2 : p = t
        · rw [c2, if_pos rfl]
        · rw [if_neg (hi p t (by omega) (by omega) pr c c2)]
          exact b p (by omega) pr
