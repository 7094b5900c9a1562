/-! The names are the insertion's order, in a table and in its mirror -/
def bm_F (n : Nat) (B : Nat → Nat → Nat → Bool) (mr : Bool) : Nat → Nat → Nat → Bool := if mr then mb_F n B else B
theorem lw_bm {n : Nat} {B : Nat → Nat → Nat → Bool} (h : lw_P n B) : ∀ mr, lw_P n (bm_F n B mr)
  | false => h
  | true => lw_mb h
theorem dg_bm {n : Nat} {B : Nat → Nat → Nat → Bool} (h : dg_P n B) : ∀ mr, dg_P n (bm_F n B mr)
  | false => h
  | true => mb_dg
theorem rm_bm {n r : Nat} {B : Nat → Nat → Nat → Bool} (h : lw_P n B) (h3 : 3 ≤ n) (hr : rm_P n B r) : ∀ mr, rm_P n (bm_F n B mr) r
  | false => hr
  | true => rm_mb h h3 hr
theorem nm_bm {n r p : Nat} {B : Nat → Nat → Nat → Bool} (h : lw_P n B) (hd : dg_P n B) (hr : r < n) (hp : p < n) (pr : p ≠ r) : ∀ mr, nm_F n B r mr p = ra_F (bm_F n B mr) r n p
  | false => nm_f h hd hr hp pr
  | true => nm_t h hd hr hp pr
theorem gz_all {n r : Nat} {B : Nat → Nat → Nat → Bool} (h : lw_P n B) (hd : dg_P n B) (h3 : 3 ≤ n) (hr : rm_P n B r) (mr : Bool) : ∀ e, e < n → gz_F n B r mr e < n ∧ (∀ f, na_F f n B r mr n e = nI (gz_F n B r mr e)) ∧ (∀ f, ao_F (bm_F n B mr) r f n e = nI (gz_F n B r mr e)) ∧ ((e = 0 ∧ gz_F n B r mr e = r) ∨ (gz_F n B r mr e ≠ r ∧ ra_F (bm_F n B mr) r n (gz_F n B r mr e) = e)) := by
  intro e he
  have hn := h.1
  have r1 := hr.1
  have hlm := lw_bm h mr
  have hdm := dg_bm hd mr
  have hrm := rm_bm h h3 hr mr
  have hna := fun f => na_at (n := n) (r := r) (B := B) (mr := mr) (f := f) (fun p hp pr => by
    rw [nm_bm h hd r1 hp pr]
    unfold ra_F
    omega) (fun p q hp hq pr qr pq => by
    rw [nm_bm h hd r1 hp pr, nm_bm h hd r1 hq qr]
    exact ra_inj hlm hdm hrm hp hq pr qr pq) n (Nat.le_refl n)
  have hao := fun f => ao_ok (f := f) hlm hdm hrm n (Nat.le_refl n)
  by_cases c : e = 0
  · have g0 : gz_F n B r mr e = r := by
      unfold gz_F
      rw [c, (hna _).1, pt_nt_nI (by omega)]
    rw [g0, c]
    exact ⟨r1, fun f => (hna f).1, fun f => (hao f).1, .inl ⟨rfl, rfl⟩⟩
  · have hm : ar_M r n = n := if_pos r1
    obtain ⟨p, p1, p2, p3, p4⟩ := (hao (fun _ => 0)).2 e (by omega) (by rw [hm]; exact he)
    have ep : nm_F n B r mr p = e := by rw [nm_bm h hd r1 p1 p2, p4]
    have hp := fun f => (hna f).2 p p1 p2
    rw [ep] at hp
    have g0 : gz_F n B r mr e = p := by
      unfold gz_F
      rw [hp, pt_nt_nI (by omega)]
    rw [g0]
    refine ⟨p1, hp, fun f => ?_, .inr ⟨p2, p4⟩⟩
    obtain ⟨q, q1, q2, q3, q4⟩ := (hao f).2 e (by omega) (by rw [hm]; exact he)
    by_cases pq : p = q
    · rw [pq]
      exact q3
    · exact absurd (p4.trans q4.symm) (ra_inj hlm hdm hrm p1 q1 p2 q2 pq)
theorem gz_inj {n r a b : Nat} {B : Nat → Nat → Nat → Bool} {mr : Bool} (h : lw_P n B) (hd : dg_P n B) (h3 : 3 ≤ n) (hr : rm_P n B r) (ha : a < n) (hb : b < n) (hab : a ≠ b) : gz_F n B r mr a ≠ gz_F n B r mr b := by
  intro z
  rcases (gz_all h hd h3 hr mr a ha).2.2.2 with ⟨a1, a2⟩ | ⟨a1, a2⟩
  · rcases (gz_all h hd h3 hr mr b hb).2.2.2 with ⟨b1, b2⟩ | ⟨b1, b2⟩
    · omega
    · exact b1 (z ▸ a2)
  · rcases (gz_all h hd h3 hr mr b hb).2.2.2 with ⟨b1, b2⟩ | ⟨b1, b2⟩
    · exact a1 (z ▸ b2)
    · rw [z] at a2
      omega
theorem rw_bm {n r p : Nat} {B : Nat → Nat → Nat → Bool} (h : lw_P n B) (hd : dg_P n B) (h3 : 3 ≤ n) (hr : rm_P n B r) (hp : p < rk_0 n n) : rw_F n B (gz_F n B r true) true p = rw_F n (mb_F n B) (gz_F n (mb_F n B) r false) false p := by
  obtain ⟨i, j, k, h1, h2, h4, h5, h6⟩ := tr_of h.1 hp
  have hn := h.1
  have e : ∀ x, x < n → gz_F n B r true x = gz_F n (mb_F n B) r false x := fun x hx => by
    have a := gz_all h hd h3 hr true x hx
    have b := gz_all (lw_mb h) mb_dg h3 (rm_mb h h3 hr) false x hx
    have c : nI (gz_F n B r true x) = nI (gz_F n (mb_F n B) r false x) := (a.2.2.1 fun _ => 0).symm.trans (b.2.2.1 fun _ => 0)
    exact (nI_eq (by omega) (by omega)).mp c
  have a1 := (gz_all h hd h3 hr true i (by omega)).1
  have b1 := (gz_all h hd h3 hr true j (by omega)).1
  have c1 := (gz_all h hd h3 hr true k h4).1
  have d1 := gz_inj (mr := true) h hd h3 hr (a := i) (b := j) (by omega) (by omega) (by omega)
  have d2 := gz_inj (mr := true) h hd h3 hr (a := j) (b := k) (by omega) (by omega) (by omega)
  have d3 := gz_inj (mr := true) h hd h3 hr (a := i) (b := k) (by omega) (by omega) (by omega)
  rw [← h5, rw_at hn h1 h2 h4, rw_at hn h1 h2 h4, ← e i (by omega), ← e j (by omega), ← e k h4, mb_at a1 b1 c1 d1 d2 d3]
  cases B (gz_F n B r true i) (gz_F n B r true j) (gz_F n B r true k) <;> rfl
theorem eq_cg {f w w' : Nat → Int32} : ∀ {p : Nat}, (∀ q, q < p → w q = w' q) → eq_F f w p = eq_F f w' p
  | 0, _ => rfl
  | p + 1, h => by rw [eq_succ, eq_succ, eq_cg fun q hq => h q (by omega), h p (by omega)]
theorem rt_cg {f w w' : Nat → Int32} {p : Nat} (h : ∀ q, q ≤ p → w q = w' q) : rt_F f w p = rt_F f w' p := by
  unfold rt_F
  rw [eq_cg fun q hq => h q (by omega), h p (by omega)]
theorem co_cg {f w w' : Nat → Int32} {N : Nat} (h : ∀ q, q < N → w q = w' q) : co_F f w N = co_F f w' N := by
  funext q
  unfold co_F
  split
  · exact h q (by assumption)
  · rfl
theorem al_cg {f w w' : Nat → Int32} {N : Nat} (h : ∀ q, q < N → w q = w' q) : ((List.range N).all fun p => !rt_F f w p) = (List.range N).all fun p => !rt_F f w' p := by
  rw [Bool.eq_iff_iff, List.all_eq_true, List.all_eq_true]
  constructor
  · intro z p hp
    rw [← rt_cg fun q hq => h q (by have := List.mem_range.mp hp; omega)]
    exact z p hp
  · intro z p hp
    rw [rt_cg fun q hq => h q (by have := List.mem_range.mp hp; omega)]
    exact z p hp
theorem ri_rm {n r : Nat} {B : Nat → Nat → Nat → Bool} (hn : n ≤ 10) (h3 : 3 ≤ n) (h : (ri_F n B (2 ^ n - 1)).testBit r = true) : rm_P n B r := by
  have h2 := Nat.two_pow_pos n
  have r1 : r < n := tb_lt (ri_2 (by omega)) h
  rw [ri_bit (by rw [pc_all hn]; exact h3) r1, Bool.and_eq_true] at h
  exact (rm_nx hn r1).mp h.2
theorem fr_s {n r : Nat} {B : Nat → Nat → Nat → Bool} {mr : Bool} : fr_R n B mr (r + 1) = if (ri_F n B (2 ^ n - 1)).testBit r then (if ((List.range (rk_0 n n)).all fun p => !rt_F (fr_R n B mr r) (rw_F n B (gz_F n B r mr) mr) p) = true then co_F (fr_R n B mr r) (rw_F n B (gz_F n B r mr) mr) (rk_0 n n) else fr_R n B mr r) else fr_R n B mr r := by
  rw [fr_R]
theorem fr_bm {n : Nat} {B : Nat → Nat → Nat → Bool} (h : lw_P n B) (hd : dg_P n B) (h3 : 3 ≤ n) (r : Nat) : fr_R n B true r = fr_R n (mb_F n B) false r := by
  induction r with
  | zero =>
    rw [fr_R, fr_R]
  | succ r ih =>
    rw [fr_s, fr_s, ri_mb h hd h3, ih]
    cases c : (ri_F n B (2 ^ n - 1)).testBit r
    · rw [if_neg Bool.false_ne_true, if_neg Bool.false_ne_true]
    · have hw : ∀ q, q < rk_0 n n → rw_F n B (gz_F n B r true) true q = rw_F n (mb_F n B) (gz_F n (mb_F n B) r false) false q := fun q hq => rw_bm h hd h3 (ri_rm h.1 h3 c) hq
      rw [al_cg hw, co_cg hw]
