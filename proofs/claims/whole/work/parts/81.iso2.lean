/-! The same row: alike -/
theorem gz_F3 {n r : Nat} {A : Nat → Nat → Nat → Bool} (h : lw_P n A) (hd : dg_P n A) (h3 : 3 ≤ n) (hr : rm_P n A r) : (fun a b c => pb_g n a b c && A (gz_F n A r false a) (gz_F n A r false b) (gz_F n A r false c)) = nB_F n fun a b c => A (gz_F n A r false a) (gz_F n A r false b) (gz_F n A r false c) := by
  refine nB_eq (fun i j k hi hj hk h1 h2 h4 => ?_) (fun x y z hg => ?_) fun x y z h1 h2 hz => ?_
  · have x1 := (gz_all h hd h3 hr false i hi).1
    have x2 := (gz_all h hd h3 hr false j hj).1
    have x3 := (gz_all h hd h3 hr false k hk).1
    have d1 := gz_inj (mr := false) h hd h3 hr hi hj h1
    have d2 := gz_inj (mr := false) h hd h3 hr hj hk h2
    have d3 := gz_inj (mr := false) h hd h3 hr hi hk h4
    show (pb_g n j k i && _) = (pb_g n i j k && _) ∧ (pb_g n j i k && _) = !(pb_g n i j k && _)
    rw [pb_gt hj hk hi h2 (Ne.symm h4) (Ne.symm h1), pb_gt hi hj hk h1 h2 h4, pb_gt hj hi hk (Ne.symm h1) h4 h2, lw_cyc h x1 x2 x3 d1 d2 d3, lw_swp h x1 x2 x3 d1 d2 d3]
    exact ⟨rfl, rfl⟩
  · show (pb_g n x y z && _) = false
    rw [hg]
    rfl
  · show (pb_g n x y z && _) = _
    rw [pb_gt (by omega) (by omega) hz (by omega) (by omega) (by omega)]
    rfl
theorem is_of {n r r' : Nat} {A B : Nat → Nat → Nat → Bool} (hA : lw_P n A) (hB : lw_P n B) (dA : dg_P n A) (dB : dg_P n B) (h3 : 3 ≤ n) (hr : rm_P n A r) (hr' : rm_P n B r') (h : ∀ p, p < rk_0 n n → rw_F n A (gz_F n A r false) false p = rw_F n B (gz_F n B r' false) false p) : is_P n A B (fun x => gz_F n B r' false (pz_F n A r x)) (fun y => gz_F n A r false (pz_F n B r' y)) := by
  have hn := hA.1
  have up : ∀ i j k, i < j → j < k → k < n → A (gz_F n A r false i) (gz_F n A r false j) (gz_F n A r false k) = B (gz_F n B r' false i) (gz_F n B r' false j) (gz_F n B r' false k) := fun i j k h1 h2 h4 => by
    have z := h _ (rk_lt n hn i (by omega) j (by omega) k h4 h1 h2).1
    rw [rw_at hn h1 h2 h4, rw_at hn h1 h2 h4] at z
    revert z
    cases A (gz_F n A r false i) (gz_F n A r false j) (gz_F n A r false k) <;> cases B (gz_F n B r' false i) (gz_F n B r' false j) (gz_F n B r' false k) <;> decide
  have e := (gz_F3 hA dA h3 hr).trans ((nB_cong up).trans (gz_F3 hB dB h3 hr').symm)
  have al : ∀ i j k, i < n → j < n → k < n → i ≠ j → j ≠ k → i ≠ k → A (gz_F n A r false i) (gz_F n A r false j) (gz_F n A r false k) = B (gz_F n B r' false i) (gz_F n B r' false j) (gz_F n B r' false k) := fun i j k hi hj hk h1 h2 h4 => by
    have z := congrFun (congrFun (congrFun e i) j) k
    rw [pb_gt hi hj hk h1 h2 h4, Bool.true_and, Bool.true_and] at z
    exact z
  refine ⟨fun x hx => ?_, fun y hy => ?_, fun x y z hx hy hz h1 h2 h4 => ?_⟩
  · obtain ⟨p1, p2⟩ := gz_p hA dA h3 hr hx
    refine ⟨(gz_all hB dB h3 hr' false _ p1).1, ?_⟩
    show gz_F n A r false (pz_F n B r' (gz_F n B r' false (pz_F n A r x))) = x
    rw [gz_q hB dB h3 hr' p1]
    exact p2
  · obtain ⟨p1, p2⟩ := gz_p hB dB h3 hr' hy
    refine ⟨(gz_all hA dA h3 hr false _ p1).1, ?_⟩
    show gz_F n B r' false (pz_F n A r (gz_F n A r false (pz_F n B r' y))) = y
    rw [gz_q hA dA h3 hr p1]
    exact p2
  · obtain ⟨x1, x2⟩ := gz_p hA dA h3 hr hx
    obtain ⟨y1, y2⟩ := gz_p hA dA h3 hr hy
    obtain ⟨z1, z2⟩ := gz_p hA dA h3 hr hz
    have := al _ _ _ x1 y1 z1 (fun e => h1 (by rw [← x2, e, y2])) (fun e => h2 (by rw [← y2, e, z2])) (fun e => h4 (by rw [← x2, e, z2]))
    rw [x2, y2, z2] at this
    exact this
theorem is_mb {n : Nat} {A B : Nat → Nat → Nat → Bool} {π ρ : Nat → Nat} (h : is_P n (mb_F n A) B π ρ) : is_P n A (mb_F n B) π ρ := by
  refine ⟨h.1, h.2.1, fun x y z hx hy hz h1 h2 h4 => ?_⟩
  have e := h.2.2 x y z hx hy hz h1 h2 h4
  rw [mb_at hx hy hz h1 h2 h4] at e
  rw [mb_at (h.1 x hx).1 (h.1 y hy).1 (h.1 z hz).1 (is_ne h hx hy h1) (is_ne h hy hz h2) (is_ne h hx hz h4), ← e, Bool.not_not]
/-- a's mirror has b's first row, where a has that of b's mirror -/
theorem fr_mir {n : Nat} {A B : Nat → Nat → Nat → Bool} (hA : lw_P n A) (hB : lw_P n B) (dA : dg_P n A) (dB : dg_P n B) (h3 : 3 ≤ n) (h : ∀ p, p < rk_0 n n → fr_R n A true n p = fr_R n B false n p) : ∀ p, p < rk_0 n n → fr_R n A false n p = fr_R n B true n p := by
  obtain ⟨⟨a, a1, a2⟩, -⟩ := fr_min (lw_mb hA) h3
  obtain ⟨⟨b, b1, b2⟩, -⟩ := fr_min hB h3
  have i := is_mb (is_of (lw_mb hA) hB mb_dg dB h3 a1 b1 fun p hp => by rw [← a2 p hp, ← b2 p hp, ← fr_bm hA dA h3]; exact h p hp)
  intro p hp
  rw [fr_bm hB dB h3]
  exact is_fr i hA (lw_mb hB) dA mb_dg h3 p hp
theorem fr_rim {n : Nat} {A B : Nat → Nat → Nat → Bool} (hA : lw_P n A) (hB : lw_P n B) (dA : dg_P n A) (dB : dg_P n B) (h3 : 3 ≤ n) (h : ∀ p, p < rk_0 n n → fr_R n A false n p = fr_R n B true n p) : ∀ p, p < rk_0 n n → fr_R n A true n p = fr_R n B false n p := fun p hp => (fr_mir hB hA dB dA h3 (fun q hq => (h q hq).symm) p hp).symm
