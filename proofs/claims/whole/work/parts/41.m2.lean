/-! THE MODEL: tables are written -/
def sm_F (f : Nat → Int32) (o : Nat) (P : Nat → Nat → Nat → Bool) (v : Nat → Nat → Nat → Int32) : Nat → Int32 := fun p => if o ≤ p ∧ p < o + 120 ∧ P (ti_F (p - o)).1 (ti_F (p - o)).2.1 (ti_F (p - o)).2.2 = true then v (ti_F (p - o)).1 (ti_F (p - o)).2.1 (ti_F (p - o)).2.2 else f p
theorem sm_cong {f : Nat → Int32} {o : Nat} {P Q : Nat → Nat → Nat → Bool} {v : Nat → Nat → Nat → Int32} (h : ∀ x y z, x < y → y < z → P x y z = Q x y z) : sm_F f o P v = sm_F f o Q v := by
  funext p
  unfold sm_F
  by_cases hp : o ≤ p ∧ p < o + 120
  · obtain ⟨h1, h2, -, -⟩ := ti_ok (q := p - o) (by omega)
    rw [h _ _ _ h1 h2]
  · rw [if_neg (fun z => hp ⟨z.1, z.2.1⟩), if_neg (fun z => hp ⟨z.1, z.2.1⟩)]
theorem sm_k {f : Nat → Int32} {o n i j k : Nat} {v : Nat → Nat → Nat → Int32} (hn : n ≤ 10) (h1 : i < j) (h2 : j < k) (hk : k < n) : upd (sm_F f o (pb_d n i j k) v) (o + th_F i j k) (v i j k) = sm_F f o (pb_d n i j (k + 1)) v := by
  obtain ⟨-, e2, e3⟩ := th_all h1 h2 (show k < 10 by omega)
  funext p
  unfold upd
  by_cases hp : p = o + th_F i j k
  · subst hp
    rw [if_pos rfl]
    unfold sm_F
    rw [show o + th_F i j k - o = th_F i j k by omega, e3]
    have hd : pb_d n i j (k + 1) i j k = true := by
      unfold pb_d
      rw [decide_eq_true hk, decide_eq_true (show i < i ∨ (i = i ∧ (j < j ∨ (j = j ∧ k < k + 1))) from Or.inr ⟨rfl, Or.inr ⟨rfl, Nat.lt_succ_self k⟩⟩)]
      rfl
    exact (if_pos ⟨by omega, by omega, hd⟩).symm
  · rw [if_neg hp]
    unfold sm_F
    by_cases hr : o ≤ p ∧ p < o + 120
    · obtain ⟨g1, g2, g3, g4⟩ := ti_ok (q := p - o) (by omega)
      have e : pb_d n i j k (ti_F (p - o)).1 (ti_F (p - o)).2.1 (ti_F (p - o)).2.2 = pb_d n i j (k + 1) (ti_F (p - o)).1 (ti_F (p - o)).2.1 (ti_F (p - o)).2.2 := by
        generalize (ti_F (p - o)).1 = x at *
        generalize (ti_F (p - o)).2.1 = y at *
        generalize (ti_F (p - o)).2.2 = z at *
        have hne : ¬ (x = i ∧ y = j ∧ z = k) := by
          rintro ⟨rfl, rfl, rfl⟩
          omega
        unfold pb_d
        rw [Bool.eq_iff_iff]
        simp only [Bool.and_eq_true, decide_eq_true_eq]
        omega
      rw [e]
    · rw [if_neg (fun z => hr ⟨z.1, z.2.1⟩), if_neg (fun z => hr ⟨z.1, z.2.1⟩)]
def sp_M (M : pt_M) (o n : Nat) (s : Nat → Nat → Nat → Bool) (i j k : Nat) : pt_M := pt_wA M 32 0 (sm_F (pt_A M 32 0) o (pb_d n i j k) fun x y z => tv_F (s x y z))
def st_M (M : pt_M) (o n : Nat) (s : Nat → Nat → Nat → Bool) : pt_M := pt_wA M 32 0 (sm_F (pt_A M 32 0) o (fun _ _ z => decide (z < n)) fun x y z => tv_F (s x y z))
theorem si_in {o i j k : Nat} (ho : o + 120 ≤ 960) (h1 : i < j) (h2 : j < k) (hk : k < 10) : pt_in (nI o + (th_I (nI i) (nI j) (nI k))) 960 := by
  obtain ⟨e1, e2⟩ := th_nI h1 h2 hk
  rw [e1, nI_add]
  exact pt_in_nI (by omega) (by decide)
theorem sp_k {M : pt_M} {o n i j k : Nat} {s : Nat → Nat → Nat → Bool} (ho : o + 120 ≤ 960) (hn : n ≤ 10) (h1 : i < j) (h2 : j < k) (hk : k < n) {t : Int32} (ht : t = tv_F (s i j k)) : se_M (sp_M M o n s i j k) (nI o) (nI i) (nI j) (nI k) t = sp_M M o n s i j (k + 1) := by
  obtain ⟨e1, e2⟩ := th_nI h1 h2 (show k < 10 by omega)
  unfold se_M sp_M
  rw [pt_wA_wA, pt_A_wA, e1, nI_add, pt_nt_nI (by omega), ht]
  congr 1
  exact sm_k (v := fun x y z => tv_F (s x y z)) hn h1 h2 hk
theorem sp_j {M : pt_M} {o n i j : Nat} {s : Nat → Nat → Nat → Bool} : sp_M M o n s i j n = sp_M M o n s i (j + 1) (j + 2) := by
  unfold sp_M
  congr 1
  apply sm_cong
  intro x y z h1 h2
  unfold pb_d
  rw [Bool.eq_iff_iff]
  simp only [Bool.and_eq_true, decide_eq_true_eq]
  omega
theorem sp_i {M : pt_M} {o n i j k : Nat} {s : Nat → Nat → Nat → Bool} (h : n ≤ j) : sp_M M o n s i j k = sp_M M o n s (i + 1) (i + 2) (i + 3) := by
  unfold sp_M
  congr 1
  apply sm_cong
  intro x y z h1 h2
  unfold pb_d
  rw [Bool.eq_iff_iff]
  simp only [Bool.and_eq_true, decide_eq_true_eq]
  omega
theorem sp_0 {M : pt_M} {o n : Nat} {s : Nat → Nat → Nat → Bool} : sp_M M o n s 0 1 2 = M := by
  unfold sp_M
  have e : sm_F (pt_A M 32 0) o (pb_d n 0 1 2) (fun x y z => tv_F (s x y z)) = pt_A M 32 0 := by
    have e2 : sm_F (pt_A M 32 0) o (pb_d n 0 1 2) (fun x y z => tv_F (s x y z)) = sm_F (pt_A M 32 0) o (fun _ _ _ => false) (fun x y z => tv_F (s x y z)) := by
      apply sm_cong
      intro x y z h1 h2
      unfold pb_d
      rw [Bool.and_eq_false_iff]
      right
      rw [decide_eq_false_iff_not]
      omega
    rw [e2]
    funext p
    exact if_neg (fun z => by cases z.2.2)
  rw [e, pt_wA_self]
theorem sp_n {M : pt_M} {o n j k : Nat} {s : Nat → Nat → Nat → Bool} : sp_M M o n s n j k = st_M M o n s := by
  unfold sp_M st_M
  congr 1
  apply sm_cong
  intro x y z h1 h2
  unfold pb_d
  rw [Bool.eq_iff_iff]
  simp only [Bool.and_eq_true, decide_eq_true_eq]
  omega
/-- the table that was written -/
theorem sy_x {n : Nat} {s : Nat → Nat → Nat → Bool} : sy_P n fun a c d => pb_g n a c d && pb_x s a c d := by
  intro i j k hi hj hk h1 h2 h3
  have g1 : pb_g n i j k = true := pb_g_iff.mpr ⟨hi, hj, hk, h1, h2, h3⟩
  have g2 : pb_g n j k i = true := pb_g_iff.mpr ⟨hj, hk, hi, h2, fun z => h3 z.symm, fun z => h1 z.symm⟩
  have g3 : pb_g n j i k = true := pb_g_iff.mpr ⟨hj, hi, hk, fun z => h1 z.symm, h3, h2⟩
  dsimp only
  rw [g1, g2, g3, pb_x_cyc s h1 h2 h3, pb_x_swap s h1 h2 h3]
  exact ⟨rfl, by simp⟩
theorem st_at {M : pt_M} {o n i j k : Nat} {s : Nat → Nat → Nat → Bool} (hn : n ≤ 10) (h1 : i < j) (h2 : j < k) (hk : k < n) : pt_A (st_M M o n s) 32 0 (o + th_F i j k) = tv_F (s i j k) := by
  obtain ⟨-, e2, e3⟩ := th_all h1 h2 (show k < 10 by omega)
  unfold st_M
  rw [pt_A_wA]
  unfold sm_F
  rw [show o + th_F i j k - o = th_F i j k by omega, e3]
  exact if_pos ⟨by omega, by omega, decide_eq_true hk⟩
theorem st_ml {M : pt_M} {o n : Nat} {s : Nat → Nat → Nat → Bool} (ho : o + 120 ≤ 960) (hn : n ≤ 10) : ml_P (st_M M o n s) o n fun a c d => pb_g n a c d && pb_x s a c d := by
  refine ⟨ho, hn, fun i j k h1 h2 hk => ?_, sy_x⟩
  rw [st_at hn h1 h2 hk]
  have g : pb_g n i j k = true := pb_g_iff.mpr ⟨by omega, by omega, hk, by omega, by omega, by omega⟩
  show _ = tv_F (pb_g n i j k && pb_x s i j k)
  rw [g, pb_x_up s h1 h2]
  rfl
theorem sm_out {f : Nat → Int32} {o p : Nat} {P : Nat → Nat → Nat → Bool} {v : Nat → Nat → Nat → Int32} (h : p < o ∨ o + 120 ≤ p) : sm_F f o P v p = f p := if_neg (fun z => by omega)
/-- a table elsewhere stays -/
theorem ml_sp {M : pt_M} {o o' n n' i j k : Nat} {B s : Nat → Nat → Nat → Bool} (h : ml_P M o n B) (hd : o + 120 ≤ o' ∨ o' + 120 ≤ o) : ml_P (sp_M M o' n' s i j k) o n B := by
  obtain ⟨ho, hn, hT, hs⟩ := h
  refine ⟨ho, hn, fun a b c h1 h2 h3 => ?_, hs⟩
  obtain ⟨-, e2⟩ := th_nI h1 h2 (show c < 10 by omega)
  unfold sp_M
  rw [pt_A_wA, sm_out (by omega)]
  exact hT a b c h1 h2 h3
theorem ml_A {M M' : pt_M} {o n : Nat} {B : Nat → Nat → Nat → Bool} (h : ml_P M o n B) (e : pt_A M' 32 0 = pt_A M 32 0) : ml_P M' o n B := ⟨h.1, h.2.1, fun a b c h1 h2 h3 => by rw [e]; exact h.2.2.1 a b c h1 h2 h3, h.2.2.2⟩
/-! bytes of the tape -/
def sb_F (b : Nat) : Int32 := (nI b).toInt8.toInt32
set_option maxRecDepth 100000 in
theorem sb_tab : ((List.range 256).all fun b => (List.range 8).all fun r => decide (decide (((sb_F b >>> (nI r &&& 31)) &&& 1) = 1) = b.testBit r)) = true := by decide +kernel
theorem sb_bit {b r : Nat} (hb : b < 256) (hr : r < 8) : ((sb_F b >>> (nI r &&& 31)) &&& 1) = 1 ↔ b.testBit r = true := by
  have h := of_decide_eq_true (pt_all (pt_all sb_tab hb) hr)
  rw [← h, decide_eq_true_eq]
/-- the model's tape: L bytes b -/
def mp_P (M : pt_M) (L : Nat) (b : Nat → Nat) : Prop := L ≤ 140 ∧ ∀ p, p < L → pt_A M 30 0 p = sb_F (b p) ∧ b p < 256
theorem mp_A {M M' : pt_M} {L : Nat} {b : Nat → Nat} (h : mp_P M L b) (e : pt_A M' 30 0 = pt_A M 30 0) : mp_P M' L b := ⟨h.1, fun p hp => by rw [e]; exact h.2 p hp⟩
theorem mp_bit {M : pt_M} {L p : Nat} {b : Nat → Nat} (h : mp_P M L b) (hp : p < 1120) (hL : p / 8 < L) : (((pt_A M 30 0 (pt_nt (nI p / 8))) >>> ((7 - (nI p - nI p / 8 * 8)) &&& 31)) &&& 1) = 1 ↔ (b (p / 8)).testBit (7 - p % 8) = true := by
  have e8 : nI p / 8 = nI (p / 8) := pk_div (d := 8) (by omega) (by decide) (by decide)
  have er : nI p - nI p / 8 * 8 = nI (p % 8) := pk_rem (d := 8) (by omega) (by decide) (by decide)
  have e7 : (7 : Int32) - nI (p % 8) = nI (7 - p % 8) := pk_sub (a := 7) (by omega)
  obtain ⟨h1, h2⟩ := h.2 (p / 8) hL
  have := h.1
  rw [er, e8, e7, pt_nt_nI (by omega), h1]
  exact sb_bit h2 (by omega)
/-! table -/
def sl_M (M : pt_M) (s n : Nat) : pt_M := pt_wA M 31 0 (upd (pt_A M 31 0) s (nI n))
theorem m120 (s : Nat) : (120 : Int32) * nI s = nI (120 * s) := pk_mul 120 s
def t0_M (M : pt_M) : pt_M := pt_wF M 7 0 0 0
theorem sl_nI {s : Nat} (h : s < 6) : sl_P (nI s) := ⟨nI_pos (by omega), nI_ge (b := 6) h (by decide)⟩
theorem rX7_table_50 {vs : List pt_V} {M M' : pt_M} {x : Int32} {L : List (Nat × pt_V)} (hn : narrow .boolean (.int x) = .int x) (hvs : (vs.map pt_w).sum ≤ 7) (hX : M'.2.2.2.2 = M.2.2.2.2) (h : pt_Go YX7_table (0, pt_en 0 vs, [], M) (50, L, [pt_i x], M')) : pt_Does yX7_table YX7_table vs M (some (pt_i x)) M' := pt_does_go tX7_table_ok nX7_table hvs hX ⟨_, by with_unfolding_all rfl, rfl, _, rfl, hn⟩ h
theorem rX7_table_157 {vs : List pt_V} {M M' : pt_M} {x : Int32} {L : List (Nat × pt_V)} (hn : narrow .boolean (.int x) = .int x) (hvs : (vs.map pt_w).sum ≤ 7) (hX : M'.2.2.2.2 = M.2.2.2.2) (h : pt_Go YX7_table (0, pt_en 0 vs, [], M) (157, L, [pt_i x], M')) : pt_Does yX7_table YX7_table vs M (some (pt_i x)) M' := pt_does_go tX7_table_ok nX7_table hvs hX ⟨_, by with_unfolding_all rfl, rfl, _, rfl, hn⟩ h
set_option maxRecDepth 100000 in
theorem gX7_table_0_1 (x1 : Int32) (x2 : Int32)  (M : pt_M) (h1 : sl_P x1) (h2 : ¬ x2 < 3) (h3 : ¬ 10 < x2) (h4 : ¬ (((x2 * (x2 - 1)) * (x2 - 2)) / 6) ≤ (8 * (pt_F (tk_M (pt_wF M 7 0 0 0)) 7 3 0))) :
    pt_Go YX7_table (0, [(0, pt_r 7 0), (1, pt_i x1), (2, pt_i x2)], [], M)
      (50, [(0, pt_r 7 0), (1, pt_i x1), (2, pt_i x2)], [pt_i 0], (tk_M (pt_wF M 7 0 0 0))) :=
  pt_run_ok tX7_table_ok 31 [.inr (1, none, (tk_M (pt_wF M 7 0 0 0))), .inr (1, some (pt_i 1), (tk_M (pt_wF M 7 0 0 0))), .inl false, .inl false, .inl false, .inl false] (P := pt_Cal YX7_table (.invokevirtual 92) [pt_r 7 0] (pt_wF M 7 0 0 0) none (tk_M (pt_wF M 7 0 0 0)) ∧ pt_Cal YX7_table (.invokestatic 85) [pt_i x1] (tk_M (pt_wF M 7 0 0 0)) (some (pt_i 1)) (tk_M (pt_wF M 7 0 0 0)) ∧ (¬ (1 : Int32) = (0 : Int32)) ∧ (¬ x2 < 3) ∧ (¬ 10 < x2) ∧ (¬ (6 : Int32) = 0) ∧ (¬ (((x2 * (x2 - 1)) * (x2 - 2)) / 6) ≤ (8 * (pt_F (tk_M (pt_wF M 7 0 0 0)) 7 3 0))) ∧ True) (by with_unfolding_all rfl) ⟨(pt_callV (i := 0) kX7_table_92 mX7_taken rfl (by decide) rfl (dX7_taken (pt_wF M 7 0 0 0))), (pt_callS kX7_table_85 mX7_isSlot rfl (dX7_isSlot_1 h1)), (by decide), h2, h3, (by decide), h4, trivial⟩
set_option maxRecDepth 100000 in
theorem gX7_table_0_2 (x1 : Int32) (x2 : Int32)  (M : pt_M) (h1 : sl_P x1) (h2 : ¬ x2 < 3) (h3 : ¬ 10 < x2) (h4 : (((x2 * (x2 - 1)) * (x2 - 2)) / 6) ≤ (8 * (pt_F (tk_M (pt_wF M 7 0 0 0)) 7 3 0))) :
    pt_Go YX7_table (0, [(0, pt_r 7 0), (1, pt_i x1), (2, pt_i x2)], [], M)
      (56, [(0, pt_r 7 0), (1, pt_i x1), (2, pt_i x2), (3, pt_i 0), (4, pt_i 0)], [], (tk_M (pt_wF M 7 0 0 0))) :=
  pt_run_ok tX7_table_ok 34 [.inr (1, none, (tk_M (pt_wF M 7 0 0 0))), .inr (1, some (pt_i 1), (tk_M (pt_wF M 7 0 0 0))), .inl false, .inl false, .inl false, .inl true] (P := pt_Cal YX7_table (.invokevirtual 92) [pt_r 7 0] (pt_wF M 7 0 0 0) none (tk_M (pt_wF M 7 0 0 0)) ∧ pt_Cal YX7_table (.invokestatic 85) [pt_i x1] (tk_M (pt_wF M 7 0 0 0)) (some (pt_i 1)) (tk_M (pt_wF M 7 0 0 0)) ∧ (¬ (1 : Int32) = (0 : Int32)) ∧ (¬ x2 < 3) ∧ (¬ 10 < x2) ∧ (¬ (6 : Int32) = 0) ∧ ((((x2 * (x2 - 1)) * (x2 - 2)) / 6) ≤ (8 * (pt_F (tk_M (pt_wF M 7 0 0 0)) 7 3 0))) ∧ True) (by with_unfolding_all rfl) ⟨(pt_callV (i := 0) kX7_table_92 mX7_taken rfl (by decide) rfl (dX7_taken (pt_wF M 7 0 0 0))), (pt_callS kX7_table_85 mX7_isSlot rfl (dX7_isSlot_1 h1)), (by decide), h2, h3, (by decide), h4, trivial⟩
set_option maxRecDepth 100000 in
theorem gX7_table_0_3 (x1 : Int32) (x2 : Int32)  (M : pt_M) (h1 : sl_P x1) (h2 : ¬ x2 < 3) (h3 : 10 < x2) :
    pt_Go YX7_table (0, [(0, pt_r 7 0), (1, pt_i x1), (2, pt_i x2)], [], M)
      (50, [(0, pt_r 7 0), (1, pt_i x1), (2, pt_i x2)], [pt_i 0], (tk_M (pt_wF M 7 0 0 0))) :=
  pt_run_ok tX7_table_ok 15 [.inr (1, none, (tk_M (pt_wF M 7 0 0 0))), .inr (1, some (pt_i 1), (tk_M (pt_wF M 7 0 0 0))), .inl false, .inl false, .inl true] (P := pt_Cal YX7_table (.invokevirtual 92) [pt_r 7 0] (pt_wF M 7 0 0 0) none (tk_M (pt_wF M 7 0 0 0)) ∧ pt_Cal YX7_table (.invokestatic 85) [pt_i x1] (tk_M (pt_wF M 7 0 0 0)) (some (pt_i 1)) (tk_M (pt_wF M 7 0 0 0)) ∧ (¬ (1 : Int32) = (0 : Int32)) ∧ (¬ x2 < 3) ∧ (10 < x2) ∧ True) (by with_unfolding_all rfl) ⟨(pt_callV (i := 0) kX7_table_92 mX7_taken rfl (by decide) rfl (dX7_taken (pt_wF M 7 0 0 0))), (pt_callS kX7_table_85 mX7_isSlot rfl (dX7_isSlot_1 h1)), (by decide), h2, h3, trivial⟩
set_option maxRecDepth 100000 in
theorem gX7_table_0_4 (x1 : Int32) (x2 : Int32)  (M : pt_M) (h1 : sl_P x1) (h2 : x2 < 3) :
    pt_Go YX7_table (0, [(0, pt_r 7 0), (1, pt_i x1), (2, pt_i x2)], [], M)
      (50, [(0, pt_r 7 0), (1, pt_i x1), (2, pt_i x2)], [pt_i 0], (tk_M (pt_wF M 7 0 0 0))) :=
  pt_run_ok tX7_table_ok 12 [.inr (1, none, (tk_M (pt_wF M 7 0 0 0))), .inr (1, some (pt_i 1), (tk_M (pt_wF M 7 0 0 0))), .inl false, .inl true] (P := pt_Cal YX7_table (.invokevirtual 92) [pt_r 7 0] (pt_wF M 7 0 0 0) none (tk_M (pt_wF M 7 0 0 0)) ∧ pt_Cal YX7_table (.invokestatic 85) [pt_i x1] (tk_M (pt_wF M 7 0 0 0)) (some (pt_i 1)) (tk_M (pt_wF M 7 0 0 0)) ∧ (¬ (1 : Int32) = (0 : Int32)) ∧ (x2 < 3) ∧ True) (by with_unfolding_all rfl) ⟨(pt_callV (i := 0) kX7_table_92 mX7_taken rfl (by decide) rfl (dX7_taken (pt_wF M 7 0 0 0))), (pt_callS kX7_table_85 mX7_isSlot rfl (dX7_isSlot_1 h1)), (by decide), h2, trivial⟩
set_option maxRecDepth 100000 in
theorem gX7_table_0_5 (x1 : Int32) (x2 : Int32)  (M : pt_M) (h1 : ¬ sl_P x1) :
    pt_Go YX7_table (0, [(0, pt_r 7 0), (1, pt_i x1), (2, pt_i x2)], [], M)
      (50, [(0, pt_r 7 0), (1, pt_i x1), (2, pt_i x2)], [pt_i 0], (tk_M (pt_wF M 7 0 0 0))) :=
  pt_run_ok tX7_table_ok 9 [.inr (1, none, (tk_M (pt_wF M 7 0 0 0))), .inr (1, some (pt_i 0), (tk_M (pt_wF M 7 0 0 0))), .inl true] (P := pt_Cal YX7_table (.invokevirtual 92) [pt_r 7 0] (pt_wF M 7 0 0 0) none (tk_M (pt_wF M 7 0 0 0)) ∧ pt_Cal YX7_table (.invokestatic 85) [pt_i x1] (tk_M (pt_wF M 7 0 0 0)) (some (pt_i 0)) (tk_M (pt_wF M 7 0 0 0)) ∧ ((0 : Int32) = (0 : Int32)) ∧ True) (by with_unfolding_all rfl) ⟨(pt_callV (i := 0) kX7_table_92 mX7_taken rfl (by decide) rfl (dX7_taken (pt_wF M 7 0 0 0))), (pt_callS kX7_table_85 mX7_isSlot rfl (dX7_isSlot_0 h1)), (by decide), trivial⟩
set_option maxRecDepth 100000 in
theorem gX7_table_56_1 (l1 : Int32) (l2 : Int32) (l3 : Int32) (l4 : Int32)  (M : pt_M) (h1 : ¬ l2 ≤ l4) :
    pt_Go YX7_table (56, [(0, pt_r 7 0), (1, pt_i l1), (2, pt_i l2), (3, pt_i l3), (4, pt_i l4)], [], M)
      (68, [(0, pt_r 7 0), (1, pt_i l1), (2, pt_i l2), (3, pt_i l3), (4, pt_i l4), (5, pt_i (l4 + 1))], [], M) :=
  pt_run_ok tX7_table_ok 7 [.inl false] (P := (¬ l2 ≤ l4) ∧ True) (by with_unfolding_all rfl) ⟨h1, trivial⟩
set_option maxRecDepth 100000 in
theorem gX7_table_56_2 (l1 : Int32) (l2 : Int32) (l3 : Int32) (l4 : Int32)  (M : pt_M) (h1 : l2 ≤ l4) (h2 : pt_in l1 6) :
    pt_Go YX7_table (56, [(0, pt_r 7 0), (1, pt_i l1), (2, pt_i l2), (3, pt_i l3), (4, pt_i l4)], [], M)
      (157, [(0, pt_r 7 0), (1, pt_i l1), (2, pt_i l2), (3, pt_i l3), (4, pt_i l4)], [pt_i 1], (pt_wA M 31 0 (upd (pt_A M 31 0) (pt_nt l1) l2))) :=
  pt_run_ok tX7_table_ok 9 [.inl true] (P := (l2 ≤ l4) ∧ (pt_in l1 6) ∧ True) (by with_unfolding_all rfl) ⟨h1, h2, trivial⟩
set_option maxRecDepth 100000 in
theorem gX7_table_68_1 (l1 : Int32) (l2 : Int32) (l3 : Int32) (l4 : Int32) (l5 : Int32)  (M : pt_M) (h1 : ¬ l2 ≤ l5) :
    pt_Go YX7_table (68, [(0, pt_r 7 0), (1, pt_i l1), (2, pt_i l2), (3, pt_i l3), (4, pt_i l4), (5, pt_i l5)], [], M)
      (80, [(0, pt_r 7 0), (1, pt_i l1), (2, pt_i l2), (3, pt_i l3), (4, pt_i l4), (5, pt_i l5), (6, pt_i (l5 + 1))], [], M) :=
  pt_run_ok tX7_table_ok 7 [.inl false] (P := (¬ l2 ≤ l5) ∧ True) (by with_unfolding_all rfl) ⟨h1, trivial⟩
set_option maxRecDepth 100000 in
theorem gX7_table_68_2 (l1 : Int32) (l2 : Int32) (l3 : Int32) (l4 : Int32) (l5 : Int32)  (M : pt_M) (h1 : l2 ≤ l5) :
    pt_Go YX7_table (68, [(0, pt_r 7 0), (1, pt_i l1), (2, pt_i l2), (3, pt_i l3), (4, pt_i l4), (5, pt_i l5)], [], M)
      (56, [(0, pt_r 7 0), (1, pt_i l1), (2, pt_i l2), (3, pt_i l3), (4, pt_i (l4 + 1))], [], M) :=
  (pt_run_ok tX7_table_ok 5 [.inl true] (P := (l2 ≤ l5) ∧ True) (by with_unfolding_all rfl) ⟨h1, trivial⟩ : pt_Go YX7_table _ (56, [(0, pt_r 7 0), (1, pt_i l1), (2, pt_i l2), (3, pt_i l3), (4, pt_i (l4 + 1)), (5, pt_i l5)], [], M)).tr (pt_pick [0, 1, 2, 3, 4] (by with_unfolding_all rfl))
set_option maxRecDepth 100000 in
theorem gX7_table_80_1 (l1 : Int32) (l2 : Int32) (l3 : Int32) (l4 : Int32) (l5 : Int32) (l6 : Int32)  (M : pt_M) (h1 : ¬ l2 ≤ l6) (h2 : pt_in (l3 / 8) 140) (h3 : (((pt_A M 30 0 (pt_nt (l3 / 8))) >>> ((7 - (l3 - l3 / 8 * 8)) &&& 31)) &&& 1) = 1) (h4 : pt_in ((120 * l1) + (th_I l4 l5 l6)) 960) :
    pt_Go YX7_table (80, [(0, pt_r 7 0), (1, pt_i l1), (2, pt_i l2), (3, pt_i l3), (4, pt_i l4), (5, pt_i l5), (6, pt_i l6)], [], M)
      (80, [(0, pt_r 7 0), (1, pt_i l1), (2, pt_i l2), (3, pt_i (l3 + 1)), (4, pt_i l4), (5, pt_i l5), (6, pt_i (l6 + 1))], [], (se_M M (120 * l1) l4 l5 l6 (-1))) :=
  pt_run_ok tX7_table_ok 32 [.inl false, .inl false, .inr (6, none, (se_M M (120 * l1) l4 l5 l6 (-1)))] (P := (¬ l2 ≤ l6) ∧ (¬ (8 : Int32) = 0) ∧ (pt_in (l3 / 8) 140) ∧ (¬ (8 : Int32) = 0) ∧ ((((pt_A M 30 0 (pt_nt (l3 / 8))) >>> ((7 - (l3 - l3 / 8 * 8)) &&& 31)) &&& 1) = 1) ∧ pt_Cal YX7_table (.invokevirtual 99) [pt_r 7 0, pt_i (120 * l1), pt_i l4, pt_i l5, pt_i l6, pt_i (-1)] M none (se_M M (120 * l1) l4 l5 l6 (-1)) ∧ True) (by with_unfolding_all rfl) ⟨h1, (by decide), h2, (by decide), h3, (pt_callV (i := 0) kX7_table_99 mX7_set rfl (by decide) rfl (dX7_set h4)), trivial⟩
set_option maxRecDepth 100000 in
theorem gX7_table_80_2 (l1 : Int32) (l2 : Int32) (l3 : Int32) (l4 : Int32) (l5 : Int32) (l6 : Int32)  (M : pt_M) (h1 : ¬ l2 ≤ l6) (h2 : pt_in (l3 / 8) 140) (h3 : ¬ (((pt_A M 30 0 (pt_nt (l3 / 8))) >>> ((7 - (l3 - l3 / 8 * 8)) &&& 31)) &&& 1) = 1) (h4 : pt_in ((120 * l1) + (th_I l4 l5 l6)) 960) :
    pt_Go YX7_table (80, [(0, pt_r 7 0), (1, pt_i l1), (2, pt_i l2), (3, pt_i l3), (4, pt_i l4), (5, pt_i l5), (6, pt_i l6)], [], M)
      (80, [(0, pt_r 7 0), (1, pt_i l1), (2, pt_i l2), (3, pt_i (l3 + 1)), (4, pt_i l4), (5, pt_i l5), (6, pt_i (l6 + 1))], [], (se_M M (120 * l1) l4 l5 l6 1)) :=
  pt_run_ok tX7_table_ok 31 [.inl false, .inl true, .inr (6, none, (se_M M (120 * l1) l4 l5 l6 1))] (P := (¬ l2 ≤ l6) ∧ (¬ (8 : Int32) = 0) ∧ (pt_in (l3 / 8) 140) ∧ (¬ (8 : Int32) = 0) ∧ (¬ (((pt_A M 30 0 (pt_nt (l3 / 8))) >>> ((7 - (l3 - l3 / 8 * 8)) &&& 31)) &&& 1) = 1) ∧ pt_Cal YX7_table (.invokevirtual 99) [pt_r 7 0, pt_i (120 * l1), pt_i l4, pt_i l5, pt_i l6, pt_i 1] M none (se_M M (120 * l1) l4 l5 l6 1) ∧ True) (by with_unfolding_all rfl) ⟨h1, (by decide), h2, (by decide), h3, (pt_callV (i := 0) kX7_table_99 mX7_set rfl (by decide) rfl (dX7_set h4)), trivial⟩
set_option maxRecDepth 100000 in
theorem gX7_table_80_3 (l1 : Int32) (l2 : Int32) (l3 : Int32) (l4 : Int32) (l5 : Int32) (l6 : Int32)  (M : pt_M) (h1 : l2 ≤ l6) :
    pt_Go YX7_table (80, [(0, pt_r 7 0), (1, pt_i l1), (2, pt_i l2), (3, pt_i l3), (4, pt_i l4), (5, pt_i l5), (6, pt_i l6)], [], M)
      (68, [(0, pt_r 7 0), (1, pt_i l1), (2, pt_i l2), (3, pt_i l3), (4, pt_i l4), (5, pt_i (l5 + 1))], [], M) :=
  (pt_run_ok tX7_table_ok 5 [.inl true] (P := (l2 ≤ l6) ∧ True) (by with_unfolding_all rfl) ⟨h1, trivial⟩ : pt_Go YX7_table _ (68, [(0, pt_r 7 0), (1, pt_i l1), (2, pt_i l2), (3, pt_i l3), (4, pt_i l4), (5, pt_i (l5 + 1)), (6, pt_i l6)], [], M)).tr (pt_pick [0, 1, 2, 3, 4, 5] (by with_unfolding_all rfl))
theorem dX7_table {s n L : Nat} {b : Nat → Nat} {M : pt_M} (hs : s < 6) (h3 : 3 ≤ n) (hn : n ≤ 10) (hF : pt_F M 7 2 0 = nI L) (htp : mp_P M L b) (hL : rk_0 n n ≤ 8 * L) : pt_Does yX7_table YX7_table [pt_r 7 0, pt_i (nI s), pt_i (nI n)] M (some (pt_i 1)) (sl_M (st_M (tk_M (t0_M M)) (120 * s) n fun i j k => !(b (rk_F n i j k / 8)).testBit (7 - rk_F n i j k % 8)) s n) := by
  generalize hS : (fun i j k => !(b (rk_F n i j k / 8)).testBit (7 - rk_F n i j k % 8)) = S
  have ho : 120 * s + 120 ≤ 960 := by omega
  have htp : mp_P (tk_M (t0_M M)) L b := mp_A htp rfl
  have g0 := gX7_table_0_2 (nI s) (nI n) M (sl_nI hs) (nI_nlt (b := 3) h3 (by omega)) (nI_nlt (a := 10) hn (by decide))
  have hz : pt_F (tk_M (pt_wF M 7 0 0 0)) 7 3 0 = nI L := hF
  have hto : ((nI n * (nI n - 1)) * (nI n - 2)) / 6 = nI (rk_0 n n) := (to_nI hn).1
  have h120 := (to_nI hn).2
  have hL8 := htp.1
  have e8 : (8 : Int32) * nI L = nI (8 * L) := pk_mul 8 L
  rw [hz, hto, e8] at g0
  have g0 := g0 (nI_le hL (by omega))
  have K := pt_three (Y := YX7_table) (n := n)
    (fun i => (56, [(0, pt_r 7 0), (1, pt_i (nI s)), (2, pt_i (nI n)), (3, pt_i (nI (rk_F n i (i + 1) (i + 2)))), (4, pt_i (nI i))], [], sp_M (tk_M (t0_M M)) (120 * s) n S i (i + 1) (i + 2)))
    (fun i j => (68, [(0, pt_r 7 0), (1, pt_i (nI s)), (2, pt_i (nI n)), (3, pt_i (nI (rk_F n i j (j + 1)))), (4, pt_i (nI i)), (5, pt_i (nI j))], [], sp_M (tk_M (t0_M M)) (120 * s) n S i j (j + 1)))
    (fun i j k => (80, [(0, pt_r 7 0), (1, pt_i (nI s)), (2, pt_i (nI n)), (3, pt_i (nI (rk_F n i j k))), (4, pt_i (nI i)), (5, pt_i (nI j)), (6, pt_i (nI k))], [], sp_M (tk_M (t0_M M)) (120 * s) n S i j k))
    (fun i hi => (gX7_table_56_1 (nI s) (nI n) _ (nI i) _ (nI_ge hi (by omega))).to (by rw [nI_1]))
    (fun i j hij hj => (gX7_table_68_1 (nI s) (nI n) _ (nI i) (nI j) _ (nI_ge hj (by omega))).to (by rw [nI_1]))
    (fun i hi => (gX7_table_68_2 (nI s) (nI n) _ (nI i) (nI n) _ (Int32.le_refl _)).to (by rw [nI_1, sp_i (Nat.le_refl n), rk_i (n + 1) (Nat.le_refl _)]))
    (fun i j k hij hjk hk => by
      obtain ⟨hr1, hr2⟩ := rk_lt n hn i (by omega) j (by omega) k hk hij hjk
      have hb := mp_bit (M := sp_M (tk_M (t0_M M)) (120 * s) n S i j k) (mp_A htp rfl) (p := rk_F n i j k) (by omega) (by omega)
      have e : nI (rk_F n i j k) / 8 = nI (rk_F n i j k / 8) := pk_div (d := 8) (by omega) (by decide) (by decide)
      have h8 : pt_in (nI (rk_F n i j k) / 8) 140 := by rw [e]; exact pt_in_nI (by omega) (by decide)
      have hin := si_in ho hij hjk (show k < 10 by omega)
      have hSv : S i j k = !(b (rk_F n i j k / 8)).testBit (7 - rk_F n i j k % 8) := by rw [← hS]
      cases hv : (b (rk_F n i j k / 8)).testBit (7 - rk_F n i j k % 8)
      · refine (gX7_table_80_2 (nI s) (nI n) (nI (rk_F n i j k)) (nI i) (nI j) (nI k) _ (nI_ge hk (by omega)) h8 (fun z => by rw [hb, hv] at z; cases z) (by rw [m120]; exact hin)).to ?_
        rw [nI_1, nI_1, ← rk_k hjk, m120, sp_k ho hn hij hjk hk (by rw [hSv, hv]; rfl)]
      · refine (gX7_table_80_1 (nI s) (nI n) (nI (rk_F n i j k)) (nI i) (nI j) (nI k) _ (nI_ge hk (by omega)) h8 (hb.mpr hv) (by rw [m120]; exact hin)).to ?_
        rw [nI_1, nI_1, ← rk_k hjk, m120, sp_k ho hn hij hjk hk (by rw [hSv, hv]; rfl)])
    (fun i j hij hj => (gX7_table_80_3 (nI s) (nI n) _ (nI i) (nI j) (nI n) _ (Int32.le_refl _)).to (by rw [nI_1, sp_j, rk_j hij hj]))
  refine rX7_table_157 rfl (Nat.le_of_ble_eq_true rfl) rfl ((g0.to ?_).tr (K.tr ((gX7_table_56_2 (nI s) (nI n) _ (nI n) _ (Int32.le_refl _) (pt_in_nI hs (by decide))).toM ?_)))
  · show _ = (56, _, _, sp_M (tk_M (t0_M M)) (120 * s) n S 0 1 2)
    rw [sp_0]
    rfl
  · rw [pt_nt_nI (by omega), sp_n]
    rfl
/-! fill -/
theorem rX7_fill_91 {vs : List pt_V} {M M' : pt_M} {L : List (Nat × pt_V)} (hvs : (vs.map pt_w).sum ≤ 8) (hX : M'.2.2.2.2 = M.2.2.2.2) (h : pt_Go YX7_fill (0, pt_en 0 vs, [], M) (91, L, [], M')) : pt_Does yX7_fill YX7_fill vs M none M' := pt_does_go tX7_fill_ok nX7_fill hvs hX ⟨_, by with_unfolding_all rfl, rfl, rfl⟩ h
set_option maxRecDepth 100000 in
theorem gX7_fill_0_1 (x1 : Int32) (x2 : Int32)  (M : pt_M) :
    pt_Go YX7_fill (0, [(0, pt_r 7 0), (1, pt_i x1), (2, pt_i x2), (3, pt_r 38 0)], [], M)
      (6, [(0, pt_r 7 0), (1, pt_i x1), (2, pt_i x2), (3, pt_r 38 0), (4, pt_i 0), (5, pt_i 0)], [], M) :=
  pt_run_ok tX7_fill_ok 4 [] (P := True) (by with_unfolding_all rfl) trivial
set_option maxRecDepth 100000 in
theorem gX7_fill_6_1 (l1 : Int32) (l2 : Int32) (l4 : Int32) (l5 : Int32)  (M : pt_M) (h1 : ¬ l2 ≤ l5) :
    pt_Go YX7_fill (6, [(0, pt_r 7 0), (1, pt_i l1), (2, pt_i l2), (3, pt_r 38 0), (4, pt_i l4), (5, pt_i l5)], [], M)
      (18, [(0, pt_r 7 0), (1, pt_i l1), (2, pt_i l2), (3, pt_r 38 0), (4, pt_i l4), (5, pt_i l5), (6, pt_i (l5 + 1))], [], M) :=
  pt_run_ok tX7_fill_ok 7 [.inl false] (P := (¬ l2 ≤ l5) ∧ True) (by with_unfolding_all rfl) ⟨h1, trivial⟩
set_option maxRecDepth 100000 in
theorem gX7_fill_6_2 (l1 : Int32) (l2 : Int32) (l4 : Int32) (l5 : Int32)  (M : pt_M) (h1 : l2 ≤ l5) (h2 : pt_in l1 6) :
    pt_Go YX7_fill (6, [(0, pt_r 7 0), (1, pt_i l1), (2, pt_i l2), (3, pt_r 38 0), (4, pt_i l4), (5, pt_i l5)], [], M)
      (91, [(0, pt_r 7 0), (1, pt_i l1), (2, pt_i l2), (3, pt_r 38 0), (4, pt_i l4), (5, pt_i l5)], [], (pt_wA M 31 0 (upd (pt_A M 31 0) (pt_nt l1) l2))) :=
  pt_run_ok tX7_fill_ok 8 [.inl true] (P := (l2 ≤ l5) ∧ (pt_in l1 6) ∧ True) (by with_unfolding_all rfl) ⟨h1, h2, trivial⟩
set_option maxRecDepth 100000 in
theorem gX7_fill_18_1 (l1 : Int32) (l2 : Int32) (l4 : Int32) (l5 : Int32) (l6 : Int32)  (M : pt_M) (h1 : ¬ l2 ≤ l6) :
    pt_Go YX7_fill (18, [(0, pt_r 7 0), (1, pt_i l1), (2, pt_i l2), (3, pt_r 38 0), (4, pt_i l4), (5, pt_i l5), (6, pt_i l6)], [], M)
      (30, [(0, pt_r 7 0), (1, pt_i l1), (2, pt_i l2), (3, pt_r 38 0), (4, pt_i l4), (5, pt_i l5), (6, pt_i l6), (7, pt_i (l6 + 1))], [], M) :=
  pt_run_ok tX7_fill_ok 7 [.inl false] (P := (¬ l2 ≤ l6) ∧ True) (by with_unfolding_all rfl) ⟨h1, trivial⟩
set_option maxRecDepth 100000 in
theorem gX7_fill_18_2 (l1 : Int32) (l2 : Int32) (l4 : Int32) (l5 : Int32) (l6 : Int32)  (M : pt_M) (h1 : l2 ≤ l6) :
    pt_Go YX7_fill (18, [(0, pt_r 7 0), (1, pt_i l1), (2, pt_i l2), (3, pt_r 38 0), (4, pt_i l4), (5, pt_i l5), (6, pt_i l6)], [], M)
      (6, [(0, pt_r 7 0), (1, pt_i l1), (2, pt_i l2), (3, pt_r 38 0), (4, pt_i l4), (5, pt_i (l5 + 1))], [], M) :=
  (pt_run_ok tX7_fill_ok 5 [.inl true] (P := (l2 ≤ l6) ∧ True) (by with_unfolding_all rfl) ⟨h1, trivial⟩ : pt_Go YX7_fill _ (6, [(0, pt_r 7 0), (1, pt_i l1), (2, pt_i l2), (3, pt_r 38 0), (4, pt_i l4), (5, pt_i (l5 + 1)), (6, pt_i l6)], [], M)).tr (pt_pick [0, 1, 2, 3, 4, 5] (by with_unfolding_all rfl))
set_option maxRecDepth 100000 in
theorem gX7_fill_30_1 (l1 : Int32) (l2 : Int32) (l4 : Int32) (l5 : Int32) (l6 : Int32) (l7 : Int32)  (M : pt_M) (h1 : ¬ l2 ≤ l7) (h2 : pt_in l4 120) (h3 : (pt_A M 38 0 (pt_nt l4)) = 1) (h4 : pt_in ((120 * l1) + (th_I l5 l6 l7)) 960) :
    pt_Go YX7_fill (30, [(0, pt_r 7 0), (1, pt_i l1), (2, pt_i l2), (3, pt_r 38 0), (4, pt_i l4), (5, pt_i l5), (6, pt_i l6), (7, pt_i l7)], [], M)
      (30, [(0, pt_r 7 0), (1, pt_i l1), (2, pt_i l2), (3, pt_r 38 0), (4, pt_i (l4 + 1)), (5, pt_i l5), (6, pt_i l6), (7, pt_i (l7 + 1))], [], (se_M M (120 * l1) l5 l6 l7 1)) :=
  pt_run_ok tX7_fill_ok 21 [.inl false, .inl false, .inr (6, none, (se_M M (120 * l1) l5 l6 l7 1))] (P := (¬ l2 ≤ l7) ∧ (pt_in l4 120) ∧ ((pt_A M 38 0 (pt_nt l4)) = 1) ∧ pt_Cal YX7_fill (.invokevirtual 99) [pt_r 7 0, pt_i (120 * l1), pt_i l5, pt_i l6, pt_i l7, pt_i 1] M none (se_M M (120 * l1) l5 l6 l7 1) ∧ True) (by with_unfolding_all rfl) ⟨h1, h2, h3, (pt_callV (i := 0) kX7_fill_99 mX7_set rfl (by decide) rfl (dX7_set h4)), trivial⟩
set_option maxRecDepth 100000 in
theorem gX7_fill_30_2 (l1 : Int32) (l2 : Int32) (l4 : Int32) (l5 : Int32) (l6 : Int32) (l7 : Int32)  (M : pt_M) (h1 : ¬ l2 ≤ l7) (h2 : pt_in l4 120) (h3 : ¬ (pt_A M 38 0 (pt_nt l4)) = 1) (h4 : pt_in ((120 * l1) + (th_I l5 l6 l7)) 960) :
    pt_Go YX7_fill (30, [(0, pt_r 7 0), (1, pt_i l1), (2, pt_i l2), (3, pt_r 38 0), (4, pt_i l4), (5, pt_i l5), (6, pt_i l6), (7, pt_i l7)], [], M)
      (30, [(0, pt_r 7 0), (1, pt_i l1), (2, pt_i l2), (3, pt_r 38 0), (4, pt_i (l4 + 1)), (5, pt_i l5), (6, pt_i l6), (7, pt_i (l7 + 1))], [], (se_M M (120 * l1) l5 l6 l7 (-1))) :=
  pt_run_ok tX7_fill_ok 20 [.inl false, .inl true, .inr (6, none, (se_M M (120 * l1) l5 l6 l7 (-1)))] (P := (¬ l2 ≤ l7) ∧ (pt_in l4 120) ∧ (¬ (pt_A M 38 0 (pt_nt l4)) = 1) ∧ pt_Cal YX7_fill (.invokevirtual 99) [pt_r 7 0, pt_i (120 * l1), pt_i l5, pt_i l6, pt_i l7, pt_i (-1)] M none (se_M M (120 * l1) l5 l6 l7 (-1)) ∧ True) (by with_unfolding_all rfl) ⟨h1, h2, h3, (pt_callV (i := 0) kX7_fill_99 mX7_set rfl (by decide) rfl (dX7_set h4)), trivial⟩
set_option maxRecDepth 100000 in
theorem gX7_fill_30_3 (l1 : Int32) (l2 : Int32) (l4 : Int32) (l5 : Int32) (l6 : Int32) (l7 : Int32)  (M : pt_M) (h1 : l2 ≤ l7) :
    pt_Go YX7_fill (30, [(0, pt_r 7 0), (1, pt_i l1), (2, pt_i l2), (3, pt_r 38 0), (4, pt_i l4), (5, pt_i l5), (6, pt_i l6), (7, pt_i l7)], [], M)
      (18, [(0, pt_r 7 0), (1, pt_i l1), (2, pt_i l2), (3, pt_r 38 0), (4, pt_i l4), (5, pt_i l5), (6, pt_i (l6 + 1))], [], M) :=
  (pt_run_ok tX7_fill_ok 5 [.inl true] (P := (l2 ≤ l7) ∧ True) (by with_unfolding_all rfl) ⟨h1, trivial⟩ : pt_Go YX7_fill _ (18, [(0, pt_r 7 0), (1, pt_i l1), (2, pt_i l2), (3, pt_r 38 0), (4, pt_i l4), (5, pt_i l5), (6, pt_i (l6 + 1)), (7, pt_i l7)], [], M)).tr (pt_pick [0, 1, 2, 3, 4, 5, 6] (by with_unfolding_all rfl))
theorem dX7_fill {s n : Nat} {M : pt_M} (hs : s < 6) (hn : n ≤ 10) : pt_Does yX7_fill YX7_fill [pt_r 7 0, pt_i (nI s), pt_i (nI n), pt_r 38 0] M none (sl_M (st_M M (120 * s) n fun i j k => decide (pt_A M 38 0 (rk_F n i j k) = 1)) s n) := by
  generalize hS : (fun i j k => decide (pt_A M 38 0 (rk_F n i j k) = 1)) = S
  have ho : 120 * s + 120 ≤ 960 := by omega
  have K := pt_three (Y := YX7_fill) (n := n)
    (fun i => (6, [(0, pt_r 7 0), (1, pt_i (nI s)), (2, pt_i (nI n)), (3, pt_r 38 0), (4, pt_i (nI (rk_F n i (i + 1) (i + 2)))), (5, pt_i (nI i))], [], sp_M M (120 * s) n S i (i + 1) (i + 2)))
    (fun i j => (18, [(0, pt_r 7 0), (1, pt_i (nI s)), (2, pt_i (nI n)), (3, pt_r 38 0), (4, pt_i (nI (rk_F n i j (j + 1)))), (5, pt_i (nI i)), (6, pt_i (nI j))], [], sp_M M (120 * s) n S i j (j + 1)))
    (fun i j k => (30, [(0, pt_r 7 0), (1, pt_i (nI s)), (2, pt_i (nI n)), (3, pt_r 38 0), (4, pt_i (nI (rk_F n i j k))), (5, pt_i (nI i)), (6, pt_i (nI j)), (7, pt_i (nI k))], [], sp_M M (120 * s) n S i j k))
    (fun i hi => (gX7_fill_6_1 (nI s) (nI n) _ (nI i) _ (nI_ge hi (by omega))).to (by rw [nI_1]))
    (fun i j hij hj => (gX7_fill_18_1 (nI s) (nI n) _ (nI i) (nI j) _ (nI_ge hj (by omega))).to (by rw [nI_1]))
    (fun i hi => (gX7_fill_18_2 (nI s) (nI n) _ (nI i) (nI n) _ (Int32.le_refl _)).to (by rw [nI_1, sp_i (Nat.le_refl n), rk_i (n + 1) (Nat.le_refl _)]))
    (fun i j k hij hjk hk => by
      obtain ⟨hr1, hr2⟩ := rk_lt n hn i (by omega) j (by omega) k hk hij hjk
      have h8 : pt_in (nI (rk_F n i j k)) 120 := pt_in_nI (by omega) (by decide)
      have hin := si_in ho hij hjk (show k < 10 by omega)
      have hSv : S i j k = decide (pt_A M 38 0 (rk_F n i j k) = 1) := by rw [← hS]
      have hA : pt_A (sp_M M (120 * s) n S i j k) 38 0 (pt_nt (nI (rk_F n i j k))) = pt_A M 38 0 (rk_F n i j k) := by
        rw [pt_nt_nI (by omega)]
        rfl
      by_cases hv : pt_A M 38 0 (rk_F n i j k) = 1
      · refine (gX7_fill_30_1 (nI s) (nI n) (nI (rk_F n i j k)) (nI i) (nI j) (nI k) _ (nI_ge hk (by omega)) h8 (hA.trans hv) (by rw [m120]; exact hin)).to ?_
        rw [nI_1, nI_1, ← rk_k hjk, m120, sp_k ho hn hij hjk hk (by rw [hSv, decide_eq_true hv]; rfl)]
      · refine (gX7_fill_30_2 (nI s) (nI n) (nI (rk_F n i j k)) (nI i) (nI j) (nI k) _ (nI_ge hk (by omega)) h8 (fun z => hv (hA.symm.trans z)) (by rw [m120]; exact hin)).to ?_
        rw [nI_1, nI_1, ← rk_k hjk, m120, sp_k ho hn hij hjk hk (by rw [hSv, decide_eq_false hv]; rfl)])
    (fun i j hij hj => (gX7_fill_30_3 (nI s) (nI n) _ (nI i) (nI j) (nI n) _ (Int32.le_refl _)).to (by rw [nI_1, sp_j, rk_j hij hj]))
  refine rX7_fill_91 (Nat.le_of_ble_eq_true rfl) rfl (((gX7_fill_0_1 (nI s) (nI n) M).to ?_).tr (K.tr ((gX7_fill_6_2 (nI s) (nI n) _ (nI n) _ (Int32.le_refl _) (pt_in_nI hs (by decide))).toM ?_)))
  · show _ = (6, _, _, sp_M M (120 * s) n S 0 1 2)
    rw [sp_0]
    rfl
  · rw [pt_nt_nI (by omega), sp_n]
    rfl
/-! pick -/
theorem rX7_pick_98 {vs : List pt_V} {M M' : pt_M} {L : List (Nat × pt_V)} (hvs : (vs.map pt_w).sum ≤ 7) (hX : M'.2.2.2.2 = M.2.2.2.2) (h : pt_Go YX7_pick (0, pt_en 0 vs, [], M) (98, L, [], M')) : pt_Does yX7_pick YX7_pick vs M none M' := pt_does_go tX7_pick_ok nX7_pick hvs hX ⟨_, by with_unfolding_all rfl, rfl, rfl⟩ h
set_option maxRecDepth 100000 in
theorem gX7_pick_0_1 (x1 : Int32) (x2 : Int32) (x3 : Int32) (n : Nat) (B : Nat → Nat → Nat → Bool) (M : pt_M) :
    pt_Go YX7_pick (0, [(0, pt_r 7 0), (1, pt_i x1), (2, pt_i x2), (3, pt_i x3)], [], M)
      (3, [(0, pt_r 7 0), (1, pt_i x1), (2, pt_i x2), (3, pt_i x3), (4, pt_i 0)], [], M) :=
  pt_run_ok tX7_pick_ok 2 [] (P := True) (by with_unfolding_all rfl) trivial
set_option maxRecDepth 100000 in
theorem gX7_pick_3_1 (l1 : Int32) (l2 : Int32) (l3 : Int32) (l4 : Int32) (n : Nat) (B : Nat → Nat → Nat → Bool) (M : pt_M) (h1 : ¬ l3 ≤ l4) :
    pt_Go YX7_pick (3, [(0, pt_r 7 0), (1, pt_i l1), (2, pt_i l2), (3, pt_i l3), (4, pt_i l4)], [], M)
      (15, [(0, pt_r 7 0), (1, pt_i l1), (2, pt_i l2), (3, pt_i l3), (4, pt_i l4), (5, pt_i (l4 + 1))], [], M) :=
  pt_run_ok tX7_pick_ok 7 [.inl false] (P := (¬ l3 ≤ l4) ∧ True) (by with_unfolding_all rfl) ⟨h1, trivial⟩
set_option maxRecDepth 100000 in
theorem gX7_pick_3_2 (l1 : Int32) (l2 : Int32) (l3 : Int32) (l4 : Int32) (n : Nat) (B : Nat → Nat → Nat → Bool) (M : pt_M) (h1 : l3 ≤ l4) (h2 : cc_P 840 l2) :
    pt_Go YX7_pick (3, [(0, pt_r 7 0), (1, pt_i l1), (2, pt_i l2), (3, pt_i l3), (4, pt_i l4)], [], M)
      (98, [(0, pt_r 7 0), (1, pt_i l1), (2, pt_i l2), (3, pt_i l3), (4, pt_i l4)], [], (cc_M M 840 l2)) :=
  pt_run_ok tX7_pick_ok 7 [.inl true, .inr (3, none, (cc_M M 840 l2))] (P := (l3 ≤ l4) ∧ pt_Cal YX7_pick (.invokevirtual 103) [pt_r 7 0, pt_i 840, pt_i l2] M none (cc_M M 840 l2) ∧ True) (by with_unfolding_all rfl) ⟨h1, (pt_callV (i := 0) kX7_pick_103 mX7_copy rfl (by decide) rfl (dX7_copy h2)), trivial⟩
set_option maxRecDepth 100000 in
theorem gX7_pick_15_1 (l1 : Int32) (l2 : Int32) (l3 : Int32) (l4 : Int32) (l5 : Int32) (n : Nat) (B : Nat → Nat → Nat → Bool) (M : pt_M) (h1 : ¬ l3 ≤ l5) :
    pt_Go YX7_pick (15, [(0, pt_r 7 0), (1, pt_i l1), (2, pt_i l2), (3, pt_i l3), (4, pt_i l4), (5, pt_i l5)], [], M)
      (27, [(0, pt_r 7 0), (1, pt_i l1), (2, pt_i l2), (3, pt_i l3), (4, pt_i l4), (5, pt_i l5), (6, pt_i (l5 + 1))], [], M) :=
  pt_run_ok tX7_pick_ok 7 [.inl false] (P := (¬ l3 ≤ l5) ∧ True) (by with_unfolding_all rfl) ⟨h1, trivial⟩
set_option maxRecDepth 100000 in
theorem gX7_pick_15_2 (l1 : Int32) (l2 : Int32) (l3 : Int32) (l4 : Int32) (l5 : Int32) (n : Nat) (B : Nat → Nat → Nat → Bool) (M : pt_M) (h1 : l3 ≤ l5) :
    pt_Go YX7_pick (15, [(0, pt_r 7 0), (1, pt_i l1), (2, pt_i l2), (3, pt_i l3), (4, pt_i l4), (5, pt_i l5)], [], M)
      (3, [(0, pt_r 7 0), (1, pt_i l1), (2, pt_i l2), (3, pt_i l3), (4, pt_i (l4 + 1))], [], M) :=
  (pt_run_ok tX7_pick_ok 5 [.inl true] (P := (l3 ≤ l5) ∧ True) (by with_unfolding_all rfl) ⟨h1, trivial⟩ : pt_Go YX7_pick _ (3, [(0, pt_r 7 0), (1, pt_i l1), (2, pt_i l2), (3, pt_i l3), (4, pt_i (l4 + 1)), (5, pt_i l5)], [], M)).tr (pt_pick [0, 1, 2, 3, 4] (by with_unfolding_all rfl))
set_option maxRecDepth 100000 in
theorem gX7_pick_27_1 (l1 : Int32) (l2 : Int32) (l3 : Int32) (l4 : Int32) (l5 : Int32) (l6 : Int32) (n : Nat) (B : Nat → Nat → Nat → Bool) (M : pt_M) (h1 : ¬ l3 ≤ l6) (h2 : pt_in l4 10) (h3 : pt_in l5 10) (h4 : pt_in l6 10) (h5 : tq_P M l1 (pt_A M 35 0 (pt_nt l4)) (pt_A M 35 0 (pt_nt l5)) (pt_A M 35 0 (pt_nt l6)) n B) (h6 : pt_in (840 + (th_I l4 l5 l6)) 960) :
    pt_Go YX7_pick (27, [(0, pt_r 7 0), (1, pt_i l1), (2, pt_i l2), (3, pt_i l3), (4, pt_i l4), (5, pt_i l5), (6, pt_i l6)], [], M)
      (27, [(0, pt_r 7 0), (1, pt_i l1), (2, pt_i l2), (3, pt_i l3), (4, pt_i l4), (5, pt_i l5), (6, pt_i (l6 + 1))], [], (se_M M 840 l4 l5 l6 (ta_I B (pt_A M 35 0 (pt_nt l4)) (pt_A M 35 0 (pt_nt l5)) (pt_A M 35 0 (pt_nt l6))))) :=
  pt_run_ok tX7_pick_ok 26 [.inl false, .inr (5, some (pt_i (ta_I B (pt_A M 35 0 (pt_nt l4)) (pt_A M 35 0 (pt_nt l5)) (pt_A M 35 0 (pt_nt l6)))), M), .inr (6, none, (se_M M 840 l4 l5 l6 (ta_I B (pt_A M 35 0 (pt_nt l4)) (pt_A M 35 0 (pt_nt l5)) (pt_A M 35 0 (pt_nt l6)))))] (P := (¬ l3 ≤ l6) ∧ (pt_in l4 10) ∧ (pt_in l5 10) ∧ (pt_in l6 10) ∧ pt_Cal YX7_pick (.invokevirtual 81) [pt_r 7 0, pt_i l1, pt_i (pt_A M 35 0 (pt_nt l4)), pt_i (pt_A M 35 0 (pt_nt l5)), pt_i (pt_A M 35 0 (pt_nt l6))] M (some (pt_i (ta_I B (pt_A M 35 0 (pt_nt l4)) (pt_A M 35 0 (pt_nt l5)) (pt_A M 35 0 (pt_nt l6))))) M ∧ pt_Cal YX7_pick (.invokevirtual 99) [pt_r 7 0, pt_i 840, pt_i l4, pt_i l5, pt_i l6, pt_i (ta_I B (pt_A M 35 0 (pt_nt l4)) (pt_A M 35 0 (pt_nt l5)) (pt_A M 35 0 (pt_nt l6)))] M none (se_M M 840 l4 l5 l6 (ta_I B (pt_A M 35 0 (pt_nt l4)) (pt_A M 35 0 (pt_nt l5)) (pt_A M 35 0 (pt_nt l6)))) ∧ True) (by with_unfolding_all rfl) ⟨h1, h2, h3, h4, (pt_callV (i := 0) kX7_pick_81 mX7_turnAt rfl (by decide) rfl (dX7_turnAt_t h5)), (pt_callV (i := 0) kX7_pick_99 mX7_set rfl (by decide) rfl (dX7_set h6)), trivial⟩
set_option maxRecDepth 100000 in
theorem gX7_pick_27_2 (l1 : Int32) (l2 : Int32) (l3 : Int32) (l4 : Int32) (l5 : Int32) (l6 : Int32) (n : Nat) (B : Nat → Nat → Nat → Bool) (M : pt_M) (h1 : l3 ≤ l6) :
    pt_Go YX7_pick (27, [(0, pt_r 7 0), (1, pt_i l1), (2, pt_i l2), (3, pt_i l3), (4, pt_i l4), (5, pt_i l5), (6, pt_i l6)], [], M)
      (15, [(0, pt_r 7 0), (1, pt_i l1), (2, pt_i l2), (3, pt_i l3), (4, pt_i l4), (5, pt_i (l5 + 1))], [], M) :=
  (pt_run_ok tX7_pick_ok 5 [.inl true] (P := (l3 ≤ l6) ∧ True) (by with_unfolding_all rfl) ⟨h1, trivial⟩ : pt_Go YX7_pick _ (15, [(0, pt_r 7 0), (1, pt_i l1), (2, pt_i l2), (3, pt_i l3), (4, pt_i l4), (5, pt_i (l5 + 1)), (6, pt_i l6)], [], M)).tr (pt_pick [0, 1, 2, 3, 4, 5] (by with_unfolding_all rfl))
theorem dX7_pick {o d n m : Nat} {g : Nat → Nat} {B : Nat → Nat → Nat → Bool} {M : pt_M} (h : ml_P M o n B) (hto : d + 120 ≤ 720) (ho7 : o + 120 ≤ 840) (hm : m ≤ 10) (hg : ∀ i, i < m → pt_A M 35 0 i = nI (g i) ∧ g i < n) (hinj : ∀ i j, i < m → j < m → g i = g j → i = j) : pt_Does yX7_pick YX7_pick [pt_r 7 0, pt_i (nI o), pt_i (nI d), pt_i (nI m)] M none (cc_M (st_M M 840 m fun i j k => B (g i) (g j) (g k)) 840 (nI d)) := by
  generalize hS : (fun i j k => B (g i) (g j) (g k)) = S
  have hn := h.2.1
  have K := pt_three (Y := YX7_pick) (n := m)
    (fun i => (3, [(0, pt_r 7 0), (1, pt_i (nI o)), (2, pt_i (nI d)), (3, pt_i (nI m)), (4, pt_i (nI i))], [], sp_M M 840 m S i (i + 1) (i + 2)))
    (fun i j => (15, [(0, pt_r 7 0), (1, pt_i (nI o)), (2, pt_i (nI d)), (3, pt_i (nI m)), (4, pt_i (nI i)), (5, pt_i (nI j))], [], sp_M M 840 m S i j (j + 1)))
    (fun i j k => (27, [(0, pt_r 7 0), (1, pt_i (nI o)), (2, pt_i (nI d)), (3, pt_i (nI m)), (4, pt_i (nI i)), (5, pt_i (nI j)), (6, pt_i (nI k))], [], sp_M M 840 m S i j k))
    (fun i hi => (gX7_pick_3_1 (nI o) (nI d) (nI m) (nI i) n B _ (nI_ge hi (by omega))).to (by rw [nI_1]))
    (fun i j hij hj => (gX7_pick_15_1 (nI o) (nI d) (nI m) (nI i) (nI j) n B _ (nI_ge hj (by omega))).to (by rw [nI_1]))
    (fun i hi => (gX7_pick_15_2 (nI o) (nI d) (nI m) (nI i) (nI m) n B _ (Int32.le_refl _)).to (by rw [nI_1, sp_i (Nat.le_refl m)]))
    (fun i j k hij hjk hk => by
      have hin := si_in (o := 840) (by decide) hij hjk (show k < 10 by omega)
      have hA : ∀ a, a < m → pt_A (sp_M M 840 m S i j k) 35 0 (pt_nt (nI a)) = nI (g a) := fun a ha => by
        rw [pt_nt_nI (by omega)]
        exact (hg a ha).1
      have e1 := hA i (by omega)
      have e2 := hA j (by omega)
      have e3 := hA k (by omega)
      have l1 := (hg i (by omega)).2
      have l2 := (hg j (by omega)).2
      have l3 := (hg k (by omega)).2
      have hml : ml_P (sp_M M 840 m S i j k) o n B := ml_sp h (by omega)
      refine (gX7_pick_27_1 (nI o) (nI d) (nI m) (nI i) (nI j) (nI k) n B _ (nI_ge hk (by omega)) (pt_in_nI (by omega) (by decide)) (pt_in_nI (by omega) (by decide)) (pt_in_nI (by omega) (by decide)) ?_ hin).to ?_
      · rw [e1, e2, e3]
        exact tq_of hml l1 l2 l3 (fun z => by have := hinj i j (by omega) (by omega) z; omega) (fun z => by have := hinj j k (by omega) (by omega) z; omega) (fun z => by have := hinj i k (by omega) (by omega) z; omega)
      · rw [e1, e2, e3, ta_nI (by omega) (by omega) (by omega), nI_1, show (840 : Int32) = nI 840 from rfl, sp_k (by decide) hm hij hjk hk (by rw [← hS])])
    (fun i j hij hj => (gX7_pick_27_2 (nI o) (nI d) (nI m) (nI i) (nI j) (nI m) n B _ (Int32.le_refl _)).to (by rw [nI_1, sp_j]))
  refine rX7_pick_98 (Nat.le_of_ble_eq_true rfl) rfl (((gX7_pick_0_1 (nI o) (nI d) (nI m) n B M).to ?_).tr (K.tr ((gX7_pick_3_2 (nI o) (nI d) (nI m) (nI m) n B _ (Int32.le_refl _) ⟨840, d, rfl, rfl, by decide, by omega, by omega⟩).toM ?_)))
  · show _ = (3, _, _, sp_M M 840 m S 0 1 2)
    rw [sp_0]
    rfl
  · rw [sp_n]
