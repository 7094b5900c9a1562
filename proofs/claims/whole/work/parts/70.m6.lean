/-! around: the insertion -/
def ar_M (r t : Nat) : Nat := if r < t then t else t + 1
def io_F (f : Nat → Int32) (m c q : Nat) : Nat → Int32 := fun e => if e = c + 1 then nI q else if c + 1 < e ∧ e ≤ m then f (e - 1) else f e
def sd_F (f : Nat → Int32) (m d : Nat) : Nat → Int32 := fun e => if m - d < e ∧ e ≤ m then f (e - 1) else f e
def ao_F (B : Nat → Nat → Nat → Bool) (r : Nat) (f : Nat → Int32) : Nat → Nat → Int32
  | 0 => upd f 0 (nI r)
  | t + 1 => if t = r then ao_F B r f t else io_F (ao_F B r f t) (ar_M r t) (ct_N (fun k => B r k t) t) t
def ao_P (B : Nat → Nat → Nat → Bool) (r t : Nat) (f : Nat → Int32) : Prop := f 0 = nI r ∧ ∀ e, 1 ≤ e → e < ar_M r t → ∃ p, p < t ∧ p ≠ r ∧ f e = nI p ∧ ra_F B r t p = e
theorem ar_c {n r t : Nat} {B : Nat → Nat → Nat → Bool} (hd : dg_P n B) : ct_N (fun k => B r k t) t < ar_M r t := by
  unfold ar_M
  split
  · have a := ct_lt (f := fun k => B r k t) (g := fun _ => true) (fun _ _ => rfl) (y := r) rfl (hd r r t (pb_gf fun z => z.2.2.2.1 rfl)) t (by assumption)
    have b := ct_le (fun _ => true) t
    omega
  · have := ct_le (fun k => B r k t) t
    omega
theorem ra_s {B : Nat → Nat → Nat → Bool} {r t p : Nat} : ra_F B r (t + 1) p = ra_F B r t p + if B r t p then 1 else 0 := by
  show 1 + (ct_N (fun k => B r k p) t + if B r t p then 1 else 0) = 1 + ct_N (fun k => B r k p) t + if B r t p then 1 else 0
  omega
theorem ao_ok {n r : Nat} {B : Nat → Nat → Nat → Bool} {f : Nat → Int32} (h : lw_P n B) (hd : dg_P n B) (hr : rm_P n B r) : ∀ t, t ≤ n → ao_P B r t (ao_F B r f t)
  | 0, _ => ⟨(show (if (0 : Nat) = 0 then nI r else f 0) = nI r from if_pos rfl), fun e h1 h2 => by
      unfold ar_M at h2
      rw [if_neg (by omega)] at h2
      omega⟩
  | t + 1, ht => by
    obtain ⟨a, b⟩ := ao_ok (f := f) h hd hr t (by omega)
    have e0 : ao_F B r f (t + 1) = if t = r then ao_F B r f t else io_F (ao_F B r f t) (ar_M r t) (ct_N (fun k => B r k t) t) t := rfl
    by_cases c : t = r
    · rw [e0, if_pos c]
      refine ⟨a, fun e h1 h2 => ?_⟩
      have h2 : e < ar_M r t := by
        unfold ar_M at h2 ⊢
        rw [if_pos (by omega)] at h2
        rw [if_neg (by omega)]
        exact h2
      obtain ⟨p, p1, p2, p3, p4⟩ := b e h1 h2
      refine ⟨p, by omega, p2, p3, ?_⟩
      rw [ra_s, p4, c, hd r r p (pb_gf fun z => z.2.2.2.1 rfl)]
      rfl
    · rw [e0, if_neg c]
      have hm : ar_M r (t + 1) = ar_M r t + 1 := by
        unfold ar_M
        by_cases d : r < t
        · rw [if_pos d, if_pos (by omega)]
        · rw [if_neg d, if_neg (by omega)]
      have hc := ar_c (n := n) (r := r) (t := t) hd
      generalize hcc : ct_N (fun k => B r k t) t = cc at *
      generalize ar_M r t = m at *
      refine ⟨?_, fun e h1 h2 => ?_⟩
      · show (if 0 = cc + 1 then nI t else if cc + 1 < 0 ∧ 0 ≤ m then ao_F B r f t (0 - 1) else ao_F B r f t 0) = nI r
        rw [if_neg (by omega), if_neg (by omega)]
        exact a
      · show ∃ p, p < t + 1 ∧ p ≠ r ∧ (if e = cc + 1 then nI t else if cc + 1 < e ∧ e ≤ m then ao_F B r f t (e - 1) else ao_F B r f t e) = nI p ∧ ra_F B r (t + 1) p = e
        by_cases c1 : e = cc + 1
        · refine ⟨t, by omega, c, if_pos c1, ?_⟩
          rw [ra_s, hd r t t (pb_gf fun z => z.2.2.2.2.1 rfl), c1]
          show 1 + ct_N (fun k => B r k t) t + 0 = _
          rw [hcc]
          omega
        by_cases c2 : cc + 1 < e
        · obtain ⟨p, p1, p2, p3, p4⟩ := b (e - 1) (by omega) (by omega)
          have hb : B r p t = false := by
            cases hb : B r p t
            · rfl
            · have := ra_y h hd hr (t := t) (q := t) (by omega) p1 (by omega) p2 c (by omega) hb
              omega
          refine ⟨p, by omega, p2, ?_, ?_⟩
          · rw [if_neg c1, if_pos ⟨c2, by omega⟩]
            exact p3
          · rw [ra_s, p4, lw_an h hr.1 (by omega) (by omega) (Ne.symm p2) (by omega : p ≠ t) (Ne.symm c), hb]
            show e - 1 + 1 = e
            omega
        · obtain ⟨p, p1, p2, p3, p4⟩ := b e h1 (by omega)
          have hb : B r p t = true := by
            cases hb : B r p t
            · have := ra_n h hd hr (t := t) (q := t) (by omega) (by omega) p2 c (by omega) hb
              omega
            · rfl
          refine ⟨p, by omega, p2, ?_, ?_⟩
          · rw [if_neg c1, if_neg (by omega)]
            exact p3
          · rw [ra_s, p4, lw_an h hr.1 (by omega) (by omega) (Ne.symm p2) (by omega : p ≠ t) (Ne.symm c), hb]
            rfl
theorem sd_0 {f : Nat → Int32} {m : Nat} : sd_F f m 0 = f := by
  funext e
  exact if_neg (by omega)
theorem sd_s {f : Nat → Int32} {m d : Nat} (h : d < m) : upd (sd_F f m d) (m - d) (f (m - d - 1)) = sd_F f m (d + 1) := by
  funext e
  show (if e = m - d then f (m - d - 1) else if m - d < e ∧ e ≤ m then f (e - 1) else f e) = if m - (d + 1) < e ∧ e ≤ m then f (e - 1) else f e
  by_cases c : e = m - d
  · rw [if_pos c, if_pos (by omega), c]
  · rw [if_neg c]
    by_cases c2 : m - d < e ∧ e ≤ m
    · rw [if_pos c2, if_pos (by omega)]
    · rw [if_neg c2, if_neg (by omega)]
theorem sd_e {f : Nat → Int32} {m c q : Nat} (h : c < m) : upd (sd_F f m (m - 1 - c)) (c + 1) (nI q) = io_F f m c q := by
  funext e
  show (if e = c + 1 then nI q else if m - (m - 1 - c) < e ∧ e ≤ m then f (e - 1) else f e) = if e = c + 1 then nI q else if c + 1 < e ∧ e ≤ m then f (e - 1) else f e
  by_cases c1 : e = c + 1
  · rw [if_pos c1, if_pos c1]
  · rw [if_neg c1, if_neg c1]
    by_cases c2 : c + 1 < e ∧ e ≤ m
    · rw [if_pos c2, if_pos (by omega)]
    · rw [if_neg c2, if_neg (by omega)]
theorem rX7_around_98 {vs : List pt_V} {M M' : pt_M} {L : List (Nat × pt_V)} (hvs : (vs.map pt_w).sum ≤ 7) (hX : M'.2.2.2.2 = M.2.2.2.2) (h : pt_Go YX7_around (0, pt_en 0 vs, [], M) (98, L, [], M')) : pt_Does yX7_around YX7_around vs M none M' := pt_does_go tX7_around_ok nX7_around hvs hX ⟨_, by with_unfolding_all rfl, rfl, rfl⟩ h
set_option maxRecDepth 100000 in
theorem gX7_around_0_1 (x1 : Int32) (x2 : Int32) (x3 : Int32) (n : Nat) (B : Nat → Nat → Nat → Bool) (M : pt_M) :
    pt_Go YX7_around (0, [(0, pt_r 7 0), (1, pt_i x1), (2, pt_i x2), (3, pt_i x3)], [], M)
      (13, [(0, pt_r 7 0), (1, pt_i x1), (2, pt_i x2), (3, pt_i x3), (4, pt_i 1), (5, pt_i 0)], [], (pt_wA M 35 0 (upd (pt_A M 35 0) (pt_nt 0) x3))) :=
  pt_run_ok tX7_around_ok 9 [] (P := (pt_in 0 10) ∧ True) (by with_unfolding_all rfl) ⟨(by unfold pt_in; decide), trivial⟩
set_option maxRecDepth 100000 in
theorem gX7_around_13_1 (l1 : Int32) (l2 : Int32) (l3 : Int32) (l4 : Int32) (l5 : Int32) (n : Nat) (B : Nat → Nat → Nat → Bool) (M : pt_M) (h1 : ¬ l2 ≤ l5) (h2 : l5 = l3) :
    pt_Go YX7_around (13, [(0, pt_r 7 0), (1, pt_i l1), (2, pt_i l2), (3, pt_i l3), (4, pt_i l4), (5, pt_i l5)], [], M)
      (13, [(0, pt_r 7 0), (1, pt_i l1), (2, pt_i l2), (3, pt_i l3), (4, pt_i l4), (5, pt_i (l5 + 1))], [], M) :=
  pt_run_ok tX7_around_ok 9 [.inl false, .inl false] (P := (¬ l2 ≤ l5) ∧ (l5 = l3) ∧ True) (by with_unfolding_all rfl) ⟨h1, h2, trivial⟩
set_option maxRecDepth 100000 in
theorem gX7_around_13_2 (l1 : Int32) (l2 : Int32) (l3 : Int32) (l4 : Int32) (l5 : Int32) (n : Nat) (B : Nat → Nat → Nat → Bool) (M : pt_M) (h1 : ¬ l2 ≤ l5) (h2 : ¬ l5 = l3) :
    pt_Go YX7_around (13, [(0, pt_r 7 0), (1, pt_i l1), (2, pt_i l2), (3, pt_i l3), (4, pt_i l4), (5, pt_i l5)], [], M)
      (32, [(0, pt_r 7 0), (1, pt_i l1), (2, pt_i l2), (3, pt_i l3), (4, pt_i l4), (5, pt_i l5), (6, pt_i l4)], [], M) :=
  pt_run_ok tX7_around_ok 8 [.inl false, .inl true] (P := (¬ l2 ≤ l5) ∧ (¬ l5 = l3) ∧ True) (by with_unfolding_all rfl) ⟨h1, h2, trivial⟩
set_option maxRecDepth 100000 in
theorem gX7_around_13_3 (l1 : Int32) (l2 : Int32) (l3 : Int32) (l4 : Int32) (l5 : Int32) (n : Nat) (B : Nat → Nat → Nat → Bool) (M : pt_M) (h1 : l2 ≤ l5) :
    pt_Go YX7_around (13, [(0, pt_r 7 0), (1, pt_i l1), (2, pt_i l2), (3, pt_i l3), (4, pt_i l4), (5, pt_i l5)], [], M)
      (98, [(0, pt_r 7 0), (1, pt_i l1), (2, pt_i l2), (3, pt_i l3), (4, pt_i l4), (5, pt_i l5)], [], M) :=
  pt_run_ok tX7_around_ok 3 [.inl true] (P := (l2 ≤ l5) ∧ True) (by with_unfolding_all rfl) ⟨h1, trivial⟩
set_option maxRecDepth 100000 in
theorem gX7_around_32_1 (l1 : Int32) (l2 : Int32) (l3 : Int32) (l4 : Int32) (l5 : Int32) (l6 : Int32) (n : Nat) (B : Nat → Nat → Nat → Bool) (M : pt_M) (h1 : ¬ l6 ≤ 1) (h2 : pt_in (l6 - 1) 10) (h3 : tq_P M l1 l3 (pt_A M 35 0 (pt_nt (l6 - 1))) l5 n B) (h4 : (tl_I B l3 (pt_A M 35 0 (pt_nt (l6 - 1))) l5) = 0) (h5 : pt_in l6 10) :
    pt_Go YX7_around (32, [(0, pt_r 7 0), (1, pt_i l1), (2, pt_i l2), (3, pt_i l3), (4, pt_i l4), (5, pt_i l5), (6, pt_i l6)], [], M)
      (32, [(0, pt_r 7 0), (1, pt_i l1), (2, pt_i l2), (3, pt_i l3), (4, pt_i l4), (5, pt_i l5), (6, pt_i (l6 + (-1)))], [], (pt_wA M 35 0 (upd (pt_A M 35 0) (pt_nt l6) (pt_A M 35 0 (pt_nt (l6 - 1)))))) :=
  pt_run_ok tX7_around_ok 27 [.inl false, .inr (5, some (pt_i (tl_I B l3 (pt_A M 35 0 (pt_nt (l6 - 1))) l5)), M), .inl false] (P := (¬ l6 ≤ 1) ∧ (pt_in (l6 - 1) 10) ∧ pt_Cal YX7_around (.invokevirtual 118) [pt_r 7 0, pt_i l1, pt_i l3, pt_i (pt_A M 35 0 (pt_nt (l6 - 1))), pt_i l5] M (some (pt_i (tl_I B l3 (pt_A M 35 0 (pt_nt (l6 - 1))) l5))) M ∧ ((tl_I B l3 (pt_A M 35 0 (pt_nt (l6 - 1))) l5) = 0) ∧ (pt_in (l6 - 1) 10) ∧ (pt_in l6 10) ∧ True) (by with_unfolding_all rfl) ⟨h1, h2, (pt_callV (i := 0) kX7_around_118 mX7_left rfl (by decide) rfl (dX7_left_t h3)), h4, h2, h5, trivial⟩
set_option maxRecDepth 100000 in
theorem gX7_around_32_2 (l1 : Int32) (l2 : Int32) (l3 : Int32) (l4 : Int32) (l5 : Int32) (l6 : Int32) (n : Nat) (B : Nat → Nat → Nat → Bool) (M : pt_M) (h1 : ¬ l6 ≤ 1) (h2 : pt_in (l6 - 1) 10) (h3 : tq_P M l1 l3 (pt_A M 35 0 (pt_nt (l6 - 1))) l5 n B) (h4 : ¬ (tl_I B l3 (pt_A M 35 0 (pt_nt (l6 - 1))) l5) = 0) (h5 : pt_in l6 10) :
    pt_Go YX7_around (32, [(0, pt_r 7 0), (1, pt_i l1), (2, pt_i l2), (3, pt_i l3), (4, pt_i l4), (5, pt_i l5), (6, pt_i l6)], [], M)
      (13, [(0, pt_r 7 0), (1, pt_i l1), (2, pt_i l2), (3, pt_i l3), (4, pt_i (l4 + 1)), (5, pt_i (l5 + 1))], [], (pt_wA M 35 0 (upd (pt_A M 35 0) (pt_nt l6) l5))) :=
  (pt_run_ok tX7_around_ok 23 [.inl false, .inr (5, some (pt_i (tl_I B l3 (pt_A M 35 0 (pt_nt (l6 - 1))) l5)), M), .inl true] (P := (¬ l6 ≤ 1) ∧ (pt_in (l6 - 1) 10) ∧ pt_Cal YX7_around (.invokevirtual 118) [pt_r 7 0, pt_i l1, pt_i l3, pt_i (pt_A M 35 0 (pt_nt (l6 - 1))), pt_i l5] M (some (pt_i (tl_I B l3 (pt_A M 35 0 (pt_nt (l6 - 1))) l5))) M ∧ (¬ (tl_I B l3 (pt_A M 35 0 (pt_nt (l6 - 1))) l5) = 0) ∧ (pt_in l6 10) ∧ True) (by with_unfolding_all rfl) ⟨h1, h2, (pt_callV (i := 0) kX7_around_118 mX7_left rfl (by decide) rfl (dX7_left_t h3)), h4, h5, trivial⟩ : pt_Go YX7_around _ (13, [(0, pt_r 7 0), (1, pt_i l1), (2, pt_i l2), (3, pt_i l3), (4, pt_i (l4 + 1)), (5, pt_i (l5 + 1)), (6, pt_i l6)], [], (pt_wA M 35 0 (upd (pt_A M 35 0) (pt_nt l6) l5)))).tr (pt_pick [0, 1, 2, 3, 4, 5] (by with_unfolding_all rfl))
set_option maxRecDepth 100000 in
theorem gX7_around_32_3 (l1 : Int32) (l2 : Int32) (l3 : Int32) (l4 : Int32) (l5 : Int32) (l6 : Int32) (n : Nat) (B : Nat → Nat → Nat → Bool) (M : pt_M) (h1 : l6 ≤ 1) (h2 : pt_in l6 10) :
    pt_Go YX7_around (32, [(0, pt_r 7 0), (1, pt_i l1), (2, pt_i l2), (3, pt_i l3), (4, pt_i l4), (5, pt_i l5), (6, pt_i l6)], [], M)
      (13, [(0, pt_r 7 0), (1, pt_i l1), (2, pt_i l2), (3, pt_i l3), (4, pt_i (l4 + 1)), (5, pt_i (l5 + 1))], [], (pt_wA M 35 0 (upd (pt_A M 35 0) (pt_nt l6) l5))) :=
  (pt_run_ok tX7_around_ok 11 [.inl true] (P := (l6 ≤ 1) ∧ (pt_in l6 10) ∧ True) (by with_unfolding_all rfl) ⟨h1, h2, trivial⟩ : pt_Go YX7_around _ (13, [(0, pt_r 7 0), (1, pt_i l1), (2, pt_i l2), (3, pt_i l3), (4, pt_i (l4 + 1)), (5, pt_i (l5 + 1)), (6, pt_i l6)], [], (pt_wA M 35 0 (upd (pt_A M 35 0) (pt_nt l6) l5)))).tr (pt_pick [0, 1, 2, 3, 4, 5] (by with_unfolding_all rfl))
theorem dX7_around {o n r : Nat} {B : Nat → Nat → Nat → Bool} {M : pt_M} (hml : ml_P M o n B) (h : lw_P n B) (hd : dg_P n B) (hr : rm_P n B r) : pt_Does yX7_around YX7_around [pt_r 7 0, pt_i (nI o), pt_i (nI n), pt_i (nI r)] M none (pt_wA M 35 0 (ao_F B r (pt_A M 35 0) n)) := by
  have hn := h.1
  have ho := hml.1
  have r1 := hr.1
  have K := pt_for0 (Y := YX7_around) (fun t => (13, [(0, pt_r 7 0), (1, pt_i (nI o)), (2, pt_i (nI n)), (3, pt_i (nI r)), (4, pt_i (nI (ar_M r t))), (5, pt_i (nI t))], [], pt_wA M 35 0 (ao_F B r (pt_A M 35 0) t))) (n := n) fun t ht => by
    have e0 : ao_F B r (pt_A M 35 0) (t + 1) = if t = r then ao_F B r (pt_A M 35 0) t else io_F (ao_F B r (pt_A M 35 0) t) (ar_M r t) (ct_N (fun k => B r k t) t) t := rfl
    by_cases c : t = r
    · refine (gX7_around_13_1 (nI o) (nI n) (nI r) (nI (ar_M r t)) (nI t) n B _ (nI_ge ht (by omega)) (by rw [c])).to ?_
      rw [nI_1, e0, if_pos c]
      have : ar_M r (t + 1) = ar_M r t := by
        unfold ar_M
        rw [if_pos (by omega), if_neg (by omega)]
      rw [this]
    · obtain ⟨a, b⟩ := ao_ok (f := pt_A M 35 0) h hd hr t (by omega)
      have hm : ar_M r (t + 1) = ar_M r t + 1 := by
        unfold ar_M
        by_cases d : r < t
        · rw [if_pos d, if_pos (by omega)]
        · rw [if_neg d, if_neg (by omega)]
      have hm9 : ar_M r t < n := by
        unfold ar_M
        split <;> omega
      have hc := ar_c (n := n) (r := r) (t := t) hd
      refine (gX7_around_13_2 (nI o) (nI n) (nI r) (nI (ar_M r t)) (nI t) n B _ (nI_ge ht (by omega)) (fun z => c ((nI_eq (by omega) (by omega)).mp z))).tr ?_
      rw [e0, if_neg c, hm]
      generalize ao_F B r (pt_A M 35 0) t = f at *
      generalize hcc : ct_N (fun k => B r k t) t = cc at *
      generalize ar_M r t = m at *
      have I := pt_for0 (Y := YX7_around) (fun d => (32, [(0, pt_r 7 0), (1, pt_i (nI o)), (2, pt_i (nI n)), (3, pt_i (nI r)), (4, pt_i (nI m)), (5, pt_i (nI t)), (6, pt_i (nI (m - d)))], [], pt_wA M 35 0 (sd_F f m d))) (n := m - 1 - cc) fun d hd2 => by
        obtain ⟨p, p1, p2, p3, p4⟩ := b (m - d - 1) (by omega) (by omega)
        have hb : B r p t = false := by
          cases hb : B r p t
          · rfl
          · have := ra_y h hd hr (t := t) (q := t) (by omega) p1 (by omega) p2 c (by omega) hb
            omega
        have es : nI (m - d) - 1 = nI (m - d - 1) := pk_sub (a := m - d) (b := 1) (by omega)
        have ea : pt_A (pt_wA M 35 0 (sd_F f m d)) 35 0 (pt_nt (nI (m - d) - 1)) = nI p := by
          rw [es, pt_nt_nI (by omega), pt_A_wA]
          show (if m - d < m - d - 1 ∧ m - d - 1 ≤ m then f (m - d - 1 - 1) else f (m - d - 1)) = nI p
          rw [if_neg (by omega)]
          exact p3
        have hml' : ml_P (pt_wA M 35 0 (sd_F f m d)) o n B := hml
        refine (gX7_around_32_1 (nI o) (nI n) (nI r) (nI m) (nI t) (nI (m - d)) n B _ ?_ ?_ ?_ ?_ (pt_in_nI (by omega) (by decide))).to ?_
        · exact nI_ge (show 1 < m - d by omega) (by omega)
        · rw [es]
          exact pt_in_nI (by omega) (by decide)
        · rw [ea]
          exact tq_of hml' r1 (by omega) ht (Ne.symm p2) (by omega) (Ne.symm c)
        · rw [ea]
          unfold tl_I
          rw [pt_nt_nI (by omega), pt_nt_nI (by omega), pt_nt_nI (by omega), hb]
          rfl
        · rw [ea, wA_2 _ _ _ _ (by omega), nI_m (by omega), ← sd_s (by omega), p3]
          rfl
      rw [sd_0] at I
      refine I.tr ?_
      have em : m - (m - 1 - cc) = cc + 1 := by omega
      have hml' : ml_P (pt_wA M 35 0 (sd_F f m (m - 1 - cc))) o n B := hml
      rw [em]
      by_cases c0 : cc = 0
      · refine (gX7_around_32_3 (nI o) (nI n) (nI r) (nI m) (nI t) (nI (cc + 1)) n B _ (by rw [c0]; exact Int32.le_refl _) (pt_in_nI (by omega) (by decide))).to ?_
        rw [wA_2 _ _ _ _ (by omega), sd_e hc, nI_1, nI_1]
      · obtain ⟨p, p1, p2, p3, p4⟩ := b cc (by omega) (by omega)
        have hb : B r p t = true := by
          cases hb : B r p t
          · have := ra_n h hd hr (t := t) (q := t) (by omega) (by omega) p2 c (by omega) hb
            omega
          · rfl
        have es : nI (cc + 1) - 1 = nI cc := pk_sub (a := cc + 1) (b := 1) (by omega)
        have ea : pt_A (pt_wA M 35 0 (sd_F f m (m - 1 - cc))) 35 0 (pt_nt (nI (cc + 1) - 1)) = nI p := by
          rw [es, pt_nt_nI (by omega), pt_A_wA]
          show (if m - (m - 1 - cc) < cc ∧ cc ≤ m then f (cc - 1) else f cc) = nI p
          rw [if_neg (by omega)]
          exact p3
        refine (gX7_around_32_2 (nI o) (nI n) (nI r) (nI m) (nI t) (nI (cc + 1)) n B _ ?_ ?_ ?_ ?_ (pt_in_nI (by omega) (by decide))).to ?_
        · exact nI_ge (show 1 < cc + 1 by omega) (by omega)
        · rw [es]
          exact pt_in_nI (by omega) (by decide)
        · rw [ea]
          exact tq_of hml' r1 (by omega) ht (Ne.symm p2) (by omega) (Ne.symm c)
        · rw [ea]
          unfold tl_I
          rw [pt_nt_nI (by omega), pt_nt_nI (by omega), pt_nt_nI (by omega), hb]
          decide
        · rw [wA_2 _ _ _ _ (by omega), sd_e hc, nI_1, nI_1]
  have e1 : ar_M r 0 = 1 := if_neg (by omega)
  rw [e1] at K
  exact rX7_around_98 (Nat.le_of_ble_eq_true rfl) rfl ((gX7_around_0_1 (nI o) (nI n) (nI r) n B M).tr (K.tr (gX7_around_13_3 (nI o) (nI n) (nI r) (nI (ar_M r n)) (nI n) n B _ (Int32.le_refl _))))
