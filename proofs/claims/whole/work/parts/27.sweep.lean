/-! Sweeper -/
def og_F (M : pt_M) (p : Nat) : Nat := pt_nt (pt_A M 17 0 p)
def sg_F (M : pt_M) (p : Nat) : Nat := pt_nt (pt_A M 18 0 p)
/-- the order and the swaps of n points -/
def so_P (M : pt_M) (n : Nat) : Prop := ∀ p, p < n → pt_A M 17 0 p = nI (og_F M p) ∧ og_F M p < n ∧ pt_A M 18 0 p = nI (sg_F M p) ∧ sg_F M p < 1024
def bn_P (x : Int32) : Prop := ∃ n, x = nI n ∧ n ≤ 10
def sb_M (M : pt_M) (n : Nat) : pt_M := pt_wA (pt_wA M 17 0 fun p => if p < n then nI p else pt_A M 17 0 p) 18 0 fun p => if p < n then 0 else pt_A M 18 0 p
theorem pt_wA_comm (M : pt_M) {k k' i i' : Nat} (g g' : Nat → Int32) (h : k ≠ k') : pt_wA (pt_wA M k i g) k' i' g' = pt_wA (pt_wA M k' i' g') k i g := by
  unfold pt_wA
  congr 2
  funext a b
  dsimp only
  by_cases e1 : a = k ∧ b = i
  · have e2 : ¬ (a = k' ∧ b = i') := fun z => h (e1.1.symm.trans z.1)
    rw [if_neg e2, if_pos e1, if_pos e1]
  · rw [if_neg e1, if_neg e1]
theorem rX3_begin_27 {vs : List pt_V} {M M' : pt_M} {L : List (Nat × pt_V)} (hvs : (vs.map pt_w).sum ≤ 3) (hX : M'.2.2.2.2 = M.2.2.2.2) (h : pt_Go YX3_begin (0, pt_en 0 vs, [], M) (27, L, [], M')) : pt_Does yX3_begin YX3_begin vs M none M' := pt_does_go tX3_begin_ok nX3_begin hvs hX ⟨_, by with_unfolding_all rfl, rfl, rfl⟩ h
set_option maxRecDepth 100000 in
theorem gX3_begin_0_1 (x1 : Int32)  (M : pt_M) :
    pt_Go YX3_begin (0, [(0, pt_r 6 0), (1, pt_i x1)], [], M)
      (2, [(0, pt_r 6 0), (1, pt_i x1), (2, pt_i 0)], [], M) :=
  pt_run_ok tX3_begin_ok 2 [] (P := True) (by with_unfolding_all rfl) trivial
set_option maxRecDepth 100000 in
theorem gX3_begin_2_1 (l1 : Int32) (l2 : Int32)  (M : pt_M) (h1 : ¬ l1 ≤ l2) (h2 : pt_in l2 10) :
    pt_Go YX3_begin (2, [(0, pt_r 6 0), (1, pt_i l1), (2, pt_i l2)], [], M)
      (2, [(0, pt_r 6 0), (1, pt_i l1), (2, pt_i (l2 + 1))], [], (pt_wA (pt_wA M 17 0 (upd (pt_A M 17 0) (pt_nt l2) l2)) 18 0 (upd (pt_A (pt_wA M 17 0 (upd (pt_A M 17 0) (pt_nt l2) l2)) 18 0) (pt_nt l2) 0))) :=
  pt_run_ok tX3_begin_ok 15 [.inl false] (P := (¬ l1 ≤ l2) ∧ (pt_in l2 10) ∧ (pt_in l2 10) ∧ True) (by with_unfolding_all rfl) ⟨h1, h2, h2, trivial⟩
set_option maxRecDepth 100000 in
theorem gX3_begin_2_2 (l1 : Int32) (l2 : Int32)  (M : pt_M) (h1 : l1 ≤ l2) :
    pt_Go YX3_begin (2, [(0, pt_r 6 0), (1, pt_i l1), (2, pt_i l2)], [], M)
      (27, [(0, pt_r 6 0), (1, pt_i l1), (2, pt_i l2)], [], M) :=
  pt_run_ok tX3_begin_ok 3 [.inl true] (P := (l1 ≤ l2) ∧ True) (by with_unfolding_all rfl) ⟨h1, trivial⟩
theorem sb_zero (M : pt_M) : sb_M M 0 = M := by
  unfold sb_M
  have e1 : (fun p => if p < 0 then nI p else pt_A M 17 0 p) = pt_A M 17 0 := by
    funext p
    rw [if_neg (Nat.not_lt_zero p)]
  have e2 : (fun p => if p < 0 then (0 : Int32) else pt_A M 18 0 p) = pt_A M 18 0 := by
    funext p
    rw [if_neg (Nat.not_lt_zero p)]
  rw [e1, e2, pt_wA_self, pt_wA_self]
theorem fill_up {f : Nat → Int32} {g : Nat → Int32} {p : Nat} : upd (fun q => if q < p then g q else f q) p (g p) = fun q => if q < p + 1 then g q else f q := co_step f g p
theorem dX3_begin {x : Int32} {M : pt_M} (h : bn_P x) : pt_Does yX3_begin YX3_begin [pt_r 6 0, pt_i x] M none (sb_M M (pt_nt x)) := by
  obtain ⟨n, rfl, hn⟩ := h
  rw [pt_nt_nI (by omega)]
  have K := pt_for0 (Y := YX3_begin) (fun p => (2, [(0, pt_r 6 0), (1, pt_i (nI n)), (2, pt_i (nI p))], [], sb_M M p)) (n := n) fun p hp => by
    refine (gX3_begin_2_1 (nI n) (nI p) (sb_M M p) (nI_ge hp (by omega)) (pt_in_nI (by omega) (by decide))).to ?_
    have e : pt_nt (nI p) = p := pt_nt_nI (by omega)
    rw [nI_1, e]
    congr 3
    have a17 : pt_A (sb_M M p) 17 0 = fun q => if q < p then nI q else pt_A M 17 0 q := rfl
    have a18 : ∀ g, pt_A (pt_wA (sb_M M p) 17 0 g) 18 0 = fun q => if q < p then 0 else pt_A M 18 0 q := fun g => rfl
    rw [a17, a18, fill_up (g := nI), fill_up (g := fun _ => 0)]
    unfold sb_M
    rw [pt_wA_comm _ _ _ (show (18 : Nat) ≠ 17 by decide), pt_wA_wA, pt_wA_wA]
  exact rX3_begin_27 (Nat.le_of_ble_eq_true rfl) rfl (((gX3_begin_0_1 (nI n) M).toM (sb_zero M).symm).tr (K.tr (gX3_begin_2_2 (nI n) (nI n) _ (Int32.le_refl _))))
/-- two neighbours change places -/
def sa_M (M : pt_M) (x : Int32) : pt_M :=
  pt_wA (pt_wA M 18 0 (upd (upd (pt_A M 18 0) (pt_nt (pt_A M 17 0 (pt_nt x))) (pt_A M 18 0 (pt_nt (pt_A M 17 0 (pt_nt x))) ||| ((1 : Int32) <<< (pt_A M 17 0 (pt_nt (x + 1)) &&& 31)))) (pt_nt (pt_A M 17 0 (pt_nt (x + 1))))
    (upd (pt_A M 18 0) (pt_nt (pt_A M 17 0 (pt_nt x))) (pt_A M 18 0 (pt_nt (pt_A M 17 0 (pt_nt x))) ||| ((1 : Int32) <<< (pt_A M 17 0 (pt_nt (x + 1)) &&& 31))) (pt_nt (pt_A M 17 0 (pt_nt (x + 1)))) ||| ((1 : Int32) <<< (pt_A M 17 0 (pt_nt x) &&& 31)))))
    17 0 (upd (upd (pt_A M 17 0) (pt_nt x) (pt_A M 17 0 (pt_nt (x + 1)))) (pt_nt (x + 1)) (pt_A M 17 0 (pt_nt x)))
def sa_H (M : pt_M) (x : Int32) : Prop := pt_in x 10 ∧ pt_in (x + 1) 10 ∧ pt_in (pt_A M 17 0 (pt_nt x)) 10 ∧ pt_in (pt_A M 17 0 (pt_nt (x + 1))) 10
theorem rX3_swapAt_56 {vs : List pt_V} {M M' : pt_M} {L : List (Nat × pt_V)} (hvs : (vs.map pt_w).sum ≤ 4) (hX : M'.2.2.2.2 = M.2.2.2.2) (h : pt_Go YX3_swapAt (0, pt_en 0 vs, [], M) (56, L, [], M')) : pt_Does yX3_swapAt YX3_swapAt vs M none M' := pt_does_go tX3_swapAt_ok nX3_swapAt hvs hX ⟨_, by with_unfolding_all rfl, rfl, rfl⟩ h
set_option maxRecDepth 100000 in
theorem gX3_swapAt_0_1 (x1 : Int32)  (M : pt_M) (h1 : pt_in x1 10) (h2 : pt_in (x1 + 1) 10) (h3 : pt_in (pt_A M 17 0 (pt_nt x1)) 10) (h4 : pt_in (pt_A M 17 0 (pt_nt (x1 + 1))) 10) :
    pt_Go YX3_swapAt (0, [(0, pt_r 6 0), (1, pt_i x1)], [], M)
      (56, [(0, pt_r 6 0), (1, pt_i x1), (2, pt_i (pt_A M 17 0 (pt_nt x1))), (3, pt_i (pt_A M 17 0 (pt_nt (x1 + 1))))], [], (pt_wA (pt_wA (pt_wA (pt_wA M 18 0 (upd (pt_A M 18 0) (pt_nt (pt_A M 17 0 (pt_nt x1))) ((pt_A M 18 0 (pt_nt (pt_A M 17 0 (pt_nt x1)))) ||| ((1 : Int32) <<< ((pt_A M 17 0 (pt_nt (x1 + 1))) &&& 31))))) 18 0 (upd (pt_A (pt_wA M 18 0 (upd (pt_A M 18 0) (pt_nt (pt_A M 17 0 (pt_nt x1))) ((pt_A M 18 0 (pt_nt (pt_A M 17 0 (pt_nt x1)))) ||| ((1 : Int32) <<< ((pt_A M 17 0 (pt_nt (x1 + 1))) &&& 31))))) 18 0) (pt_nt (pt_A M 17 0 (pt_nt (x1 + 1)))) ((pt_A (pt_wA M 18 0 (upd (pt_A M 18 0) (pt_nt (pt_A M 17 0 (pt_nt x1))) ((pt_A M 18 0 (pt_nt (pt_A M 17 0 (pt_nt x1)))) ||| ((1 : Int32) <<< ((pt_A M 17 0 (pt_nt (x1 + 1))) &&& 31))))) 18 0 (pt_nt (pt_A M 17 0 (pt_nt (x1 + 1))))) ||| ((1 : Int32) <<< ((pt_A M 17 0 (pt_nt x1)) &&& 31))))) 17 0 (upd (pt_A (pt_wA (pt_wA M 18 0 (upd (pt_A M 18 0) (pt_nt (pt_A M 17 0 (pt_nt x1))) ((pt_A M 18 0 (pt_nt (pt_A M 17 0 (pt_nt x1)))) ||| ((1 : Int32) <<< ((pt_A M 17 0 (pt_nt (x1 + 1))) &&& 31))))) 18 0 (upd (pt_A (pt_wA M 18 0 (upd (pt_A M 18 0) (pt_nt (pt_A M 17 0 (pt_nt x1))) ((pt_A M 18 0 (pt_nt (pt_A M 17 0 (pt_nt x1)))) ||| ((1 : Int32) <<< ((pt_A M 17 0 (pt_nt (x1 + 1))) &&& 31))))) 18 0) (pt_nt (pt_A M 17 0 (pt_nt (x1 + 1)))) ((pt_A (pt_wA M 18 0 (upd (pt_A M 18 0) (pt_nt (pt_A M 17 0 (pt_nt x1))) ((pt_A M 18 0 (pt_nt (pt_A M 17 0 (pt_nt x1)))) ||| ((1 : Int32) <<< ((pt_A M 17 0 (pt_nt (x1 + 1))) &&& 31))))) 18 0 (pt_nt (pt_A M 17 0 (pt_nt (x1 + 1))))) ||| ((1 : Int32) <<< ((pt_A M 17 0 (pt_nt x1)) &&& 31))))) 17 0) (pt_nt x1) (pt_A M 17 0 (pt_nt (x1 + 1))))) 17 0 (upd (pt_A (pt_wA (pt_wA (pt_wA M 18 0 (upd (pt_A M 18 0) (pt_nt (pt_A M 17 0 (pt_nt x1))) ((pt_A M 18 0 (pt_nt (pt_A M 17 0 (pt_nt x1)))) ||| ((1 : Int32) <<< ((pt_A M 17 0 (pt_nt (x1 + 1))) &&& 31))))) 18 0 (upd (pt_A (pt_wA M 18 0 (upd (pt_A M 18 0) (pt_nt (pt_A M 17 0 (pt_nt x1))) ((pt_A M 18 0 (pt_nt (pt_A M 17 0 (pt_nt x1)))) ||| ((1 : Int32) <<< ((pt_A M 17 0 (pt_nt (x1 + 1))) &&& 31))))) 18 0) (pt_nt (pt_A M 17 0 (pt_nt (x1 + 1)))) ((pt_A (pt_wA M 18 0 (upd (pt_A M 18 0) (pt_nt (pt_A M 17 0 (pt_nt x1))) ((pt_A M 18 0 (pt_nt (pt_A M 17 0 (pt_nt x1)))) ||| ((1 : Int32) <<< ((pt_A M 17 0 (pt_nt (x1 + 1))) &&& 31))))) 18 0 (pt_nt (pt_A M 17 0 (pt_nt (x1 + 1))))) ||| ((1 : Int32) <<< ((pt_A M 17 0 (pt_nt x1)) &&& 31))))) 17 0 (upd (pt_A (pt_wA (pt_wA M 18 0 (upd (pt_A M 18 0) (pt_nt (pt_A M 17 0 (pt_nt x1))) ((pt_A M 18 0 (pt_nt (pt_A M 17 0 (pt_nt x1)))) ||| ((1 : Int32) <<< ((pt_A M 17 0 (pt_nt (x1 + 1))) &&& 31))))) 18 0 (upd (pt_A (pt_wA M 18 0 (upd (pt_A M 18 0) (pt_nt (pt_A M 17 0 (pt_nt x1))) ((pt_A M 18 0 (pt_nt (pt_A M 17 0 (pt_nt x1)))) ||| ((1 : Int32) <<< ((pt_A M 17 0 (pt_nt (x1 + 1))) &&& 31))))) 18 0) (pt_nt (pt_A M 17 0 (pt_nt (x1 + 1)))) ((pt_A (pt_wA M 18 0 (upd (pt_A M 18 0) (pt_nt (pt_A M 17 0 (pt_nt x1))) ((pt_A M 18 0 (pt_nt (pt_A M 17 0 (pt_nt x1)))) ||| ((1 : Int32) <<< ((pt_A M 17 0 (pt_nt (x1 + 1))) &&& 31))))) 18 0 (pt_nt (pt_A M 17 0 (pt_nt (x1 + 1))))) ||| ((1 : Int32) <<< ((pt_A M 17 0 (pt_nt x1)) &&& 31))))) 17 0) (pt_nt x1) (pt_A M 17 0 (pt_nt (x1 + 1))))) 17 0) (pt_nt (x1 + 1)) (pt_A M 17 0 (pt_nt x1))))) :=
  pt_run_ok tX3_swapAt_ok 44 [] (P := (pt_in x1 10) ∧ (pt_in (x1 + 1) 10) ∧ (pt_in (pt_A M 17 0 (pt_nt x1)) 10) ∧ (pt_in (pt_A M 17 0 (pt_nt x1)) 10) ∧ (pt_in (pt_A M 17 0 (pt_nt (x1 + 1))) 10) ∧ (pt_in (pt_A M 17 0 (pt_nt (x1 + 1))) 10) ∧ (pt_in x1 10) ∧ (pt_in (x1 + 1) 10) ∧ True) (by with_unfolding_all rfl) ⟨h1, h2, h3, h3, h4, h4, h1, h2, trivial⟩
theorem dX3_swapAt {x : Int32} {M : pt_M} (h : sa_H M x) : pt_Does yX3_swapAt YX3_swapAt [pt_r 6 0, pt_i x] M none (sa_M M x) := by
  refine rX3_swapAt_56 (Nat.le_of_ble_eq_true rfl) rfl ((gX3_swapAt_0_1 x M h.1 h.2.1 h.2.2.1 h.2.2.2).toM ?_)
  unfold sa_M
  simp only [pt_wA_wA, pt_A_wA]
  rfl
def sw_F (M : pt_M) (a c : Int32) : Int32 := if (((pt_A M 18 0 (pt_nt a)) >>> (c &&& 31)) &&& 1) = 1 then 1 else 0
theorem rX3_areSwapped_19 {vs : List pt_V} {M M' : pt_M} {x : Int32} {L : List (Nat × pt_V)} (hn : narrow .boolean (.int x) = .int x) (hvs : (vs.map pt_w).sum ≤ 3) (hX : M'.2.2.2.2 = M.2.2.2.2) (h : pt_Go YX3_areSwapped (0, pt_en 0 vs, [], M) (19, L, [pt_i x], M')) : pt_Does yX3_areSwapped YX3_areSwapped vs M (some (pt_i x)) M' := pt_does_go tX3_areSwapped_ok nX3_areSwapped hvs hX ⟨_, by with_unfolding_all rfl, rfl, _, rfl, hn⟩ h
set_option maxRecDepth 100000 in
theorem gX3_areSwapped_0_1 (x1 : Int32) (x2 : Int32)  (M : pt_M) (h1 : pt_in x1 10) (h2 : (((pt_A M 18 0 (pt_nt x1)) >>> (x2 &&& 31)) &&& 1) = 1) :
    pt_Go YX3_areSwapped (0, [(0, pt_r 6 0), (1, pt_i x1), (2, pt_i x2)], [], M)
      (19, [(0, pt_r 6 0), (1, pt_i x1), (2, pt_i x2)], [pt_i 1], M) :=
  pt_run_ok tX3_areSwapped_ok 12 [.inl false] (P := (pt_in x1 10) ∧ ((((pt_A M 18 0 (pt_nt x1)) >>> (x2 &&& 31)) &&& 1) = 1) ∧ True) (by with_unfolding_all rfl) ⟨h1, h2, trivial⟩
set_option maxRecDepth 100000 in
theorem gX3_areSwapped_0_2 (x1 : Int32) (x2 : Int32)  (M : pt_M) (h1 : pt_in x1 10) (h2 : ¬ (((pt_A M 18 0 (pt_nt x1)) >>> (x2 &&& 31)) &&& 1) = 1) :
    pt_Go YX3_areSwapped (0, [(0, pt_r 6 0), (1, pt_i x1), (2, pt_i x2)], [], M)
      (19, [(0, pt_r 6 0), (1, pt_i x1), (2, pt_i x2)], [pt_i 0], M) :=
  pt_run_ok tX3_areSwapped_ok 11 [.inl true] (P := (pt_in x1 10) ∧ (¬ (((pt_A M 18 0 (pt_nt x1)) >>> (x2 &&& 31)) &&& 1) = 1) ∧ True) (by with_unfolding_all rfl) ⟨h1, h2, trivial⟩
theorem dX3_areSwapped {a c : Int32} {M : pt_M} (ha : pt_in a 10) : pt_Does yX3_areSwapped YX3_areSwapped [pt_r 6 0, pt_i a, pt_i c] M (some (pt_i (sw_F M a c))) M := by
  unfold sw_F
  by_cases h : (((pt_A M 18 0 (pt_nt a)) >>> (c &&& 31)) &&& 1) = 1
  · rw [if_pos h]
    exact rX3_areSwapped_19 rfl (Nat.le_of_ble_eq_true rfl) rfl (gX3_areSwapped_0_1 a c M ha h)
  · rw [if_neg h]
    exact rX3_areSwapped_19 rfl (Nat.le_of_ble_eq_true rfl) rfl (gX3_areSwapped_0_2 a c M ha h)
def dw_P (M : pt_M) (t : Nat) (a b c : Int32) : Prop := (¬ a ≤ c ∧ (sw_F M a c) = (lb_F M t c a b) ∧ (sw_F M b c) = (lb_F M t c a b)) ∨ (a ≤ c ∧ ¬ b ≤ c ∧ (sw_F M a c) = (lb_F M t a c b) ∧ ¬ (sw_F M b c) = (lb_F M t a c b)) ∨ (a ≤ c ∧ b ≤ c ∧ ¬ (sw_F M a c) = (lb_F M t a b c) ∧ ¬ (sw_F M b c) = (lb_F M t a b c))
theorem rX3_isDueWith_53 {vs : List pt_V} {M M' : pt_M} {x : Int32} {L : List (Nat × pt_V)} (hn : narrow .boolean (.int x) = .int x) (hvs : (vs.map pt_w).sum ≤ 8) (hX : M'.2.2.2.2 = M.2.2.2.2) (h : pt_Go YX3_isDueWith (0, pt_en 0 vs, [], M) (53, L, [pt_i x], M')) : pt_Does yX3_isDueWith YX3_isDueWith vs M (some (pt_i x)) M' := pt_does_go tX3_isDueWith_ok nX3_isDueWith hvs hX ⟨_, by with_unfolding_all rfl, rfl, _, rfl, hn⟩ h
theorem rX3_isDueWith_89 {vs : List pt_V} {M M' : pt_M} {x : Int32} {L : List (Nat × pt_V)} (hn : narrow .boolean (.int x) = .int x) (hvs : (vs.map pt_w).sum ≤ 8) (hX : M'.2.2.2.2 = M.2.2.2.2) (h : pt_Go YX3_isDueWith (0, pt_en 0 vs, [], M) (89, L, [pt_i x], M')) : pt_Does yX3_isDueWith YX3_isDueWith vs M (some (pt_i x)) M' := pt_does_go tX3_isDueWith_ok nX3_isDueWith hvs hX ⟨_, by with_unfolding_all rfl, rfl, _, rfl, hn⟩ h
theorem rX3_isDueWith_119 {vs : List pt_V} {M M' : pt_M} {x : Int32} {L : List (Nat × pt_V)} (hn : narrow .boolean (.int x) = .int x) (hvs : (vs.map pt_w).sum ≤ 8) (hX : M'.2.2.2.2 = M.2.2.2.2) (h : pt_Go YX3_isDueWith (0, pt_en 0 vs, [], M) (119, L, [pt_i x], M')) : pt_Does yX3_isDueWith YX3_isDueWith vs M (some (pt_i x)) M' := pt_does_go tX3_isDueWith_ok nX3_isDueWith hvs hX ⟨_, by with_unfolding_all rfl, rfl, _, rfl, hn⟩ h
set_option maxRecDepth 100000 in
theorem gX3_isDueWith_0_1 (t : Nat) (a : Int32) (b : Int32) (c : Int32)  (M : pt_M) (h1 : pt_in a 10) (h2 : pt_in b 10) (h3 : ¬ a ≤ c) (h4 : t < 7) (h5 : pt_in c 10) (h6 : (sw_F M a c) = (lb_F M t c a b)) (h7 : (sw_F M b c) = (lb_F M t c a b)) :
    pt_Go YX3_isDueWith (0, [(0, pt_r 6 0), (1, pt_r 3 t), (2, pt_i a), (3, pt_i b), (4, pt_i c)], [], M)
      (53, [(0, pt_r 6 0), (1, pt_r 3 t), (2, pt_i a), (3, pt_i b), (4, pt_i c), (5, pt_i (sw_F M a c)), (6, pt_i (sw_F M b c)), (7, pt_i (lb_F M t c a b))], [pt_i 1], M) :=
  pt_run_ok tX3_isDueWith_ok 27 [.inr (3, some (pt_i (sw_F M a c)), M), .inr (3, some (pt_i (sw_F M b c)), M), .inl false, .inr (4, some (pt_i (lb_F M t c a b)), M), .inl false, .inl false] (P := pt_Cal YX3_isDueWith (.invokevirtual 66) [pt_r 6 0, pt_i a, pt_i c] M (some (pt_i (sw_F M a c))) M ∧ pt_Cal YX3_isDueWith (.invokevirtual 66) [pt_r 6 0, pt_i b, pt_i c] M (some (pt_i (sw_F M b c))) M ∧ (¬ a ≤ c) ∧ pt_Cal YX3_isDueWith (.invokevirtual 70) [pt_r 3 t, pt_i c, pt_i a, pt_i b] M (some (pt_i (lb_F M t c a b))) M ∧ ((sw_F M a c) = (lb_F M t c a b)) ∧ ((sw_F M b c) = (lb_F M t c a b)) ∧ True) (by with_unfolding_all rfl) ⟨(pt_callV (i := 0) kX3_isDueWith_66 mX3_areSwapped rfl (by decide) rfl (dX3_areSwapped h1)), (pt_callV (i := 0) kX3_isDueWith_66 mX3_areSwapped rfl (by decide) rfl (dX3_areSwapped h2)), h3, (pt_callV (i := t) kX3_isDueWith_70 mX4_isLeft rfl h4 rfl (dX4_isLeft_v h4 h5 h1)), h6, h7, trivial⟩
set_option maxRecDepth 100000 in
theorem gX3_isDueWith_0_2 (t : Nat) (a : Int32) (b : Int32) (c : Int32)  (M : pt_M) (h1 : pt_in a 10) (h2 : pt_in b 10) (h3 : ¬ a ≤ c) (h4 : t < 7) (h5 : pt_in c 10) (h6 : (sw_F M a c) = (lb_F M t c a b)) (h7 : ¬ (sw_F M b c) = (lb_F M t c a b)) :
    pt_Go YX3_isDueWith (0, [(0, pt_r 6 0), (1, pt_r 3 t), (2, pt_i a), (3, pt_i b), (4, pt_i c)], [], M)
      (53, [(0, pt_r 6 0), (1, pt_r 3 t), (2, pt_i a), (3, pt_i b), (4, pt_i c), (5, pt_i (sw_F M a c)), (6, pt_i (sw_F M b c)), (7, pt_i (lb_F M t c a b))], [pt_i 0], M) :=
  pt_run_ok tX3_isDueWith_ok 26 [.inr (3, some (pt_i (sw_F M a c)), M), .inr (3, some (pt_i (sw_F M b c)), M), .inl false, .inr (4, some (pt_i (lb_F M t c a b)), M), .inl false, .inl true] (P := pt_Cal YX3_isDueWith (.invokevirtual 66) [pt_r 6 0, pt_i a, pt_i c] M (some (pt_i (sw_F M a c))) M ∧ pt_Cal YX3_isDueWith (.invokevirtual 66) [pt_r 6 0, pt_i b, pt_i c] M (some (pt_i (sw_F M b c))) M ∧ (¬ a ≤ c) ∧ pt_Cal YX3_isDueWith (.invokevirtual 70) [pt_r 3 t, pt_i c, pt_i a, pt_i b] M (some (pt_i (lb_F M t c a b))) M ∧ ((sw_F M a c) = (lb_F M t c a b)) ∧ (¬ (sw_F M b c) = (lb_F M t c a b)) ∧ True) (by with_unfolding_all rfl) ⟨(pt_callV (i := 0) kX3_isDueWith_66 mX3_areSwapped rfl (by decide) rfl (dX3_areSwapped h1)), (pt_callV (i := 0) kX3_isDueWith_66 mX3_areSwapped rfl (by decide) rfl (dX3_areSwapped h2)), h3, (pt_callV (i := t) kX3_isDueWith_70 mX4_isLeft rfl h4 rfl (dX4_isLeft_v h4 h5 h1)), h6, h7, trivial⟩
set_option maxRecDepth 100000 in
theorem gX3_isDueWith_0_3 (t : Nat) (a : Int32) (b : Int32) (c : Int32)  (M : pt_M) (h1 : pt_in a 10) (h2 : pt_in b 10) (h3 : ¬ a ≤ c) (h4 : t < 7) (h5 : pt_in c 10) (h6 : ¬ (sw_F M a c) = (lb_F M t c a b)) :
    pt_Go YX3_isDueWith (0, [(0, pt_r 6 0), (1, pt_r 3 t), (2, pt_i a), (3, pt_i b), (4, pt_i c)], [], M)
      (53, [(0, pt_r 6 0), (1, pt_r 3 t), (2, pt_i a), (3, pt_i b), (4, pt_i c), (5, pt_i (sw_F M a c)), (6, pt_i (sw_F M b c)), (7, pt_i (lb_F M t c a b))], [pt_i 0], M) :=
  pt_run_ok tX3_isDueWith_ok 23 [.inr (3, some (pt_i (sw_F M a c)), M), .inr (3, some (pt_i (sw_F M b c)), M), .inl false, .inr (4, some (pt_i (lb_F M t c a b)), M), .inl true] (P := pt_Cal YX3_isDueWith (.invokevirtual 66) [pt_r 6 0, pt_i a, pt_i c] M (some (pt_i (sw_F M a c))) M ∧ pt_Cal YX3_isDueWith (.invokevirtual 66) [pt_r 6 0, pt_i b, pt_i c] M (some (pt_i (sw_F M b c))) M ∧ (¬ a ≤ c) ∧ pt_Cal YX3_isDueWith (.invokevirtual 70) [pt_r 3 t, pt_i c, pt_i a, pt_i b] M (some (pt_i (lb_F M t c a b))) M ∧ (¬ (sw_F M a c) = (lb_F M t c a b)) ∧ True) (by with_unfolding_all rfl) ⟨(pt_callV (i := 0) kX3_isDueWith_66 mX3_areSwapped rfl (by decide) rfl (dX3_areSwapped h1)), (pt_callV (i := 0) kX3_isDueWith_66 mX3_areSwapped rfl (by decide) rfl (dX3_areSwapped h2)), h3, (pt_callV (i := t) kX3_isDueWith_70 mX4_isLeft rfl h4 rfl (dX4_isLeft_v h4 h5 h1)), h6, trivial⟩
set_option maxRecDepth 100000 in
theorem gX3_isDueWith_0_4 (t : Nat) (a : Int32) (b : Int32) (c : Int32)  (M : pt_M) (h1 : pt_in a 10) (h2 : pt_in b 10) (h3 : a ≤ c) (h4 : ¬ b ≤ c) (h5 : t < 7) (h6 : pt_in c 10) (h7 : (sw_F M a c) = (lb_F M t a c b)) (h8 : ¬ (sw_F M b c) = (lb_F M t a c b)) :
    pt_Go YX3_isDueWith (0, [(0, pt_r 6 0), (1, pt_r 3 t), (2, pt_i a), (3, pt_i b), (4, pt_i c)], [], M)
      (89, [(0, pt_r 6 0), (1, pt_r 3 t), (2, pt_i a), (3, pt_i b), (4, pt_i c), (5, pt_i (sw_F M a c)), (6, pt_i (sw_F M b c)), (7, pt_i (lb_F M t a c b))], [pt_i 1], M) :=
  pt_run_ok tX3_isDueWith_ok 30 [.inr (3, some (pt_i (sw_F M a c)), M), .inr (3, some (pt_i (sw_F M b c)), M), .inl true, .inl false, .inr (4, some (pt_i (lb_F M t a c b)), M), .inl false, .inl false] (P := pt_Cal YX3_isDueWith (.invokevirtual 66) [pt_r 6 0, pt_i a, pt_i c] M (some (pt_i (sw_F M a c))) M ∧ pt_Cal YX3_isDueWith (.invokevirtual 66) [pt_r 6 0, pt_i b, pt_i c] M (some (pt_i (sw_F M b c))) M ∧ (a ≤ c) ∧ (¬ b ≤ c) ∧ pt_Cal YX3_isDueWith (.invokevirtual 70) [pt_r 3 t, pt_i a, pt_i c, pt_i b] M (some (pt_i (lb_F M t a c b))) M ∧ ((sw_F M a c) = (lb_F M t a c b)) ∧ (¬ (sw_F M b c) = (lb_F M t a c b)) ∧ True) (by with_unfolding_all rfl) ⟨(pt_callV (i := 0) kX3_isDueWith_66 mX3_areSwapped rfl (by decide) rfl (dX3_areSwapped h1)), (pt_callV (i := 0) kX3_isDueWith_66 mX3_areSwapped rfl (by decide) rfl (dX3_areSwapped h2)), h3, h4, (pt_callV (i := t) kX3_isDueWith_70 mX4_isLeft rfl h5 rfl (dX4_isLeft_v h5 h1 h6)), h7, h8, trivial⟩
set_option maxRecDepth 100000 in
theorem gX3_isDueWith_0_5 (t : Nat) (a : Int32) (b : Int32) (c : Int32)  (M : pt_M) (h1 : pt_in a 10) (h2 : pt_in b 10) (h3 : a ≤ c) (h4 : ¬ b ≤ c) (h5 : t < 7) (h6 : pt_in c 10) (h7 : (sw_F M a c) = (lb_F M t a c b)) (h8 : (sw_F M b c) = (lb_F M t a c b)) :
    pt_Go YX3_isDueWith (0, [(0, pt_r 6 0), (1, pt_r 3 t), (2, pt_i a), (3, pt_i b), (4, pt_i c)], [], M)
      (89, [(0, pt_r 6 0), (1, pt_r 3 t), (2, pt_i a), (3, pt_i b), (4, pt_i c), (5, pt_i (sw_F M a c)), (6, pt_i (sw_F M b c)), (7, pt_i (lb_F M t a c b))], [pt_i 0], M) :=
  pt_run_ok tX3_isDueWith_ok 29 [.inr (3, some (pt_i (sw_F M a c)), M), .inr (3, some (pt_i (sw_F M b c)), M), .inl true, .inl false, .inr (4, some (pt_i (lb_F M t a c b)), M), .inl false, .inl true] (P := pt_Cal YX3_isDueWith (.invokevirtual 66) [pt_r 6 0, pt_i a, pt_i c] M (some (pt_i (sw_F M a c))) M ∧ pt_Cal YX3_isDueWith (.invokevirtual 66) [pt_r 6 0, pt_i b, pt_i c] M (some (pt_i (sw_F M b c))) M ∧ (a ≤ c) ∧ (¬ b ≤ c) ∧ pt_Cal YX3_isDueWith (.invokevirtual 70) [pt_r 3 t, pt_i a, pt_i c, pt_i b] M (some (pt_i (lb_F M t a c b))) M ∧ ((sw_F M a c) = (lb_F M t a c b)) ∧ ((sw_F M b c) = (lb_F M t a c b)) ∧ True) (by with_unfolding_all rfl) ⟨(pt_callV (i := 0) kX3_isDueWith_66 mX3_areSwapped rfl (by decide) rfl (dX3_areSwapped h1)), (pt_callV (i := 0) kX3_isDueWith_66 mX3_areSwapped rfl (by decide) rfl (dX3_areSwapped h2)), h3, h4, (pt_callV (i := t) kX3_isDueWith_70 mX4_isLeft rfl h5 rfl (dX4_isLeft_v h5 h1 h6)), h7, h8, trivial⟩
set_option maxRecDepth 100000 in
theorem gX3_isDueWith_0_6 (t : Nat) (a : Int32) (b : Int32) (c : Int32)  (M : pt_M) (h1 : pt_in a 10) (h2 : pt_in b 10) (h3 : a ≤ c) (h4 : ¬ b ≤ c) (h5 : t < 7) (h6 : pt_in c 10) (h7 : ¬ (sw_F M a c) = (lb_F M t a c b)) :
    pt_Go YX3_isDueWith (0, [(0, pt_r 6 0), (1, pt_r 3 t), (2, pt_i a), (3, pt_i b), (4, pt_i c)], [], M)
      (89, [(0, pt_r 6 0), (1, pt_r 3 t), (2, pt_i a), (3, pt_i b), (4, pt_i c), (5, pt_i (sw_F M a c)), (6, pt_i (sw_F M b c)), (7, pt_i (lb_F M t a c b))], [pt_i 0], M) :=
  pt_run_ok tX3_isDueWith_ok 26 [.inr (3, some (pt_i (sw_F M a c)), M), .inr (3, some (pt_i (sw_F M b c)), M), .inl true, .inl false, .inr (4, some (pt_i (lb_F M t a c b)), M), .inl true] (P := pt_Cal YX3_isDueWith (.invokevirtual 66) [pt_r 6 0, pt_i a, pt_i c] M (some (pt_i (sw_F M a c))) M ∧ pt_Cal YX3_isDueWith (.invokevirtual 66) [pt_r 6 0, pt_i b, pt_i c] M (some (pt_i (sw_F M b c))) M ∧ (a ≤ c) ∧ (¬ b ≤ c) ∧ pt_Cal YX3_isDueWith (.invokevirtual 70) [pt_r 3 t, pt_i a, pt_i c, pt_i b] M (some (pt_i (lb_F M t a c b))) M ∧ (¬ (sw_F M a c) = (lb_F M t a c b)) ∧ True) (by with_unfolding_all rfl) ⟨(pt_callV (i := 0) kX3_isDueWith_66 mX3_areSwapped rfl (by decide) rfl (dX3_areSwapped h1)), (pt_callV (i := 0) kX3_isDueWith_66 mX3_areSwapped rfl (by decide) rfl (dX3_areSwapped h2)), h3, h4, (pt_callV (i := t) kX3_isDueWith_70 mX4_isLeft rfl h5 rfl (dX4_isLeft_v h5 h1 h6)), h7, trivial⟩
set_option maxRecDepth 100000 in
theorem gX3_isDueWith_0_7 (t : Nat) (a : Int32) (b : Int32) (c : Int32)  (M : pt_M) (h1 : pt_in a 10) (h2 : pt_in b 10) (h3 : a ≤ c) (h4 : b ≤ c) (h5 : t < 7) (h6 : ¬ (sw_F M a c) = (lb_F M t a b c)) (h7 : ¬ (sw_F M b c) = (lb_F M t a b c)) :
    pt_Go YX3_isDueWith (0, [(0, pt_r 6 0), (1, pt_r 3 t), (2, pt_i a), (3, pt_i b), (4, pt_i c)], [], M)
      (119, [(0, pt_r 6 0), (1, pt_r 3 t), (2, pt_i a), (3, pt_i b), (4, pt_i c), (5, pt_i (sw_F M a c)), (6, pt_i (sw_F M b c)), (7, pt_i (lb_F M t a b c))], [pt_i 1], M) :=
  pt_run_ok tX3_isDueWith_ok 30 [.inr (3, some (pt_i (sw_F M a c)), M), .inr (3, some (pt_i (sw_F M b c)), M), .inl true, .inl true, .inr (4, some (pt_i (lb_F M t a b c)), M), .inl false, .inl false] (P := pt_Cal YX3_isDueWith (.invokevirtual 66) [pt_r 6 0, pt_i a, pt_i c] M (some (pt_i (sw_F M a c))) M ∧ pt_Cal YX3_isDueWith (.invokevirtual 66) [pt_r 6 0, pt_i b, pt_i c] M (some (pt_i (sw_F M b c))) M ∧ (a ≤ c) ∧ (b ≤ c) ∧ pt_Cal YX3_isDueWith (.invokevirtual 70) [pt_r 3 t, pt_i a, pt_i b, pt_i c] M (some (pt_i (lb_F M t a b c))) M ∧ (¬ (sw_F M a c) = (lb_F M t a b c)) ∧ (¬ (sw_F M b c) = (lb_F M t a b c)) ∧ True) (by with_unfolding_all rfl) ⟨(pt_callV (i := 0) kX3_isDueWith_66 mX3_areSwapped rfl (by decide) rfl (dX3_areSwapped h1)), (pt_callV (i := 0) kX3_isDueWith_66 mX3_areSwapped rfl (by decide) rfl (dX3_areSwapped h2)), h3, h4, (pt_callV (i := t) kX3_isDueWith_70 mX4_isLeft rfl h5 rfl (dX4_isLeft_v h5 h1 h2)), h6, h7, trivial⟩
set_option maxRecDepth 100000 in
theorem gX3_isDueWith_0_8 (t : Nat) (a : Int32) (b : Int32) (c : Int32)  (M : pt_M) (h1 : pt_in a 10) (h2 : pt_in b 10) (h3 : a ≤ c) (h4 : b ≤ c) (h5 : t < 7) (h6 : ¬ (sw_F M a c) = (lb_F M t a b c)) (h7 : (sw_F M b c) = (lb_F M t a b c)) :
    pt_Go YX3_isDueWith (0, [(0, pt_r 6 0), (1, pt_r 3 t), (2, pt_i a), (3, pt_i b), (4, pt_i c)], [], M)
      (119, [(0, pt_r 6 0), (1, pt_r 3 t), (2, pt_i a), (3, pt_i b), (4, pt_i c), (5, pt_i (sw_F M a c)), (6, pt_i (sw_F M b c)), (7, pt_i (lb_F M t a b c))], [pt_i 0], M) :=
  pt_run_ok tX3_isDueWith_ok 29 [.inr (3, some (pt_i (sw_F M a c)), M), .inr (3, some (pt_i (sw_F M b c)), M), .inl true, .inl true, .inr (4, some (pt_i (lb_F M t a b c)), M), .inl false, .inl true] (P := pt_Cal YX3_isDueWith (.invokevirtual 66) [pt_r 6 0, pt_i a, pt_i c] M (some (pt_i (sw_F M a c))) M ∧ pt_Cal YX3_isDueWith (.invokevirtual 66) [pt_r 6 0, pt_i b, pt_i c] M (some (pt_i (sw_F M b c))) M ∧ (a ≤ c) ∧ (b ≤ c) ∧ pt_Cal YX3_isDueWith (.invokevirtual 70) [pt_r 3 t, pt_i a, pt_i b, pt_i c] M (some (pt_i (lb_F M t a b c))) M ∧ (¬ (sw_F M a c) = (lb_F M t a b c)) ∧ ((sw_F M b c) = (lb_F M t a b c)) ∧ True) (by with_unfolding_all rfl) ⟨(pt_callV (i := 0) kX3_isDueWith_66 mX3_areSwapped rfl (by decide) rfl (dX3_areSwapped h1)), (pt_callV (i := 0) kX3_isDueWith_66 mX3_areSwapped rfl (by decide) rfl (dX3_areSwapped h2)), h3, h4, (pt_callV (i := t) kX3_isDueWith_70 mX4_isLeft rfl h5 rfl (dX4_isLeft_v h5 h1 h2)), h6, h7, trivial⟩
set_option maxRecDepth 100000 in
theorem gX3_isDueWith_0_9 (t : Nat) (a : Int32) (b : Int32) (c : Int32)  (M : pt_M) (h1 : pt_in a 10) (h2 : pt_in b 10) (h3 : a ≤ c) (h4 : b ≤ c) (h5 : t < 7) (h6 : (sw_F M a c) = (lb_F M t a b c)) :
    pt_Go YX3_isDueWith (0, [(0, pt_r 6 0), (1, pt_r 3 t), (2, pt_i a), (3, pt_i b), (4, pt_i c)], [], M)
      (119, [(0, pt_r 6 0), (1, pt_r 3 t), (2, pt_i a), (3, pt_i b), (4, pt_i c), (5, pt_i (sw_F M a c)), (6, pt_i (sw_F M b c)), (7, pt_i (lb_F M t a b c))], [pt_i 0], M) :=
  pt_run_ok tX3_isDueWith_ok 26 [.inr (3, some (pt_i (sw_F M a c)), M), .inr (3, some (pt_i (sw_F M b c)), M), .inl true, .inl true, .inr (4, some (pt_i (lb_F M t a b c)), M), .inl true] (P := pt_Cal YX3_isDueWith (.invokevirtual 66) [pt_r 6 0, pt_i a, pt_i c] M (some (pt_i (sw_F M a c))) M ∧ pt_Cal YX3_isDueWith (.invokevirtual 66) [pt_r 6 0, pt_i b, pt_i c] M (some (pt_i (sw_F M b c))) M ∧ (a ≤ c) ∧ (b ≤ c) ∧ pt_Cal YX3_isDueWith (.invokevirtual 70) [pt_r 3 t, pt_i a, pt_i b, pt_i c] M (some (pt_i (lb_F M t a b c))) M ∧ ((sw_F M a c) = (lb_F M t a b c)) ∧ True) (by with_unfolding_all rfl) ⟨(pt_callV (i := 0) kX3_isDueWith_66 mX3_areSwapped rfl (by decide) rfl (dX3_areSwapped h1)), (pt_callV (i := 0) kX3_isDueWith_66 mX3_areSwapped rfl (by decide) rfl (dX3_areSwapped h2)), h3, h4, (pt_callV (i := t) kX3_isDueWith_70 mX4_isLeft rfl h5 rfl (dX4_isLeft_v h5 h1 h2)), h6, trivial⟩
theorem dX3_isDueWith_1 {t : Nat} {a b c : Int32} {M : pt_M} (ht : t < 7) (h1 : pt_in a 10) (h2 : pt_in b 10) (h3 : pt_in c 10) (h : dw_P M t a b c) : pt_Does yX3_isDueWith YX3_isDueWith [pt_r 6 0, pt_r 3 t, pt_i a, pt_i b, pt_i c] M (some (pt_i 1)) M := by
  rcases h with ⟨k1, k2, k3⟩ | ⟨k1, k2, k3, k4⟩ | ⟨k1, k2, k3, k4⟩
  · exact rX3_isDueWith_53 rfl (Nat.le_of_ble_eq_true rfl) rfl (gX3_isDueWith_0_1 t a b c M h1 h2 k1 ht h3 k2 k3)
  · exact rX3_isDueWith_89 rfl (Nat.le_of_ble_eq_true rfl) rfl (gX3_isDueWith_0_4 t a b c M h1 h2 k1 k2 ht h3 k3 k4)
  · exact rX3_isDueWith_119 rfl (Nat.le_of_ble_eq_true rfl) rfl (gX3_isDueWith_0_7 t a b c M h1 h2 k1 k2 ht k3 k4)
theorem dX3_isDueWith_0 {t : Nat} {a b c : Int32} {M : pt_M} (ht : t < 7) (h1 : pt_in a 10) (h2 : pt_in b 10) (h3 : pt_in c 10) (h : ¬ dw_P M t a b c) : pt_Does yX3_isDueWith YX3_isDueWith [pt_r 6 0, pt_r 3 t, pt_i a, pt_i b, pt_i c] M (some (pt_i 0)) M := by
  by_cases k1 : a ≤ c
  · by_cases k2 : b ≤ c
    · by_cases k3 : (sw_F M a c) = (lb_F M t a b c)
      · exact rX3_isDueWith_119 rfl (Nat.le_of_ble_eq_true rfl) rfl (gX3_isDueWith_0_9 t a b c M h1 h2 k1 k2 ht k3)
      · by_cases k4 : (sw_F M b c) = (lb_F M t a b c)
        · exact rX3_isDueWith_119 rfl (Nat.le_of_ble_eq_true rfl) rfl (gX3_isDueWith_0_8 t a b c M h1 h2 k1 k2 ht k3 k4)
        · exact absurd (Or.inr (Or.inr ⟨k1, k2, k3, k4⟩)) h
    · by_cases k3 : (sw_F M a c) = (lb_F M t a c b)
      · by_cases k4 : (sw_F M b c) = (lb_F M t a c b)
        · exact rX3_isDueWith_89 rfl (Nat.le_of_ble_eq_true rfl) rfl (gX3_isDueWith_0_5 t a b c M h1 h2 k1 k2 ht h3 k3 k4)
        · exact absurd (Or.inr (Or.inl ⟨k1, k2, k3, k4⟩)) h
      · exact rX3_isDueWith_89 rfl (Nat.le_of_ble_eq_true rfl) rfl (gX3_isDueWith_0_6 t a b c M h1 h2 k1 k2 ht h3 k3)
  · by_cases k3 : (sw_F M a c) = (lb_F M t c a b)
    · by_cases k4 : (sw_F M b c) = (lb_F M t c a b)
      · exact absurd (Or.inl ⟨k1, k3, k4⟩) h
      · exact rX3_isDueWith_53 rfl (Nat.le_of_ble_eq_true rfl) rfl (gX3_isDueWith_0_2 t a b c M h1 h2 k1 ht h3 k3 k4)
    · exact rX3_isDueWith_53 rfl (Nat.le_of_ble_eq_true rfl) rfl (gX3_isDueWith_0_3 t a b c M h1 h2 k1 ht h3 k3)
/-- of the swaps of a < b and c just those have been that the turn has ahead -/
def dw_F (B : Nat → Nat → Nat → Bool) (S : Nat → Nat → Bool) (a b c : Nat) : Bool := if c < a then (S a c == B c a b) && (S b c == B c a b) else if c < b then (S a c == B a c b) && (S b c != B a c b) else (S a c != B a b c) && (S b c != B a b c)
def sS_F (M : pt_M) (a c : Nat) : Bool := (sg_F M a).testBit c
theorem sw_nI {M : pt_M} {n a c : Nat} (hn : n ≤ 10) (h : so_P M n) (ha : a < n) (hc : c < 10) : sw_F M (nI a) (nI c) = pt_b (sS_F M a c) := by
  obtain ⟨-, -, h3, h4⟩ := h a ha
  unfold sw_F sS_F
  rw [pt_nt_nI (by omega), h3, pt_bit (by omega) (by omega)]
  cases (sg_F M a).testBit c <;> rfl
theorem dw_B {M : pt_M} {t n a b c : Nat} {B : Nat → Nat → Nat → Bool} (h : tb_P M t n B) (hs : so_P M n) (ha : a < n) (hb : b < n) (hc : c < n) : dw_P M t (nI a) (nI b) (nI c) ↔ dw_F B (sS_F M) a b c = true := by
  have hn := h.2.1
  have hB := h.2.2.2
  unfold dw_P dw_F
  rw [sw_nI hn hs ha (by omega), sw_nI hn hs hb (by omega), lb_B hB (a := c) (c := a) (d := b) (by omega) (by omega) (by omega), lb_B hB (a := a) (c := c) (d := b) (by omega) (by omega) (by omega), lb_B hB (a := a) (c := b) (d := c) (by omega) (by omega) (by omega)]
  simp only [pt_b_eq, nI_leI (show a < 2 ^ 31 by omega) (show c < 2 ^ 31 by omega), nI_leI (show b < 2 ^ 31 by omega) (show c < 2 ^ 31 by omega)]
  by_cases e1 : c < a
  · have e2 : ¬ a ≤ c := by omega
    simp only [e1, e2, not_false_eq_true, true_and, false_and, or_false, if_true]
    cases sS_F M a c <;> cases sS_F M b c <;> cases B c a b <;> decide
  · have e2 : a ≤ c := by omega
    by_cases e3 : c < b
    · have e4 : ¬ b ≤ c := by omega
      simp only [e1, e2, e3, e4, not_false_eq_true, not_true_eq_false, true_and, false_and, false_or, or_false, if_true, if_false]
      cases sS_F M a c <;> cases sS_F M b c <;> cases B a c b <;> decide
    · have e4 : b ≤ c := by omega
      simp only [e1, e2, e3, e4, not_true_eq_false, true_and, false_and, false_or, if_false]
      cases sS_F M a c <;> cases sS_F M b c <;> cases B a b c <;> decide
def du_F (n : Nat) (B : Nat → Nat → Nat → Bool) (S : Nat → Nat → Bool) (a b : Nat) : Option Unit := fs_F (n - 0) 0 fun c => if decide (c ≠ a) && (decide (c ≠ b) && !dw_F B S a b c) then some () else none
def du_P (n : Nat) (B : Nat → Nat → Nat → Bool) (M : pt_M) (x y : Int32) : Prop := du_F n B (sS_F M) (pt_nt x) (pt_nt y) = none
theorem rX3_isDue_37 {vs : List pt_V} {M M' : pt_M} {x : Int32} {L : List (Nat × pt_V)} (hn : narrow .boolean (.int x) = .int x) (hvs : (vs.map pt_w).sum ≤ 5) (hX : M'.2.2.2.2 = M.2.2.2.2) (h : pt_Go YX3_isDue (0, pt_en 0 vs, [], M) (37, L, [pt_i x], M')) : pt_Does yX3_isDue YX3_isDue vs M (some (pt_i x)) M' := pt_does_go tX3_isDue_ok nX3_isDue hvs hX ⟨_, by with_unfolding_all rfl, rfl, _, rfl, hn⟩ h
theorem rX3_isDue_45 {vs : List pt_V} {M M' : pt_M} {x : Int32} {L : List (Nat × pt_V)} (hn : narrow .boolean (.int x) = .int x) (hvs : (vs.map pt_w).sum ≤ 5) (hX : M'.2.2.2.2 = M.2.2.2.2) (h : pt_Go YX3_isDue (0, pt_en 0 vs, [], M) (45, L, [pt_i x], M')) : pt_Does yX3_isDue YX3_isDue vs M (some (pt_i x)) M' := pt_does_go tX3_isDue_ok nX3_isDue hvs hX ⟨_, by with_unfolding_all rfl, rfl, _, rfl, hn⟩ h
set_option maxRecDepth 100000 in
theorem gX3_isDue_0_1 (t : Nat) (a : Int32) (b : Int32)  (M : pt_M) :
    pt_Go YX3_isDue (0, [(0, pt_r 6 0), (1, pt_r 3 t), (2, pt_i a), (3, pt_i b)], [], M)
      (3, [(0, pt_r 6 0), (1, pt_r 3 t), (2, pt_i a), (3, pt_i b), (4, pt_i 0)], [], M) :=
  pt_run_ok tX3_isDue_ok 2 [] (P := True) (by with_unfolding_all rfl) trivial
set_option maxRecDepth 100000 in
theorem gX3_isDue_3_1 (t : Nat) (l2 : Int32) (l3 : Int32) (l4 : Int32)  (M : pt_M) (h1 : t < 7) (h2 : ¬ (pt_F M 3 0 t) ≤ l4) (h3 : ¬ l4 = l2) (h4 : ¬ l4 = l3) (h5 : pt_in l2 10) (h6 : pt_in l3 10) (h7 : pt_in l4 10) (h8 : dw_P M t l2 l3 l4) :
    pt_Go YX3_isDue (3, [(0, pt_r 6 0), (1, pt_r 3 t), (2, pt_i l2), (3, pt_i l3), (4, pt_i l4)], [], M)
      (3, [(0, pt_r 6 0), (1, pt_r 3 t), (2, pt_i l2), (3, pt_i l3), (4, pt_i (l4 + 1))], [], M) :=
  pt_run_ok tX3_isDue_ok 19 [.inl false, .inl false, .inl false, .inr (5, some (pt_i 1), M), .inl true] (P := (t < 7) ∧ (¬ (pt_F M 3 0 t) ≤ l4) ∧ (¬ l4 = l2) ∧ (¬ l4 = l3) ∧ pt_Cal YX3_isDue (.invokevirtual 62) [pt_r 6 0, pt_r 3 t, pt_i l2, pt_i l3, pt_i l4] M (some (pt_i 1)) M ∧ (¬ (1 : Int32) = (0 : Int32)) ∧ True) (by with_unfolding_all rfl) ⟨h1, h2, h3, h4, (pt_callV (i := 0) kX3_isDue_62 mX3_isDueWith rfl (by decide) rfl (dX3_isDueWith_1 h1 h5 h6 h7 h8)), (by decide), trivial⟩
set_option maxRecDepth 100000 in
theorem gX3_isDue_3_2 (t : Nat) (l2 : Int32) (l3 : Int32) (l4 : Int32)  (M : pt_M) (h1 : t < 7) (h2 : ¬ (pt_F M 3 0 t) ≤ l4) (h3 : ¬ l4 = l2) (h4 : ¬ l4 = l3) (h5 : pt_in l2 10) (h6 : pt_in l3 10) (h7 : pt_in l4 10) (h8 : ¬ dw_P M t l2 l3 l4) :
    pt_Go YX3_isDue (3, [(0, pt_r 6 0), (1, pt_r 3 t), (2, pt_i l2), (3, pt_i l3), (4, pt_i l4)], [], M)
      (37, [(0, pt_r 6 0), (1, pt_r 3 t), (2, pt_i l2), (3, pt_i l3), (4, pt_i l4)], [pt_i 0], M) :=
  pt_run_ok tX3_isDue_ok 18 [.inl false, .inl false, .inl false, .inr (5, some (pt_i 0), M), .inl false] (P := (t < 7) ∧ (¬ (pt_F M 3 0 t) ≤ l4) ∧ (¬ l4 = l2) ∧ (¬ l4 = l3) ∧ pt_Cal YX3_isDue (.invokevirtual 62) [pt_r 6 0, pt_r 3 t, pt_i l2, pt_i l3, pt_i l4] M (some (pt_i 0)) M ∧ ((0 : Int32) = (0 : Int32)) ∧ True) (by with_unfolding_all rfl) ⟨h1, h2, h3, h4, (pt_callV (i := 0) kX3_isDue_62 mX3_isDueWith rfl (by decide) rfl (dX3_isDueWith_0 h1 h5 h6 h7 h8)), (by decide), trivial⟩
set_option maxRecDepth 100000 in
theorem gX3_isDue_3_3 (t : Nat) (l2 : Int32) (l3 : Int32) (l4 : Int32)  (M : pt_M) (h1 : t < 7) (h2 : ¬ (pt_F M 3 0 t) ≤ l4) (h3 : ¬ l4 = l2) (h4 : l4 = l3) :
    pt_Go YX3_isDue (3, [(0, pt_r 6 0), (1, pt_r 3 t), (2, pt_i l2), (3, pt_i l3), (4, pt_i l4)], [], M)
      (3, [(0, pt_r 6 0), (1, pt_r 3 t), (2, pt_i l2), (3, pt_i l3), (4, pt_i (l4 + 1))], [], M) :=
  pt_run_ok tX3_isDue_ok 12 [.inl false, .inl false, .inl true] (P := (t < 7) ∧ (¬ (pt_F M 3 0 t) ≤ l4) ∧ (¬ l4 = l2) ∧ (l4 = l3) ∧ True) (by with_unfolding_all rfl) ⟨h1, h2, h3, h4, trivial⟩
set_option maxRecDepth 100000 in
theorem gX3_isDue_3_4 (t : Nat) (l2 : Int32) (l3 : Int32) (l4 : Int32)  (M : pt_M) (h1 : t < 7) (h2 : ¬ (pt_F M 3 0 t) ≤ l4) (h3 : l4 = l2) :
    pt_Go YX3_isDue (3, [(0, pt_r 6 0), (1, pt_r 3 t), (2, pt_i l2), (3, pt_i l3), (4, pt_i l4)], [], M)
      (3, [(0, pt_r 6 0), (1, pt_r 3 t), (2, pt_i l2), (3, pt_i l3), (4, pt_i (l4 + 1))], [], M) :=
  pt_run_ok tX3_isDue_ok 9 [.inl false, .inl true] (P := (t < 7) ∧ (¬ (pt_F M 3 0 t) ≤ l4) ∧ (l4 = l2) ∧ True) (by with_unfolding_all rfl) ⟨h1, h2, h3, trivial⟩
set_option maxRecDepth 100000 in
theorem gX3_isDue_3_5 (t : Nat) (l2 : Int32) (l3 : Int32) (l4 : Int32)  (M : pt_M) (h1 : t < 7) (h2 : (pt_F M 3 0 t) ≤ l4) :
    pt_Go YX3_isDue (3, [(0, pt_r 6 0), (1, pt_r 3 t), (2, pt_i l2), (3, pt_i l3), (4, pt_i l4)], [], M)
      (45, [(0, pt_r 6 0), (1, pt_r 3 t), (2, pt_i l2), (3, pt_i l3), (4, pt_i l4)], [pt_i 1], M) :=
  pt_run_ok tX3_isDue_ok 5 [.inl true] (P := (t < 7) ∧ ((pt_F M 3 0 t) ≤ l4) ∧ True) (by with_unfolding_all rfl) ⟨h1, h2, trivial⟩
theorem dX3_isDue {t n a b : Nat} {B : Nat → Nat → Nat → Bool} {M : pt_M} (h : tb_P M t n B) (hs : so_P M n) (ha : a < n) (hb : b < n) : (du_F n B (sS_F M) a b = none → pt_Does yX3_isDue YX3_isDue [pt_r 6 0, pt_r 3 t, pt_i (nI a), pt_i (nI b)] M (some (pt_i 1)) M) ∧ (du_F n B (sS_F M) a b = some () → pt_Does yX3_isDue YX3_isDue [pt_r 6 0, pt_r 3 t, pt_i (nI a), pt_i (nI b)] M (some (pt_i 0)) M) := by
  have htb := h
  obtain ⟨ht, hn, hsz, hB⟩ := h
  have hlt : ∀ i, i < n → ¬ pt_F M 3 0 t ≤ nI i := fun i hi => by rw [hsz]; exact nI_ge hi (by omega)
  have hle : pt_F M 3 0 t ≤ nI n := by rw [hsz]; exact Int32.le_refl _
  have hp : ∀ i, i < n → pt_in (nI i) 10 := fun i hi => pt_in_nI (by omega) (by decide)
  have K := pt_nest (Y := YX3_isDue) (σ := (0, [(0, pt_r 6 0), (1, pt_r 3 t), (2, pt_i (nI a)), (3, pt_i (nI b))], [], M)) (τ := (45, [], [pt_i 1], M)) (R := fun _ : Unit => (37, [], [pt_i 0], M)) (n := n) (i := 0)
    (S := fun c => (3, [(0, pt_r 6 0), (1, pt_r 3 t), (2, pt_i (nI a)), (3, pt_i (nI b)), (4, pt_i (nI c))], [], M)) (f := fun c => if decide (c ≠ a) && (decide (c ≠ b) && !dw_F B (sS_F M) a b c) then some () else none)
    (Nat.zero_le n) (gX3_isDue_0_1 t (nI a) (nI b) M) ((gX3_isDue_3_5 t (nI a) (nI b) (nI n) M ht hle).tr pt_dropA) fun c _ hc => by
      have hd := dw_B htb hs ha hb hc
      have e1 := nI_eq (show c < 2 ^ 31 by omega) (show a < 2 ^ 31 by omega)
      have e2 := nI_eq (show c < 2 ^ 31 by omega) (show b < 2 ^ 31 by omega)
      by_cases ka : c = a
      · exact ⟨fun v z => by simp [ka] at z, fun _ => (gX3_isDue_3_4 t (nI a) (nI b) (nI c) M ht (hlt c hc) (by rw [ka])).to (by rw [nI_1])⟩
      · by_cases kb : c = b
        · exact ⟨fun v z => by simp [kb] at z, fun _ => (gX3_isDue_3_3 t (nI a) (nI b) (nI c) M ht (hlt c hc) (fun z => ka (e1.mp z)) (by rw [kb])).to (by rw [nI_1])⟩
        · cases hv : dw_F B (sS_F M) a b c
          · exact ⟨fun v z => (gX3_isDue_3_2 t (nI a) (nI b) (nI c) M ht (hlt c hc) (fun z => ka (e1.mp z)) (fun z => kb (e2.mp z)) (hp a ha) (hp b hb) (hp c hc) (fun z => by rw [hd, hv] at z; cases z)).tr pt_dropA, fun z => by simp [ka, kb] at z⟩
          · exact ⟨fun v z => by simp at z, fun _ => (gX3_isDue_3_1 t (nI a) (nI b) (nI c) M ht (hlt c hc) (fun z => ka (e1.mp z)) (fun z => kb (e2.mp z)) (hp a ha) (hp b hb) (hp c hc) (hd.mpr hv)).to (by rw [nI_1])⟩
  exact ⟨fun hf => rX3_isDue_45 rfl (Nat.le_of_ble_eq_true rfl) rfl (K.2 hf), fun hf => rX3_isDue_37 rfl (Nat.le_of_ble_eq_true rfl) rfl (K.1 () hf)⟩
theorem dX3_isDue_1 {t n : Nat} {x y : Int32} {B : Nat → Nat → Nat → Bool} {M : pt_M} (h : tb_P M t n B) (hs : so_P M n) (hx : pt_in x n) (hy : pt_in y n) (hd : du_P n B M x y) : pt_Does yX3_isDue YX3_isDue [pt_r 6 0, pt_r 3 t, pt_i x, pt_i y] M (some (pt_i 1)) M := by
  have hn := h.2.1
  obtain ⟨a, ha, rfl⟩ := vp_in_of (pt_in_vp hx) (by omega)
  obtain ⟨b, hb, rfl⟩ := vp_in_of (pt_in_vp hy) (by omega)
  unfold du_P at hd
  rw [pt_nt_nI (by omega), pt_nt_nI (by omega)] at hd
  exact (dX3_isDue h hs ha hb).1 hd
theorem dX3_isDue_0 {t n : Nat} {x y : Int32} {B : Nat → Nat → Nat → Bool} {M : pt_M} (h : tb_P M t n B) (hs : so_P M n) (hx : pt_in x n) (hy : pt_in y n) (hd : ¬ du_P n B M x y) : pt_Does yX3_isDue YX3_isDue [pt_r 6 0, pt_r 3 t, pt_i x, pt_i y] M (some (pt_i 0)) M := by
  have hn := h.2.1
  obtain ⟨a, ha, rfl⟩ := vp_in_of (pt_in_vp hx) (by omega)
  obtain ⟨b, hb, rfl⟩ := vp_in_of (pt_in_vp hy) (by omega)
  unfold du_P at hd
  rw [pt_nt_nI (by omega), pt_nt_nI (by omega)] at hd
  refine (dX3_isDue h hs ha hb).2 ?_
  cases hv : du_F n B (sS_F M) a b with
  | none => exact absurd hv hd
  | some u => rfl
def lp_F (n : Nat) (B : Nat → Nat → Nat → Bool) (o : Nat → Nat) (S : Nat → Nat → Bool) : Option Nat := fs_F (n - 1 - 0) 0 fun q => if decide (o q < o (q + 1)) && (du_F n B S (o q) (o (q + 1))).isNone then some q else none
def lp_I (n : Nat) (B : Nat → Nat → Nat → Bool) (M : pt_M) : Int32 := match lp_F n B (og_F M) (sS_F M) with
  | some q => nI q
  | none => -1
theorem rX3_leastPlace_52 {vs : List pt_V} {M M' : pt_M} {x : Int32} {L : List (Nat × pt_V)} (hvs : (vs.map pt_w).sum ≤ 3) (hX : M'.2.2.2.2 = M.2.2.2.2) (h : pt_Go YX3_leastPlace (0, pt_en 0 vs, [], M) (52, L, [pt_i x], M')) : pt_Does yX3_leastPlace YX3_leastPlace vs M (some (pt_i x)) M' := pt_does_go tX3_leastPlace_ok nX3_leastPlace hvs hX ⟨_, by with_unfolding_all rfl, rfl, _, rfl, rfl⟩ h
theorem rX3_leastPlace_60 {vs : List pt_V} {M M' : pt_M} {x : Int32} {L : List (Nat × pt_V)} (hvs : (vs.map pt_w).sum ≤ 3) (hX : M'.2.2.2.2 = M.2.2.2.2) (h : pt_Go YX3_leastPlace (0, pt_en 0 vs, [], M) (60, L, [pt_i x], M')) : pt_Does yX3_leastPlace YX3_leastPlace vs M (some (pt_i x)) M' := pt_does_go tX3_leastPlace_ok nX3_leastPlace hvs hX ⟨_, by with_unfolding_all rfl, rfl, _, rfl, rfl⟩ h
set_option maxRecDepth 100000 in
theorem gX3_leastPlace_0_1 (t : Nat) (n : Nat) (B : Nat → Nat → Nat → Bool) (M : pt_M) :
    pt_Go YX3_leastPlace (0, [(0, pt_r 6 0), (1, pt_r 3 t)], [], M)
      (2, [(0, pt_r 6 0), (1, pt_r 3 t), (2, pt_i 0)], [], M) :=
  pt_run_ok tX3_leastPlace_ok 2 [] (P := True) (by with_unfolding_all rfl) trivial
set_option maxRecDepth 100000 in
theorem gX3_leastPlace_2_1 (t : Nat) (l2 : Int32) (n : Nat) (B : Nat → Nat → Nat → Bool) (M : pt_M) (h1 : t < 7) (h2 : ¬ (pt_F M 3 0 t) ≤ (l2 + 1)) (h3 : pt_in l2 10) (h4 : pt_in (l2 + 1) 10) (h5 : ¬ (pt_A M 17 0 (pt_nt (l2 + 1))) ≤ (pt_A M 17 0 (pt_nt l2))) (h6 : tb_P M t n B) (h7 : so_P M n) (h8 : pt_in (pt_A M 17 0 (pt_nt l2)) n) (h9 : pt_in (pt_A M 17 0 (pt_nt (l2 + 1))) n) (h10 : du_P n B M (pt_A M 17 0 (pt_nt l2)) (pt_A M 17 0 (pt_nt (l2 + 1)))) :
    pt_Go YX3_leastPlace (2, [(0, pt_r 6 0), (1, pt_r 3 t), (2, pt_i l2)], [], M)
      (52, [(0, pt_r 6 0), (1, pt_r 3 t), (2, pt_i l2)], [pt_i l2], M) :=
  pt_run_ok tX3_leastPlace_ok 32 [.inl false, .inl false, .inr (4, some (pt_i 1), M), .inl false] (P := (t < 7) ∧ (¬ (pt_F M 3 0 t) ≤ (l2 + 1)) ∧ (pt_in l2 10) ∧ (pt_in (l2 + 1) 10) ∧ (¬ (pt_A M 17 0 (pt_nt (l2 + 1))) ≤ (pt_A M 17 0 (pt_nt l2))) ∧ (pt_in l2 10) ∧ (pt_in (l2 + 1) 10) ∧ pt_Cal YX3_leastPlace (.invokevirtual 58) [pt_r 6 0, pt_r 3 t, pt_i (pt_A M 17 0 (pt_nt l2)), pt_i (pt_A M 17 0 (pt_nt (l2 + 1)))] M (some (pt_i 1)) M ∧ (¬ (1 : Int32) = (0 : Int32)) ∧ True) (by with_unfolding_all rfl) ⟨h1, h2, h3, h4, h5, h3, h4, (pt_callV (i := 0) kX3_leastPlace_58 mX3_isDue rfl (by decide) rfl (dX3_isDue_1 h6 h7 h8 h9 h10)), (by decide), trivial⟩
set_option maxRecDepth 100000 in
theorem gX3_leastPlace_2_2 (t : Nat) (l2 : Int32) (n : Nat) (B : Nat → Nat → Nat → Bool) (M : pt_M) (h1 : t < 7) (h2 : ¬ (pt_F M 3 0 t) ≤ (l2 + 1)) (h3 : pt_in l2 10) (h4 : pt_in (l2 + 1) 10) (h5 : ¬ (pt_A M 17 0 (pt_nt (l2 + 1))) ≤ (pt_A M 17 0 (pt_nt l2))) (h6 : tb_P M t n B) (h7 : so_P M n) (h8 : pt_in (pt_A M 17 0 (pt_nt l2)) n) (h9 : pt_in (pt_A M 17 0 (pt_nt (l2 + 1))) n) (h10 : ¬ du_P n B M (pt_A M 17 0 (pt_nt l2)) (pt_A M 17 0 (pt_nt (l2 + 1)))) :
    pt_Go YX3_leastPlace (2, [(0, pt_r 6 0), (1, pt_r 3 t), (2, pt_i l2)], [], M)
      (2, [(0, pt_r 6 0), (1, pt_r 3 t), (2, pt_i (l2 + 1))], [], M) :=
  pt_run_ok tX3_leastPlace_ok 33 [.inl false, .inl false, .inr (4, some (pt_i 0), M), .inl true] (P := (t < 7) ∧ (¬ (pt_F M 3 0 t) ≤ (l2 + 1)) ∧ (pt_in l2 10) ∧ (pt_in (l2 + 1) 10) ∧ (¬ (pt_A M 17 0 (pt_nt (l2 + 1))) ≤ (pt_A M 17 0 (pt_nt l2))) ∧ (pt_in l2 10) ∧ (pt_in (l2 + 1) 10) ∧ pt_Cal YX3_leastPlace (.invokevirtual 58) [pt_r 6 0, pt_r 3 t, pt_i (pt_A M 17 0 (pt_nt l2)), pt_i (pt_A M 17 0 (pt_nt (l2 + 1)))] M (some (pt_i 0)) M ∧ ((0 : Int32) = (0 : Int32)) ∧ True) (by with_unfolding_all rfl) ⟨h1, h2, h3, h4, h5, h3, h4, (pt_callV (i := 0) kX3_leastPlace_58 mX3_isDue rfl (by decide) rfl (dX3_isDue_0 h6 h7 h8 h9 h10)), (by decide), trivial⟩
set_option maxRecDepth 100000 in
theorem gX3_leastPlace_2_3 (t : Nat) (l2 : Int32) (n : Nat) (B : Nat → Nat → Nat → Bool) (M : pt_M) (h1 : t < 7) (h2 : ¬ (pt_F M 3 0 t) ≤ (l2 + 1)) (h3 : pt_in l2 10) (h4 : pt_in (l2 + 1) 10) (h5 : (pt_A M 17 0 (pt_nt (l2 + 1))) ≤ (pt_A M 17 0 (pt_nt l2))) :
    pt_Go YX3_leastPlace (2, [(0, pt_r 6 0), (1, pt_r 3 t), (2, pt_i l2)], [], M)
      (2, [(0, pt_r 6 0), (1, pt_r 3 t), (2, pt_i (l2 + 1))], [], M) :=
  pt_run_ok tX3_leastPlace_ok 19 [.inl false, .inl true] (P := (t < 7) ∧ (¬ (pt_F M 3 0 t) ≤ (l2 + 1)) ∧ (pt_in l2 10) ∧ (pt_in (l2 + 1) 10) ∧ ((pt_A M 17 0 (pt_nt (l2 + 1))) ≤ (pt_A M 17 0 (pt_nt l2))) ∧ True) (by with_unfolding_all rfl) ⟨h1, h2, h3, h4, h5, trivial⟩
set_option maxRecDepth 100000 in
theorem gX3_leastPlace_2_4 (t : Nat) (l2 : Int32) (n : Nat) (B : Nat → Nat → Nat → Bool) (M : pt_M) (h1 : t < 7) (h2 : (pt_F M 3 0 t) ≤ (l2 + 1)) :
    pt_Go YX3_leastPlace (2, [(0, pt_r 6 0), (1, pt_r 3 t), (2, pt_i l2)], [], M)
      (60, [(0, pt_r 6 0), (1, pt_r 3 t), (2, pt_i l2)], [pt_i (-1)], M) :=
  pt_run_ok tX3_leastPlace_ok 7 [.inl true] (P := (t < 7) ∧ ((pt_F M 3 0 t) ≤ (l2 + 1)) ∧ True) (by with_unfolding_all rfl) ⟨h1, h2, trivial⟩
theorem dX3_leastPlace {t n : Nat} {B : Nat → Nat → Nat → Bool} {M : pt_M} (h : tb_P M t n B) (hs : so_P M n) : pt_Does yX3_leastPlace YX3_leastPlace [pt_r 6 0, pt_r 3 t] M (some (pt_i (lp_I n B M))) M := by
  have htb := h
  obtain ⟨ht, hn, hsz, hB⟩ := h
  have K := pt_nest (Y := YX3_leastPlace) (σ := (0, [(0, pt_r 6 0), (1, pt_r 3 t)], [], M)) (τ := (60, [], [pt_i (-1)], M)) (R := fun q => (52, [], [pt_i (nI q)], M)) (n := n - 1) (i := 0)
    (S := fun q => (2, [(0, pt_r 6 0), (1, pt_r 3 t), (2, pt_i (nI q))], [], M)) (f := fun q => if decide (og_F M q < og_F M (q + 1)) && (du_F n B (sS_F M) (og_F M q) (og_F M (q + 1))).isNone then some q else none)
    (Nat.zero_le _) (gX3_leastPlace_0_1 t n B M) ((gX3_leastPlace_2_4 t (nI (n - 1)) n B M ht (by rw [hsz, nI_1]; exact nI_le (by omega) (by omega))).tr pt_dropA) fun q _ hq => by
      obtain ⟨a1, a2, -, -⟩ := hs q (by omega)
      obtain ⟨b1, b2, -, -⟩ := hs (q + 1) (by omega)
      have hlt : ¬ pt_F M 3 0 t ≤ nI q + 1 := by rw [hsz, nI_1]; exact nI_ge (by omega) (by omega)
      have p1 : pt_in (nI q) 10 := pt_in_nI (by omega) (by decide)
      have p2 : pt_in (nI q + 1) 10 := by rw [nI_1]; exact pt_in_nI (by omega) (by decide)
      have r1 : pt_A M 17 0 (pt_nt (nI q)) = nI (og_F M q) := by rw [pt_nt_nI (by omega)]; exact a1
      have r2 : pt_A M 17 0 (pt_nt (nI q + 1)) = nI (og_F M (q + 1)) := by rw [nI_1, pt_nt_nI (by omega)]; exact b1
      have hle := nI_leI (show og_F M (q + 1) < 2 ^ 31 by omega) (show og_F M q < 2 ^ 31 by omega)
      have q1 : pt_in (pt_A M 17 0 (pt_nt (nI q))) n := by rw [r1]; exact pt_in_nI a2 (by omega)
      have q2 : pt_in (pt_A M 17 0 (pt_nt (nI q + 1))) n := by rw [r2]; exact pt_in_nI b2 (by omega)
      have hdu : du_P n B M (pt_A M 17 0 (pt_nt (nI q))) (pt_A M 17 0 (pt_nt (nI q + 1))) ↔ du_F n B (sS_F M) (og_F M q) (og_F M (q + 1)) = none := by
        unfold du_P
        rw [r1, r2, pt_nt_nI (by omega), pt_nt_nI (by omega)]
      by_cases k1 : og_F M q < og_F M (q + 1)
      · have k1' : ¬ pt_A M 17 0 (pt_nt (nI q + 1)) ≤ pt_A M 17 0 (pt_nt (nI q)) := by rw [r1, r2, hle]; omega
        cases hv : du_F n B (sS_F M) (og_F M q) (og_F M (q + 1)) with
        | none =>
          refine ⟨fun v z => ?_, fun z => by simp [k1] at z⟩
          simp only [k1, decide_true, Option.isNone_none, Bool.and_self, if_true, Option.some.injEq] at z
          subst z
          exact (gX3_leastPlace_2_1 t (nI q) n B M ht hlt p1 p2 k1' htb hs q1 q2 (hdu.mpr hv)).tr pt_dropA
        | some u => exact ⟨fun v z => by simp at z, fun _ => (gX3_leastPlace_2_2 t (nI q) n B M ht hlt p1 p2 k1' htb hs q1 q2 (fun z => by rw [hdu, hv] at z; cases z)).to (by rw [nI_1])⟩
      · have k1' : pt_A M 17 0 (pt_nt (nI q + 1)) ≤ pt_A M 17 0 (pt_nt (nI q)) := by rw [r1, r2, hle]; omega
        exact ⟨fun v z => by simp [k1] at z, fun _ => (gX3_leastPlace_2_3 t (nI q) n B M ht hlt p1 p2 k1').to (by rw [nI_1])⟩
  unfold lp_I
  cases hf : lp_F n B (og_F M) (sS_F M) with
  | none => exact rX3_leastPlace_60 (Nat.le_of_ble_eq_true rfl) rfl (K.2 hf)
  | some v => exact rX3_leastPlace_52 (Nat.le_of_ble_eq_true rfl) rfl (K.1 v hf)
