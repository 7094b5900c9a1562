/-! kind, which: of 3 to 6 points -/
set_option maxRecDepth 100000 in
theorem gX6_kinds3_0_1 (x1 : Int32)  (M : pt_M) (h1 : x1 = 3) (h2 : (nI 1) = 0) :
    pt_Go YX6_kinds (0, [(0, pt_r 2 0), (1, pt_i x1)], [], M)
      (15, [(0, pt_r 2 0), (1, pt_i x1), (2, pt_i (nI 1))], [pt_i (-1)], M) :=
  pt_run_ok tX6_kinds_ok 8 [.inr (1, some (pt_r 61 0), M), .inl false] (P := pt_Cal YX6_kinds (.invokestatic 252) [pt_i x1] M (some (pt_r 61 0)) M ∧ ((nI 1) = 0) ∧ True) (by with_unfolding_all rfl) ⟨(pt_callS kX6_kinds_252 mX6_kindsOf rfl (dX6_kindsOf_3 h1)), h2, trivial⟩
set_option maxRecDepth 100000 in
theorem gX6_kinds3_0_2 (x1 : Int32)  (M : pt_M) (h1 : x1 = 3) (h2 : ¬ (nI 1) = 0) :
    pt_Go YX6_kinds (0, [(0, pt_r 2 0), (1, pt_i x1)], [], M)
      (15, [(0, pt_r 2 0), (1, pt_i x1), (2, pt_i (nI 1))], [pt_i (nI 1)], M) :=
  pt_run_ok tX6_kinds_ok 7 [.inr (1, some (pt_r 61 0), M), .inl true] (P := pt_Cal YX6_kinds (.invokestatic 252) [pt_i x1] M (some (pt_r 61 0)) M ∧ (¬ (nI 1) = 0) ∧ True) (by with_unfolding_all rfl) ⟨(pt_callS kX6_kinds_252 mX6_kindsOf rfl (dX6_kindsOf_3 h1)), h2, trivial⟩
theorem dX6_kinds3_p1 (x1 : Int32)  (M : pt_M) (h1 : x1 = 3) (h2 : (nI 1) = 0) : pt_Does yX6_kinds YX6_kinds [pt_r 2 0, pt_i x1] M (some (pt_i (-1))) M :=
  rX6_kinds_15 (Nat.le_of_ble_eq_true rfl) rfl (gX6_kinds3_0_1 x1 M h1 h2)
theorem dX6_kinds3_p2 (x1 : Int32)  (M : pt_M) (h1 : x1 = 3) (h2 : ¬ (nI 1) = 0) : pt_Does yX6_kinds YX6_kinds [pt_r 2 0, pt_i x1] M (some (pt_i (nI 1))) M :=
  rX6_kinds_15 (Nat.le_of_ble_eq_true rfl) rfl (gX6_kinds3_0_2 x1 M h1 h2)
set_option maxRecDepth 100000 in
theorem gX6_kind3_0_1 (x1 : Int32) (x2 : Int32) (x3 : Int32) (n : Nat) (M : pt_M) (h1 : x2 = 3) (h2 : sl_P x1) (h3 : ¬ x3 < 0) (h4 : ¬ x3 < (nI 1)) :
    pt_Go YX6_kind (0, [(0, pt_r 2 0), (1, pt_i x1), (2, pt_i x2), (3, pt_i x3)], [], M)
      (25, [(0, pt_r 2 0), (1, pt_i x1), (2, pt_i x2), (3, pt_i x3), (4, pt_r 61 0)], [pt_i 0], M) :=
  pt_run_ok tX6_kind_ok 13 [.inr (1, some (pt_r 61 0), M), .inr (1, some (pt_i 1), M), .inl false, .inl false, .inl false] (P := pt_Cal YX6_kind (.invokestatic 252) [pt_i x2] M (some (pt_r 61 0)) M ∧ pt_Cal YX6_kind (.invokestatic 75) [pt_i x1] M (some (pt_i 1)) M ∧ (¬ (1 : Int32) = (0 : Int32)) ∧ (¬ x3 < 0) ∧ (¬ x3 < (nI 1)) ∧ True) (by with_unfolding_all rfl) ⟨(pt_callS kX6_kind_252 mX6_kindsOf rfl (dX6_kindsOf_3 h1)), (pt_callS kX6_kind_75 mX6_isSlot rfl (dX6_isSlot_1 h2)), (by decide), h3, h4, trivial⟩
set_option maxRecDepth 100000 in
theorem gX6_kind3_0_2 (x1 : Int32) (x2 : Int32) (x3 : Int32) (n : Nat) (M : pt_M) (h1 : x2 = 3) (h2 : sl_P x1) (h3 : ¬ x3 < 0) (h4 : x3 < (nI 1)) :
    pt_Go YX6_kind (0, [(0, pt_r 2 0), (1, pt_i x1), (2, pt_i x2), (3, pt_i x3)], [], M)
      (35, [(0, pt_r 2 0), (1, pt_i x1), (2, pt_i x2), (3, pt_i x3), (4, pt_r 61 0), (5, pt_i (to_F x2)), (6, pt_i 0)], [], M) :=
  pt_run_ok tX6_kind_ok 17 [.inr (1, some (pt_r 61 0), M), .inr (1, some (pt_i 1), M), .inl false, .inl false, .inl true, .inr (1, some (pt_i (to_F x2)), M)] (P := pt_Cal YX6_kind (.invokestatic 252) [pt_i x2] M (some (pt_r 61 0)) M ∧ pt_Cal YX6_kind (.invokestatic 75) [pt_i x1] M (some (pt_i 1)) M ∧ (¬ (1 : Int32) = (0 : Int32)) ∧ (¬ x3 < 0) ∧ (x3 < (nI 1)) ∧ pt_Cal YX6_kind (.invokestatic 110) [pt_i x2] M (some (pt_i (to_F x2))) M ∧ True) (by with_unfolding_all rfl) ⟨(pt_callS kX6_kind_252 mX6_kindsOf rfl (dX6_kindsOf_3 h1)), (pt_callS kX6_kind_75 mX6_isSlot rfl (dX6_isSlot_1 h2)), (by decide), h3, h4, (pt_callS kX6_kind_110 mX6_turnsOf rfl (dX6_turnsOf x2 M)), trivial⟩
set_option maxRecDepth 100000 in
theorem gX6_kind3_0_3 (x1 : Int32) (x2 : Int32) (x3 : Int32) (n : Nat) (M : pt_M) (h1 : x2 = 3) (h2 : sl_P x1) (h3 : x3 < 0) :
    pt_Go YX6_kind (0, [(0, pt_r 2 0), (1, pt_i x1), (2, pt_i x2), (3, pt_i x3)], [], M)
      (25, [(0, pt_r 2 0), (1, pt_i x1), (2, pt_i x2), (3, pt_i x3), (4, pt_r 61 0)], [pt_i 0], M) :=
  pt_run_ok tX6_kind_ok 9 [.inr (1, some (pt_r 61 0), M), .inr (1, some (pt_i 1), M), .inl false, .inl true] (P := pt_Cal YX6_kind (.invokestatic 252) [pt_i x2] M (some (pt_r 61 0)) M ∧ pt_Cal YX6_kind (.invokestatic 75) [pt_i x1] M (some (pt_i 1)) M ∧ (¬ (1 : Int32) = (0 : Int32)) ∧ (x3 < 0) ∧ True) (by with_unfolding_all rfl) ⟨(pt_callS kX6_kind_252 mX6_kindsOf rfl (dX6_kindsOf_3 h1)), (pt_callS kX6_kind_75 mX6_isSlot rfl (dX6_isSlot_1 h2)), (by decide), h3, trivial⟩
set_option maxRecDepth 100000 in
theorem gX6_kind3_0_4 (x1 : Int32) (x2 : Int32) (x3 : Int32) (n : Nat) (M : pt_M) (h1 : x2 = 3) (h2 : ¬ sl_P x1) :
    pt_Go YX6_kind (0, [(0, pt_r 2 0), (1, pt_i x1), (2, pt_i x2), (3, pt_i x3)], [], M)
      (25, [(0, pt_r 2 0), (1, pt_i x1), (2, pt_i x2), (3, pt_i x3), (4, pt_r 61 0)], [pt_i 0], M) :=
  pt_run_ok tX6_kind_ok 7 [.inr (1, some (pt_r 61 0), M), .inr (1, some (pt_i 0), M), .inl true] (P := pt_Cal YX6_kind (.invokestatic 252) [pt_i x2] M (some (pt_r 61 0)) M ∧ pt_Cal YX6_kind (.invokestatic 75) [pt_i x1] M (some (pt_i 0)) M ∧ ((0 : Int32) = (0 : Int32)) ∧ True) (by with_unfolding_all rfl) ⟨(pt_callS kX6_kind_252 mX6_kindsOf rfl (dX6_kindsOf_3 h1)), (pt_callS kX6_kind_75 mX6_isSlot rfl (dX6_isSlot_0 h2)), (by decide), trivial⟩
set_option maxRecDepth 100000 in
theorem gX6_kind3_35_1 (l1 : Int32) (l2 : Int32) (l3 : Int32) (l5 : Int32) (l6 : Int32) (n : Nat) (M : pt_M) (h1 : ¬ l5 ≤ l6) (h2 : pt_in l3 1) (h3 : (((pt_kk 61 (pt_nt l3)) >>> (((l5 - 1) - l6) &&& 31)) &&& 1) = 1) (h4 : pt_in l6 120) :
    pt_Go YX6_kind (35, [(0, pt_r 2 0), (1, pt_i l1), (2, pt_i l2), (3, pt_i l3), (4, pt_r 61 0), (5, pt_i l5), (6, pt_i l6)], [], M)
      (35, [(0, pt_r 2 0), (1, pt_i l1), (2, pt_i l2), (3, pt_i l3), (4, pt_r 61 0), (5, pt_i l5), (6, pt_i (l6 + 1))], [], (pt_wA M 24 0 (upd (pt_A M 24 0) (pt_nt l6) 2))) :=
  pt_run_ok tX6_kind_ok 24 [.inl false, .inl false] (P := (¬ l5 ≤ l6) ∧ (pt_in l3 1) ∧ ((((pt_kk 61 (pt_nt l3)) >>> (((l5 - 1) - l6) &&& 31)) &&& 1) = 1) ∧ (pt_in l6 120) ∧ True) (by with_unfolding_all rfl) ⟨h1, h2, h3, h4, trivial⟩
set_option maxRecDepth 100000 in
theorem gX6_kind3_35_2 (l1 : Int32) (l2 : Int32) (l3 : Int32) (l5 : Int32) (l6 : Int32) (n : Nat) (M : pt_M) (h1 : ¬ l5 ≤ l6) (h2 : pt_in l3 1) (h3 : ¬ (((pt_kk 61 (pt_nt l3)) >>> (((l5 - 1) - l6) &&& 31)) &&& 1) = 1) (h4 : pt_in l6 120) :
    pt_Go YX6_kind (35, [(0, pt_r 2 0), (1, pt_i l1), (2, pt_i l2), (3, pt_i l3), (4, pt_r 61 0), (5, pt_i l5), (6, pt_i l6)], [], M)
      (35, [(0, pt_r 2 0), (1, pt_i l1), (2, pt_i l2), (3, pt_i l3), (4, pt_r 61 0), (5, pt_i l5), (6, pt_i (l6 + 1))], [], (pt_wA M 24 0 (upd (pt_A M 24 0) (pt_nt l6) 1))) :=
  pt_run_ok tX6_kind_ok 23 [.inl false, .inl true] (P := (¬ l5 ≤ l6) ∧ (pt_in l3 1) ∧ (¬ (((pt_kk 61 (pt_nt l3)) >>> (((l5 - 1) - l6) &&& 31)) &&& 1) = 1) ∧ (pt_in l6 120) ∧ True) (by with_unfolding_all rfl) ⟨h1, h2, h3, h4, trivial⟩
set_option maxRecDepth 100000 in
theorem gX6_kind3_35_3 (l1 : Int32) (l2 : Int32) (l3 : Int32) (l5 : Int32) (l6 : Int32) (n : Nat) (M : pt_M) (h1 : l5 ≤ l6) (h2 : (pt_R M 0) < 7) (h3 : tr_H (pt_R M 0) l2 0 n) (h4 : kp_P (mt_F M (pt_R M 0) n fun i j k => decide (pt_A M 24 0 (rk_F n i j k) = 1)) l1) :
    pt_Go YX6_kind (35, [(0, pt_r 2 0), (1, pt_i l1), (2, pt_i l2), (3, pt_i l3), (4, pt_r 61 0), (5, pt_i l5), (6, pt_i l6)], [], M)
      (96, [(0, pt_r 2 0), (1, pt_i l1), (2, pt_i l2), (3, pt_i l3), (4, pt_r 61 0), (5, pt_i l5), (6, pt_i l6)], [pt_i 1], (kp_M (mt_F M (pt_R M 0) n fun i j k => decide (pt_A M 24 0 (rk_F n i j k) = 1)) l1)) :=
  pt_run_ok tX6_kind_ok 13 [.inl true, .inr (3, none, (mt_F M (pt_R M 0) n fun i j k => decide (pt_A M 24 0 (rk_F n i j k) = 1))), .inr (2, none, (kp_M (mt_F M (pt_R M 0) n fun i j k => decide (pt_A M 24 0 (rk_F n i j k) = 1)) l1))] (P := (l5 ≤ l6) ∧ pt_Cal YX6_kind (.invokevirtual 116) [pt_r 3 (pt_R M 0), pt_i l2, pt_r 24 0] M none (mt_F M (pt_R M 0) n fun i j k => decide (pt_A M 24 0 (rk_F n i j k) = 1)) ∧ pt_Cal YX6_kind (.invokevirtual 88) [pt_r 2 0, pt_i l1] (mt_F M (pt_R M 0) n fun i j k => decide (pt_A M 24 0 (rk_F n i j k) = 1)) none (kp_M (mt_F M (pt_R M 0) n fun i j k => decide (pt_A M 24 0 (rk_F n i j k) = 1)) l1) ∧ True) (by with_unfolding_all rfl) ⟨h1, (pt_callV (i := (pt_R M 0)) kX6_kind_116 mX4_takeRow rfl h2 rfl (dX4_takeRow_t24 h3)), (pt_callV (i := 0) kX6_kind_88 mX6_keepSpare rfl (by decide) rfl (dX6_keepSpare h4)), trivial⟩
theorem dX6_kind3_p1 (x1 : Int32) (x2 : Int32) (x3 : Int32) (n : Nat) (M : pt_M) (h1 : x2 = 3) (h2 : sl_P x1) (h3 : ¬ x3 < 0) (h4 : ¬ x3 < (nI 1)) : pt_Does yX6_kind YX6_kind [pt_r 2 0, pt_i x1, pt_i x2, pt_i x3] M (some (pt_i 0)) M :=
  rX6_kind_25 pt_nar0 (Nat.le_of_ble_eq_true rfl) rfl (gX6_kind3_0_1 x1 x2 x3 n M h1 h2 h3 h4)
theorem dX6_kind3_p3 (x1 : Int32) (x2 : Int32) (x3 : Int32) (n : Nat) (M : pt_M) (h1 : x2 = 3) (h2 : sl_P x1) (h3 : x3 < 0) : pt_Does yX6_kind YX6_kind [pt_r 2 0, pt_i x1, pt_i x2, pt_i x3] M (some (pt_i 0)) M :=
  rX6_kind_25 pt_nar0 (Nat.le_of_ble_eq_true rfl) rfl (gX6_kind3_0_3 x1 x2 x3 n M h1 h2 h3)
theorem dX6_kind3_p4 (x1 : Int32) (x2 : Int32) (x3 : Int32) (n : Nat) (M : pt_M) (h1 : x2 = 3) (h2 : ¬ sl_P x1) : pt_Does yX6_kind YX6_kind [pt_r 2 0, pt_i x1, pt_i x2, pt_i x3] M (some (pt_i 0)) M :=
  rX6_kind_25 pt_nar0 (Nat.le_of_ble_eq_true rfl) rfl (gX6_kind3_0_4 x1 x2 x3 n M h1 h2)
theorem dX6_kinds_3 {M : pt_M} : pt_Does yX6_kinds YX6_kinds [pt_r 2 0, pt_i 3] M (some (pt_i (nI 1))) M := dX6_kinds3_p2 3 M rfl (by decide)
theorem dX6_kind_3 {x1 : Int32} {q : Nat} {M : pt_M} (hk : kp_P M x1) (hq : q < 1) : pt_Does yX6_kind YX6_kind [pt_r 2 0, pt_i x1, pt_i 3, pt_i (nI q)] M (some (pt_i 1)) (kp_M (mt_F (kn_M M (kv_F 3 q) 1 1) (pt_R M 0) 3 fun i j k => decide (pt_A (kn_M M (kv_F 3 q) 1 1) 24 0 (rk_F 3 i j k) = 1)) x1) := by
  have hto : to_F 3 = nI 1 := by decide
  have hkk : pt_kk 61 (pt_nt (nI q)) = nI (kv_F 3 q) := by rw [pt_nt_nI (by omega)]; exact kv_3 hq
  have hkl : kv_F 3 q < 2 ^ 20 := kv_lt 3 q
  have g0 := gX6_kind3_0_2 x1 3 (nI q) 3 M rfl hk.1 (nI_pos (by omega)) (nI_lt hq (by decide))
  rw [hto] at g0
  have K := pt_for0 (Y := YX6_kind) (fun p => (35, [(0, pt_r 2 0), (1, pt_i x1), (2, pt_i 3), (3, pt_i (nI q)), (4, pt_r 61 0), (5, pt_i (nI 1)), (6, pt_i (nI p))], [], kn_M M (kv_F 3 q) 1 p)) (n := 1) fun p hp => by
    have e1 : (nI 1 - 1) - nI p = nI (1 - 1 - p) := by rw [show nI 1 - 1 = nI (1 - 1) from by decide]; exact pk_sub (by omega)
    have hb : ((pt_kk 61 (pt_nt (nI q)) >>> (((nI 1 - 1) - nI p) &&& 31)) &&& 1) = 1 ↔ (kv_F 3 q).testBit (1 - 1 - p) = true := by
      rw [hkk, e1]
      exact pt_bit1 (by omega) (by omega)
    have hst : ∀ v, v = kb_W (kv_F 3 q) 1 p → pt_wA (kn_M M (kv_F 3 q) 1 p) 24 0 (upd (pt_A (kn_M M (kv_F 3 q) 1 p) 24 0) (pt_nt (nI p)) v) = kn_M M (kv_F 3 q) 1 (p + 1) := fun v hv => by
      subst hv
      unfold kn_M
      rw [pt_wA_wA, pt_A_wA, pt_nt_nI (by omega), co_step]
    cases hv : (kv_F 3 q).testBit (1 - 1 - p)
    · refine (gX6_kind3_35_2 x1 3 (nI q) (nI 1) (nI p) 3 (kn_M M (kv_F 3 q) 1 p) (nI_ge hp (by decide)) (pt_in_nI hq (by decide)) (fun z => by rw [hb, hv] at z; cases z) (pt_in_nI (by omega) (by decide))).to ?_
      rw [nI_1, hst 1 (by unfold kb_W; rw [hv]; rfl)]
    · refine (gX6_kind3_35_1 x1 3 (nI q) (nI 1) (nI p) 3 (kn_M M (kv_F 3 q) 1 p) (nI_ge hp (by decide)) (pt_in_nI hq (by decide)) (hb.mpr hv) (pt_in_nI (by omega) (by decide))).to ?_
      rw [nI_1, hst 2 (by unfold kb_W; rw [hv]; rfl)]
  refine rX6_kind_96 rfl (Nat.le_of_ble_eq_true rfl) rfl ((g0.toM ?_).tr (K.tr (gX6_kind3_35_3 x1 3 (nI q) (nI 1) (nI 1) 3 (kn_M M (kv_F 3 q) 1 1) (Int32.le_refl _) hk.2.2 ⟨hk.2.2, by decide, rfl, by decide⟩ hk)))
  unfold kn_M
  rw [co_zero, pt_wA_self]
set_option maxRecDepth 100000 in
theorem gX6_kinds4_0_1 (x1 : Int32)  (M : pt_M) (h1 : x1 = 4) (h2 : (nI 2) = 0) :
    pt_Go YX6_kinds (0, [(0, pt_r 2 0), (1, pt_i x1)], [], M)
      (15, [(0, pt_r 2 0), (1, pt_i x1), (2, pt_i (nI 2))], [pt_i (-1)], M) :=
  pt_run_ok tX6_kinds_ok 8 [.inr (1, some (pt_r 62 0), M), .inl false] (P := pt_Cal YX6_kinds (.invokestatic 252) [pt_i x1] M (some (pt_r 62 0)) M ∧ ((nI 2) = 0) ∧ True) (by with_unfolding_all rfl) ⟨(pt_callS kX6_kinds_252 mX6_kindsOf rfl (dX6_kindsOf_4 h1)), h2, trivial⟩
set_option maxRecDepth 100000 in
theorem gX6_kinds4_0_2 (x1 : Int32)  (M : pt_M) (h1 : x1 = 4) (h2 : ¬ (nI 2) = 0) :
    pt_Go YX6_kinds (0, [(0, pt_r 2 0), (1, pt_i x1)], [], M)
      (15, [(0, pt_r 2 0), (1, pt_i x1), (2, pt_i (nI 2))], [pt_i (nI 2)], M) :=
  pt_run_ok tX6_kinds_ok 7 [.inr (1, some (pt_r 62 0), M), .inl true] (P := pt_Cal YX6_kinds (.invokestatic 252) [pt_i x1] M (some (pt_r 62 0)) M ∧ (¬ (nI 2) = 0) ∧ True) (by with_unfolding_all rfl) ⟨(pt_callS kX6_kinds_252 mX6_kindsOf rfl (dX6_kindsOf_4 h1)), h2, trivial⟩
theorem dX6_kinds4_p1 (x1 : Int32)  (M : pt_M) (h1 : x1 = 4) (h2 : (nI 2) = 0) : pt_Does yX6_kinds YX6_kinds [pt_r 2 0, pt_i x1] M (some (pt_i (-1))) M :=
  rX6_kinds_15 (Nat.le_of_ble_eq_true rfl) rfl (gX6_kinds4_0_1 x1 M h1 h2)
theorem dX6_kinds4_p2 (x1 : Int32)  (M : pt_M) (h1 : x1 = 4) (h2 : ¬ (nI 2) = 0) : pt_Does yX6_kinds YX6_kinds [pt_r 2 0, pt_i x1] M (some (pt_i (nI 2))) M :=
  rX6_kinds_15 (Nat.le_of_ble_eq_true rfl) rfl (gX6_kinds4_0_2 x1 M h1 h2)
set_option maxRecDepth 100000 in
theorem gX6_kind4_0_1 (x1 : Int32) (x2 : Int32) (x3 : Int32) (n : Nat) (M : pt_M) (h1 : x2 = 4) (h2 : sl_P x1) (h3 : ¬ x3 < 0) (h4 : ¬ x3 < (nI 2)) :
    pt_Go YX6_kind (0, [(0, pt_r 2 0), (1, pt_i x1), (2, pt_i x2), (3, pt_i x3)], [], M)
      (25, [(0, pt_r 2 0), (1, pt_i x1), (2, pt_i x2), (3, pt_i x3), (4, pt_r 62 0)], [pt_i 0], M) :=
  pt_run_ok tX6_kind_ok 13 [.inr (1, some (pt_r 62 0), M), .inr (1, some (pt_i 1), M), .inl false, .inl false, .inl false] (P := pt_Cal YX6_kind (.invokestatic 252) [pt_i x2] M (some (pt_r 62 0)) M ∧ pt_Cal YX6_kind (.invokestatic 75) [pt_i x1] M (some (pt_i 1)) M ∧ (¬ (1 : Int32) = (0 : Int32)) ∧ (¬ x3 < 0) ∧ (¬ x3 < (nI 2)) ∧ True) (by with_unfolding_all rfl) ⟨(pt_callS kX6_kind_252 mX6_kindsOf rfl (dX6_kindsOf_4 h1)), (pt_callS kX6_kind_75 mX6_isSlot rfl (dX6_isSlot_1 h2)), (by decide), h3, h4, trivial⟩
set_option maxRecDepth 100000 in
theorem gX6_kind4_0_2 (x1 : Int32) (x2 : Int32) (x3 : Int32) (n : Nat) (M : pt_M) (h1 : x2 = 4) (h2 : sl_P x1) (h3 : ¬ x3 < 0) (h4 : x3 < (nI 2)) :
    pt_Go YX6_kind (0, [(0, pt_r 2 0), (1, pt_i x1), (2, pt_i x2), (3, pt_i x3)], [], M)
      (35, [(0, pt_r 2 0), (1, pt_i x1), (2, pt_i x2), (3, pt_i x3), (4, pt_r 62 0), (5, pt_i (to_F x2)), (6, pt_i 0)], [], M) :=
  pt_run_ok tX6_kind_ok 17 [.inr (1, some (pt_r 62 0), M), .inr (1, some (pt_i 1), M), .inl false, .inl false, .inl true, .inr (1, some (pt_i (to_F x2)), M)] (P := pt_Cal YX6_kind (.invokestatic 252) [pt_i x2] M (some (pt_r 62 0)) M ∧ pt_Cal YX6_kind (.invokestatic 75) [pt_i x1] M (some (pt_i 1)) M ∧ (¬ (1 : Int32) = (0 : Int32)) ∧ (¬ x3 < 0) ∧ (x3 < (nI 2)) ∧ pt_Cal YX6_kind (.invokestatic 110) [pt_i x2] M (some (pt_i (to_F x2))) M ∧ True) (by with_unfolding_all rfl) ⟨(pt_callS kX6_kind_252 mX6_kindsOf rfl (dX6_kindsOf_4 h1)), (pt_callS kX6_kind_75 mX6_isSlot rfl (dX6_isSlot_1 h2)), (by decide), h3, h4, (pt_callS kX6_kind_110 mX6_turnsOf rfl (dX6_turnsOf x2 M)), trivial⟩
set_option maxRecDepth 100000 in
theorem gX6_kind4_0_3 (x1 : Int32) (x2 : Int32) (x3 : Int32) (n : Nat) (M : pt_M) (h1 : x2 = 4) (h2 : sl_P x1) (h3 : x3 < 0) :
    pt_Go YX6_kind (0, [(0, pt_r 2 0), (1, pt_i x1), (2, pt_i x2), (3, pt_i x3)], [], M)
      (25, [(0, pt_r 2 0), (1, pt_i x1), (2, pt_i x2), (3, pt_i x3), (4, pt_r 62 0)], [pt_i 0], M) :=
  pt_run_ok tX6_kind_ok 9 [.inr (1, some (pt_r 62 0), M), .inr (1, some (pt_i 1), M), .inl false, .inl true] (P := pt_Cal YX6_kind (.invokestatic 252) [pt_i x2] M (some (pt_r 62 0)) M ∧ pt_Cal YX6_kind (.invokestatic 75) [pt_i x1] M (some (pt_i 1)) M ∧ (¬ (1 : Int32) = (0 : Int32)) ∧ (x3 < 0) ∧ True) (by with_unfolding_all rfl) ⟨(pt_callS kX6_kind_252 mX6_kindsOf rfl (dX6_kindsOf_4 h1)), (pt_callS kX6_kind_75 mX6_isSlot rfl (dX6_isSlot_1 h2)), (by decide), h3, trivial⟩
set_option maxRecDepth 100000 in
theorem gX6_kind4_0_4 (x1 : Int32) (x2 : Int32) (x3 : Int32) (n : Nat) (M : pt_M) (h1 : x2 = 4) (h2 : ¬ sl_P x1) :
    pt_Go YX6_kind (0, [(0, pt_r 2 0), (1, pt_i x1), (2, pt_i x2), (3, pt_i x3)], [], M)
      (25, [(0, pt_r 2 0), (1, pt_i x1), (2, pt_i x2), (3, pt_i x3), (4, pt_r 62 0)], [pt_i 0], M) :=
  pt_run_ok tX6_kind_ok 7 [.inr (1, some (pt_r 62 0), M), .inr (1, some (pt_i 0), M), .inl true] (P := pt_Cal YX6_kind (.invokestatic 252) [pt_i x2] M (some (pt_r 62 0)) M ∧ pt_Cal YX6_kind (.invokestatic 75) [pt_i x1] M (some (pt_i 0)) M ∧ ((0 : Int32) = (0 : Int32)) ∧ True) (by with_unfolding_all rfl) ⟨(pt_callS kX6_kind_252 mX6_kindsOf rfl (dX6_kindsOf_4 h1)), (pt_callS kX6_kind_75 mX6_isSlot rfl (dX6_isSlot_0 h2)), (by decide), trivial⟩
set_option maxRecDepth 100000 in
theorem gX6_kind4_35_1 (l1 : Int32) (l2 : Int32) (l3 : Int32) (l5 : Int32) (l6 : Int32) (n : Nat) (M : pt_M) (h1 : ¬ l5 ≤ l6) (h2 : pt_in l3 2) (h3 : (((pt_kk 62 (pt_nt l3)) >>> (((l5 - 1) - l6) &&& 31)) &&& 1) = 1) (h4 : pt_in l6 120) :
    pt_Go YX6_kind (35, [(0, pt_r 2 0), (1, pt_i l1), (2, pt_i l2), (3, pt_i l3), (4, pt_r 62 0), (5, pt_i l5), (6, pt_i l6)], [], M)
      (35, [(0, pt_r 2 0), (1, pt_i l1), (2, pt_i l2), (3, pt_i l3), (4, pt_r 62 0), (5, pt_i l5), (6, pt_i (l6 + 1))], [], (pt_wA M 24 0 (upd (pt_A M 24 0) (pt_nt l6) 2))) :=
  pt_run_ok tX6_kind_ok 24 [.inl false, .inl false] (P := (¬ l5 ≤ l6) ∧ (pt_in l3 2) ∧ ((((pt_kk 62 (pt_nt l3)) >>> (((l5 - 1) - l6) &&& 31)) &&& 1) = 1) ∧ (pt_in l6 120) ∧ True) (by with_unfolding_all rfl) ⟨h1, h2, h3, h4, trivial⟩
set_option maxRecDepth 100000 in
theorem gX6_kind4_35_2 (l1 : Int32) (l2 : Int32) (l3 : Int32) (l5 : Int32) (l6 : Int32) (n : Nat) (M : pt_M) (h1 : ¬ l5 ≤ l6) (h2 : pt_in l3 2) (h3 : ¬ (((pt_kk 62 (pt_nt l3)) >>> (((l5 - 1) - l6) &&& 31)) &&& 1) = 1) (h4 : pt_in l6 120) :
    pt_Go YX6_kind (35, [(0, pt_r 2 0), (1, pt_i l1), (2, pt_i l2), (3, pt_i l3), (4, pt_r 62 0), (5, pt_i l5), (6, pt_i l6)], [], M)
      (35, [(0, pt_r 2 0), (1, pt_i l1), (2, pt_i l2), (3, pt_i l3), (4, pt_r 62 0), (5, pt_i l5), (6, pt_i (l6 + 1))], [], (pt_wA M 24 0 (upd (pt_A M 24 0) (pt_nt l6) 1))) :=
  pt_run_ok tX6_kind_ok 23 [.inl false, .inl true] (P := (¬ l5 ≤ l6) ∧ (pt_in l3 2) ∧ (¬ (((pt_kk 62 (pt_nt l3)) >>> (((l5 - 1) - l6) &&& 31)) &&& 1) = 1) ∧ (pt_in l6 120) ∧ True) (by with_unfolding_all rfl) ⟨h1, h2, h3, h4, trivial⟩
set_option maxRecDepth 100000 in
theorem gX6_kind4_35_3 (l1 : Int32) (l2 : Int32) (l3 : Int32) (l5 : Int32) (l6 : Int32) (n : Nat) (M : pt_M) (h1 : l5 ≤ l6) (h2 : (pt_R M 0) < 7) (h3 : tr_H (pt_R M 0) l2 0 n) (h4 : kp_P (mt_F M (pt_R M 0) n fun i j k => decide (pt_A M 24 0 (rk_F n i j k) = 1)) l1) :
    pt_Go YX6_kind (35, [(0, pt_r 2 0), (1, pt_i l1), (2, pt_i l2), (3, pt_i l3), (4, pt_r 62 0), (5, pt_i l5), (6, pt_i l6)], [], M)
      (96, [(0, pt_r 2 0), (1, pt_i l1), (2, pt_i l2), (3, pt_i l3), (4, pt_r 62 0), (5, pt_i l5), (6, pt_i l6)], [pt_i 1], (kp_M (mt_F M (pt_R M 0) n fun i j k => decide (pt_A M 24 0 (rk_F n i j k) = 1)) l1)) :=
  pt_run_ok tX6_kind_ok 13 [.inl true, .inr (3, none, (mt_F M (pt_R M 0) n fun i j k => decide (pt_A M 24 0 (rk_F n i j k) = 1))), .inr (2, none, (kp_M (mt_F M (pt_R M 0) n fun i j k => decide (pt_A M 24 0 (rk_F n i j k) = 1)) l1))] (P := (l5 ≤ l6) ∧ pt_Cal YX6_kind (.invokevirtual 116) [pt_r 3 (pt_R M 0), pt_i l2, pt_r 24 0] M none (mt_F M (pt_R M 0) n fun i j k => decide (pt_A M 24 0 (rk_F n i j k) = 1)) ∧ pt_Cal YX6_kind (.invokevirtual 88) [pt_r 2 0, pt_i l1] (mt_F M (pt_R M 0) n fun i j k => decide (pt_A M 24 0 (rk_F n i j k) = 1)) none (kp_M (mt_F M (pt_R M 0) n fun i j k => decide (pt_A M 24 0 (rk_F n i j k) = 1)) l1) ∧ True) (by with_unfolding_all rfl) ⟨h1, (pt_callV (i := (pt_R M 0)) kX6_kind_116 mX4_takeRow rfl h2 rfl (dX4_takeRow_t24 h3)), (pt_callV (i := 0) kX6_kind_88 mX6_keepSpare rfl (by decide) rfl (dX6_keepSpare h4)), trivial⟩
theorem dX6_kind4_p1 (x1 : Int32) (x2 : Int32) (x3 : Int32) (n : Nat) (M : pt_M) (h1 : x2 = 4) (h2 : sl_P x1) (h3 : ¬ x3 < 0) (h4 : ¬ x3 < (nI 2)) : pt_Does yX6_kind YX6_kind [pt_r 2 0, pt_i x1, pt_i x2, pt_i x3] M (some (pt_i 0)) M :=
  rX6_kind_25 pt_nar0 (Nat.le_of_ble_eq_true rfl) rfl (gX6_kind4_0_1 x1 x2 x3 n M h1 h2 h3 h4)
theorem dX6_kind4_p3 (x1 : Int32) (x2 : Int32) (x3 : Int32) (n : Nat) (M : pt_M) (h1 : x2 = 4) (h2 : sl_P x1) (h3 : x3 < 0) : pt_Does yX6_kind YX6_kind [pt_r 2 0, pt_i x1, pt_i x2, pt_i x3] M (some (pt_i 0)) M :=
  rX6_kind_25 pt_nar0 (Nat.le_of_ble_eq_true rfl) rfl (gX6_kind4_0_3 x1 x2 x3 n M h1 h2 h3)
theorem dX6_kind4_p4 (x1 : Int32) (x2 : Int32) (x3 : Int32) (n : Nat) (M : pt_M) (h1 : x2 = 4) (h2 : ¬ sl_P x1) : pt_Does yX6_kind YX6_kind [pt_r 2 0, pt_i x1, pt_i x2, pt_i x3] M (some (pt_i 0)) M :=
  rX6_kind_25 pt_nar0 (Nat.le_of_ble_eq_true rfl) rfl (gX6_kind4_0_4 x1 x2 x3 n M h1 h2)
theorem dX6_kinds_4 {M : pt_M} : pt_Does yX6_kinds YX6_kinds [pt_r 2 0, pt_i 4] M (some (pt_i (nI 2))) M := dX6_kinds4_p2 4 M rfl (by decide)
theorem dX6_kind_4 {x1 : Int32} {q : Nat} {M : pt_M} (hk : kp_P M x1) (hq : q < 2) : pt_Does yX6_kind YX6_kind [pt_r 2 0, pt_i x1, pt_i 4, pt_i (nI q)] M (some (pt_i 1)) (kp_M (mt_F (kn_M M (kv_F 4 q) 4 4) (pt_R M 0) 4 fun i j k => decide (pt_A (kn_M M (kv_F 4 q) 4 4) 24 0 (rk_F 4 i j k) = 1)) x1) := by
  have hto : to_F 4 = nI 4 := by decide
  have hkk : pt_kk 62 (pt_nt (nI q)) = nI (kv_F 4 q) := by rw [pt_nt_nI (by omega)]; exact kv_4 hq
  have hkl : kv_F 4 q < 2 ^ 20 := kv_lt 4 q
  have g0 := gX6_kind4_0_2 x1 4 (nI q) 4 M rfl hk.1 (nI_pos (by omega)) (nI_lt hq (by decide))
  rw [hto] at g0
  have K := pt_for0 (Y := YX6_kind) (fun p => (35, [(0, pt_r 2 0), (1, pt_i x1), (2, pt_i 4), (3, pt_i (nI q)), (4, pt_r 62 0), (5, pt_i (nI 4)), (6, pt_i (nI p))], [], kn_M M (kv_F 4 q) 4 p)) (n := 4) fun p hp => by
    have e1 : (nI 4 - 1) - nI p = nI (4 - 1 - p) := by rw [show nI 4 - 1 = nI (4 - 1) from by decide]; exact pk_sub (by omega)
    have hb : ((pt_kk 62 (pt_nt (nI q)) >>> (((nI 4 - 1) - nI p) &&& 31)) &&& 1) = 1 ↔ (kv_F 4 q).testBit (4 - 1 - p) = true := by
      rw [hkk, e1]
      exact pt_bit1 (by omega) (by omega)
    have hst : ∀ v, v = kb_W (kv_F 4 q) 4 p → pt_wA (kn_M M (kv_F 4 q) 4 p) 24 0 (upd (pt_A (kn_M M (kv_F 4 q) 4 p) 24 0) (pt_nt (nI p)) v) = kn_M M (kv_F 4 q) 4 (p + 1) := fun v hv => by
      subst hv
      unfold kn_M
      rw [pt_wA_wA, pt_A_wA, pt_nt_nI (by omega), co_step]
    cases hv : (kv_F 4 q).testBit (4 - 1 - p)
    · refine (gX6_kind4_35_2 x1 4 (nI q) (nI 4) (nI p) 4 (kn_M M (kv_F 4 q) 4 p) (nI_ge hp (by decide)) (pt_in_nI hq (by decide)) (fun z => by rw [hb, hv] at z; cases z) (pt_in_nI (by omega) (by decide))).to ?_
      rw [nI_1, hst 1 (by unfold kb_W; rw [hv]; rfl)]
    · refine (gX6_kind4_35_1 x1 4 (nI q) (nI 4) (nI p) 4 (kn_M M (kv_F 4 q) 4 p) (nI_ge hp (by decide)) (pt_in_nI hq (by decide)) (hb.mpr hv) (pt_in_nI (by omega) (by decide))).to ?_
      rw [nI_1, hst 2 (by unfold kb_W; rw [hv]; rfl)]
  refine rX6_kind_96 rfl (Nat.le_of_ble_eq_true rfl) rfl ((g0.toM ?_).tr (K.tr (gX6_kind4_35_3 x1 4 (nI q) (nI 4) (nI 4) 4 (kn_M M (kv_F 4 q) 4 4) (Int32.le_refl _) hk.2.2 ⟨hk.2.2, by decide, rfl, by decide⟩ hk)))
  unfold kn_M
  rw [co_zero, pt_wA_self]
set_option maxRecDepth 100000 in
theorem gX6_kinds5_0_1 (x1 : Int32)  (M : pt_M) (h1 : x1 = 5) (h2 : (nI 3) = 0) :
    pt_Go YX6_kinds (0, [(0, pt_r 2 0), (1, pt_i x1)], [], M)
      (15, [(0, pt_r 2 0), (1, pt_i x1), (2, pt_i (nI 3))], [pt_i (-1)], M) :=
  pt_run_ok tX6_kinds_ok 8 [.inr (1, some (pt_r 63 0), M), .inl false] (P := pt_Cal YX6_kinds (.invokestatic 252) [pt_i x1] M (some (pt_r 63 0)) M ∧ ((nI 3) = 0) ∧ True) (by with_unfolding_all rfl) ⟨(pt_callS kX6_kinds_252 mX6_kindsOf rfl (dX6_kindsOf_5 h1)), h2, trivial⟩
set_option maxRecDepth 100000 in
theorem gX6_kinds5_0_2 (x1 : Int32)  (M : pt_M) (h1 : x1 = 5) (h2 : ¬ (nI 3) = 0) :
    pt_Go YX6_kinds (0, [(0, pt_r 2 0), (1, pt_i x1)], [], M)
      (15, [(0, pt_r 2 0), (1, pt_i x1), (2, pt_i (nI 3))], [pt_i (nI 3)], M) :=
  pt_run_ok tX6_kinds_ok 7 [.inr (1, some (pt_r 63 0), M), .inl true] (P := pt_Cal YX6_kinds (.invokestatic 252) [pt_i x1] M (some (pt_r 63 0)) M ∧ (¬ (nI 3) = 0) ∧ True) (by with_unfolding_all rfl) ⟨(pt_callS kX6_kinds_252 mX6_kindsOf rfl (dX6_kindsOf_5 h1)), h2, trivial⟩
theorem dX6_kinds5_p1 (x1 : Int32)  (M : pt_M) (h1 : x1 = 5) (h2 : (nI 3) = 0) : pt_Does yX6_kinds YX6_kinds [pt_r 2 0, pt_i x1] M (some (pt_i (-1))) M :=
  rX6_kinds_15 (Nat.le_of_ble_eq_true rfl) rfl (gX6_kinds5_0_1 x1 M h1 h2)
theorem dX6_kinds5_p2 (x1 : Int32)  (M : pt_M) (h1 : x1 = 5) (h2 : ¬ (nI 3) = 0) : pt_Does yX6_kinds YX6_kinds [pt_r 2 0, pt_i x1] M (some (pt_i (nI 3))) M :=
  rX6_kinds_15 (Nat.le_of_ble_eq_true rfl) rfl (gX6_kinds5_0_2 x1 M h1 h2)
set_option maxRecDepth 100000 in
theorem gX6_kind5_0_1 (x1 : Int32) (x2 : Int32) (x3 : Int32) (n : Nat) (M : pt_M) (h1 : x2 = 5) (h2 : sl_P x1) (h3 : ¬ x3 < 0) (h4 : ¬ x3 < (nI 3)) :
    pt_Go YX6_kind (0, [(0, pt_r 2 0), (1, pt_i x1), (2, pt_i x2), (3, pt_i x3)], [], M)
      (25, [(0, pt_r 2 0), (1, pt_i x1), (2, pt_i x2), (3, pt_i x3), (4, pt_r 63 0)], [pt_i 0], M) :=
  pt_run_ok tX6_kind_ok 13 [.inr (1, some (pt_r 63 0), M), .inr (1, some (pt_i 1), M), .inl false, .inl false, .inl false] (P := pt_Cal YX6_kind (.invokestatic 252) [pt_i x2] M (some (pt_r 63 0)) M ∧ pt_Cal YX6_kind (.invokestatic 75) [pt_i x1] M (some (pt_i 1)) M ∧ (¬ (1 : Int32) = (0 : Int32)) ∧ (¬ x3 < 0) ∧ (¬ x3 < (nI 3)) ∧ True) (by with_unfolding_all rfl) ⟨(pt_callS kX6_kind_252 mX6_kindsOf rfl (dX6_kindsOf_5 h1)), (pt_callS kX6_kind_75 mX6_isSlot rfl (dX6_isSlot_1 h2)), (by decide), h3, h4, trivial⟩
set_option maxRecDepth 100000 in
theorem gX6_kind5_0_2 (x1 : Int32) (x2 : Int32) (x3 : Int32) (n : Nat) (M : pt_M) (h1 : x2 = 5) (h2 : sl_P x1) (h3 : ¬ x3 < 0) (h4 : x3 < (nI 3)) :
    pt_Go YX6_kind (0, [(0, pt_r 2 0), (1, pt_i x1), (2, pt_i x2), (3, pt_i x3)], [], M)
      (35, [(0, pt_r 2 0), (1, pt_i x1), (2, pt_i x2), (3, pt_i x3), (4, pt_r 63 0), (5, pt_i (to_F x2)), (6, pt_i 0)], [], M) :=
  pt_run_ok tX6_kind_ok 17 [.inr (1, some (pt_r 63 0), M), .inr (1, some (pt_i 1), M), .inl false, .inl false, .inl true, .inr (1, some (pt_i (to_F x2)), M)] (P := pt_Cal YX6_kind (.invokestatic 252) [pt_i x2] M (some (pt_r 63 0)) M ∧ pt_Cal YX6_kind (.invokestatic 75) [pt_i x1] M (some (pt_i 1)) M ∧ (¬ (1 : Int32) = (0 : Int32)) ∧ (¬ x3 < 0) ∧ (x3 < (nI 3)) ∧ pt_Cal YX6_kind (.invokestatic 110) [pt_i x2] M (some (pt_i (to_F x2))) M ∧ True) (by with_unfolding_all rfl) ⟨(pt_callS kX6_kind_252 mX6_kindsOf rfl (dX6_kindsOf_5 h1)), (pt_callS kX6_kind_75 mX6_isSlot rfl (dX6_isSlot_1 h2)), (by decide), h3, h4, (pt_callS kX6_kind_110 mX6_turnsOf rfl (dX6_turnsOf x2 M)), trivial⟩
set_option maxRecDepth 100000 in
theorem gX6_kind5_0_3 (x1 : Int32) (x2 : Int32) (x3 : Int32) (n : Nat) (M : pt_M) (h1 : x2 = 5) (h2 : sl_P x1) (h3 : x3 < 0) :
    pt_Go YX6_kind (0, [(0, pt_r 2 0), (1, pt_i x1), (2, pt_i x2), (3, pt_i x3)], [], M)
      (25, [(0, pt_r 2 0), (1, pt_i x1), (2, pt_i x2), (3, pt_i x3), (4, pt_r 63 0)], [pt_i 0], M) :=
  pt_run_ok tX6_kind_ok 9 [.inr (1, some (pt_r 63 0), M), .inr (1, some (pt_i 1), M), .inl false, .inl true] (P := pt_Cal YX6_kind (.invokestatic 252) [pt_i x2] M (some (pt_r 63 0)) M ∧ pt_Cal YX6_kind (.invokestatic 75) [pt_i x1] M (some (pt_i 1)) M ∧ (¬ (1 : Int32) = (0 : Int32)) ∧ (x3 < 0) ∧ True) (by with_unfolding_all rfl) ⟨(pt_callS kX6_kind_252 mX6_kindsOf rfl (dX6_kindsOf_5 h1)), (pt_callS kX6_kind_75 mX6_isSlot rfl (dX6_isSlot_1 h2)), (by decide), h3, trivial⟩
set_option maxRecDepth 100000 in
theorem gX6_kind5_0_4 (x1 : Int32) (x2 : Int32) (x3 : Int32) (n : Nat) (M : pt_M) (h1 : x2 = 5) (h2 : ¬ sl_P x1) :
    pt_Go YX6_kind (0, [(0, pt_r 2 0), (1, pt_i x1), (2, pt_i x2), (3, pt_i x3)], [], M)
      (25, [(0, pt_r 2 0), (1, pt_i x1), (2, pt_i x2), (3, pt_i x3), (4, pt_r 63 0)], [pt_i 0], M) :=
  pt_run_ok tX6_kind_ok 7 [.inr (1, some (pt_r 63 0), M), .inr (1, some (pt_i 0), M), .inl true] (P := pt_Cal YX6_kind (.invokestatic 252) [pt_i x2] M (some (pt_r 63 0)) M ∧ pt_Cal YX6_kind (.invokestatic 75) [pt_i x1] M (some (pt_i 0)) M ∧ ((0 : Int32) = (0 : Int32)) ∧ True) (by with_unfolding_all rfl) ⟨(pt_callS kX6_kind_252 mX6_kindsOf rfl (dX6_kindsOf_5 h1)), (pt_callS kX6_kind_75 mX6_isSlot rfl (dX6_isSlot_0 h2)), (by decide), trivial⟩
set_option maxRecDepth 100000 in
theorem gX6_kind5_35_1 (l1 : Int32) (l2 : Int32) (l3 : Int32) (l5 : Int32) (l6 : Int32) (n : Nat) (M : pt_M) (h1 : ¬ l5 ≤ l6) (h2 : pt_in l3 3) (h3 : (((pt_kk 63 (pt_nt l3)) >>> (((l5 - 1) - l6) &&& 31)) &&& 1) = 1) (h4 : pt_in l6 120) :
    pt_Go YX6_kind (35, [(0, pt_r 2 0), (1, pt_i l1), (2, pt_i l2), (3, pt_i l3), (4, pt_r 63 0), (5, pt_i l5), (6, pt_i l6)], [], M)
      (35, [(0, pt_r 2 0), (1, pt_i l1), (2, pt_i l2), (3, pt_i l3), (4, pt_r 63 0), (5, pt_i l5), (6, pt_i (l6 + 1))], [], (pt_wA M 24 0 (upd (pt_A M 24 0) (pt_nt l6) 2))) :=
  pt_run_ok tX6_kind_ok 24 [.inl false, .inl false] (P := (¬ l5 ≤ l6) ∧ (pt_in l3 3) ∧ ((((pt_kk 63 (pt_nt l3)) >>> (((l5 - 1) - l6) &&& 31)) &&& 1) = 1) ∧ (pt_in l6 120) ∧ True) (by with_unfolding_all rfl) ⟨h1, h2, h3, h4, trivial⟩
set_option maxRecDepth 100000 in
theorem gX6_kind5_35_2 (l1 : Int32) (l2 : Int32) (l3 : Int32) (l5 : Int32) (l6 : Int32) (n : Nat) (M : pt_M) (h1 : ¬ l5 ≤ l6) (h2 : pt_in l3 3) (h3 : ¬ (((pt_kk 63 (pt_nt l3)) >>> (((l5 - 1) - l6) &&& 31)) &&& 1) = 1) (h4 : pt_in l6 120) :
    pt_Go YX6_kind (35, [(0, pt_r 2 0), (1, pt_i l1), (2, pt_i l2), (3, pt_i l3), (4, pt_r 63 0), (5, pt_i l5), (6, pt_i l6)], [], M)
      (35, [(0, pt_r 2 0), (1, pt_i l1), (2, pt_i l2), (3, pt_i l3), (4, pt_r 63 0), (5, pt_i l5), (6, pt_i (l6 + 1))], [], (pt_wA M 24 0 (upd (pt_A M 24 0) (pt_nt l6) 1))) :=
  pt_run_ok tX6_kind_ok 23 [.inl false, .inl true] (P := (¬ l5 ≤ l6) ∧ (pt_in l3 3) ∧ (¬ (((pt_kk 63 (pt_nt l3)) >>> (((l5 - 1) - l6) &&& 31)) &&& 1) = 1) ∧ (pt_in l6 120) ∧ True) (by with_unfolding_all rfl) ⟨h1, h2, h3, h4, trivial⟩
set_option maxRecDepth 100000 in
theorem gX6_kind5_35_3 (l1 : Int32) (l2 : Int32) (l3 : Int32) (l5 : Int32) (l6 : Int32) (n : Nat) (M : pt_M) (h1 : l5 ≤ l6) (h2 : (pt_R M 0) < 7) (h3 : tr_H (pt_R M 0) l2 0 n) (h4 : kp_P (mt_F M (pt_R M 0) n fun i j k => decide (pt_A M 24 0 (rk_F n i j k) = 1)) l1) :
    pt_Go YX6_kind (35, [(0, pt_r 2 0), (1, pt_i l1), (2, pt_i l2), (3, pt_i l3), (4, pt_r 63 0), (5, pt_i l5), (6, pt_i l6)], [], M)
      (96, [(0, pt_r 2 0), (1, pt_i l1), (2, pt_i l2), (3, pt_i l3), (4, pt_r 63 0), (5, pt_i l5), (6, pt_i l6)], [pt_i 1], (kp_M (mt_F M (pt_R M 0) n fun i j k => decide (pt_A M 24 0 (rk_F n i j k) = 1)) l1)) :=
  pt_run_ok tX6_kind_ok 13 [.inl true, .inr (3, none, (mt_F M (pt_R M 0) n fun i j k => decide (pt_A M 24 0 (rk_F n i j k) = 1))), .inr (2, none, (kp_M (mt_F M (pt_R M 0) n fun i j k => decide (pt_A M 24 0 (rk_F n i j k) = 1)) l1))] (P := (l5 ≤ l6) ∧ pt_Cal YX6_kind (.invokevirtual 116) [pt_r 3 (pt_R M 0), pt_i l2, pt_r 24 0] M none (mt_F M (pt_R M 0) n fun i j k => decide (pt_A M 24 0 (rk_F n i j k) = 1)) ∧ pt_Cal YX6_kind (.invokevirtual 88) [pt_r 2 0, pt_i l1] (mt_F M (pt_R M 0) n fun i j k => decide (pt_A M 24 0 (rk_F n i j k) = 1)) none (kp_M (mt_F M (pt_R M 0) n fun i j k => decide (pt_A M 24 0 (rk_F n i j k) = 1)) l1) ∧ True) (by with_unfolding_all rfl) ⟨h1, (pt_callV (i := (pt_R M 0)) kX6_kind_116 mX4_takeRow rfl h2 rfl (dX4_takeRow_t24 h3)), (pt_callV (i := 0) kX6_kind_88 mX6_keepSpare rfl (by decide) rfl (dX6_keepSpare h4)), trivial⟩
theorem dX6_kind5_p1 (x1 : Int32) (x2 : Int32) (x3 : Int32) (n : Nat) (M : pt_M) (h1 : x2 = 5) (h2 : sl_P x1) (h3 : ¬ x3 < 0) (h4 : ¬ x3 < (nI 3)) : pt_Does yX6_kind YX6_kind [pt_r 2 0, pt_i x1, pt_i x2, pt_i x3] M (some (pt_i 0)) M :=
  rX6_kind_25 pt_nar0 (Nat.le_of_ble_eq_true rfl) rfl (gX6_kind5_0_1 x1 x2 x3 n M h1 h2 h3 h4)
theorem dX6_kind5_p3 (x1 : Int32) (x2 : Int32) (x3 : Int32) (n : Nat) (M : pt_M) (h1 : x2 = 5) (h2 : sl_P x1) (h3 : x3 < 0) : pt_Does yX6_kind YX6_kind [pt_r 2 0, pt_i x1, pt_i x2, pt_i x3] M (some (pt_i 0)) M :=
  rX6_kind_25 pt_nar0 (Nat.le_of_ble_eq_true rfl) rfl (gX6_kind5_0_3 x1 x2 x3 n M h1 h2 h3)
theorem dX6_kind5_p4 (x1 : Int32) (x2 : Int32) (x3 : Int32) (n : Nat) (M : pt_M) (h1 : x2 = 5) (h2 : ¬ sl_P x1) : pt_Does yX6_kind YX6_kind [pt_r 2 0, pt_i x1, pt_i x2, pt_i x3] M (some (pt_i 0)) M :=
  rX6_kind_25 pt_nar0 (Nat.le_of_ble_eq_true rfl) rfl (gX6_kind5_0_4 x1 x2 x3 n M h1 h2)
theorem dX6_kinds_5 {M : pt_M} : pt_Does yX6_kinds YX6_kinds [pt_r 2 0, pt_i 5] M (some (pt_i (nI 3))) M := dX6_kinds5_p2 5 M rfl (by decide)
theorem dX6_kind_5 {x1 : Int32} {q : Nat} {M : pt_M} (hk : kp_P M x1) (hq : q < 3) : pt_Does yX6_kind YX6_kind [pt_r 2 0, pt_i x1, pt_i 5, pt_i (nI q)] M (some (pt_i 1)) (kp_M (mt_F (kn_M M (kv_F 5 q) 10 10) (pt_R M 0) 5 fun i j k => decide (pt_A (kn_M M (kv_F 5 q) 10 10) 24 0 (rk_F 5 i j k) = 1)) x1) := by
  have hto : to_F 5 = nI 10 := by decide
  have hkk : pt_kk 63 (pt_nt (nI q)) = nI (kv_F 5 q) := by rw [pt_nt_nI (by omega)]; exact kv_5 hq
  have hkl : kv_F 5 q < 2 ^ 20 := kv_lt 5 q
  have g0 := gX6_kind5_0_2 x1 5 (nI q) 5 M rfl hk.1 (nI_pos (by omega)) (nI_lt hq (by decide))
  rw [hto] at g0
  have K := pt_for0 (Y := YX6_kind) (fun p => (35, [(0, pt_r 2 0), (1, pt_i x1), (2, pt_i 5), (3, pt_i (nI q)), (4, pt_r 63 0), (5, pt_i (nI 10)), (6, pt_i (nI p))], [], kn_M M (kv_F 5 q) 10 p)) (n := 10) fun p hp => by
    have e1 : (nI 10 - 1) - nI p = nI (10 - 1 - p) := by rw [show nI 10 - 1 = nI (10 - 1) from by decide]; exact pk_sub (by omega)
    have hb : ((pt_kk 63 (pt_nt (nI q)) >>> (((nI 10 - 1) - nI p) &&& 31)) &&& 1) = 1 ↔ (kv_F 5 q).testBit (10 - 1 - p) = true := by
      rw [hkk, e1]
      exact pt_bit1 (by omega) (by omega)
    have hst : ∀ v, v = kb_W (kv_F 5 q) 10 p → pt_wA (kn_M M (kv_F 5 q) 10 p) 24 0 (upd (pt_A (kn_M M (kv_F 5 q) 10 p) 24 0) (pt_nt (nI p)) v) = kn_M M (kv_F 5 q) 10 (p + 1) := fun v hv => by
      subst hv
      unfold kn_M
      rw [pt_wA_wA, pt_A_wA, pt_nt_nI (by omega), co_step]
    cases hv : (kv_F 5 q).testBit (10 - 1 - p)
    · refine (gX6_kind5_35_2 x1 5 (nI q) (nI 10) (nI p) 5 (kn_M M (kv_F 5 q) 10 p) (nI_ge hp (by decide)) (pt_in_nI hq (by decide)) (fun z => by rw [hb, hv] at z; cases z) (pt_in_nI (by omega) (by decide))).to ?_
      rw [nI_1, hst 1 (by unfold kb_W; rw [hv]; rfl)]
    · refine (gX6_kind5_35_1 x1 5 (nI q) (nI 10) (nI p) 5 (kn_M M (kv_F 5 q) 10 p) (nI_ge hp (by decide)) (pt_in_nI hq (by decide)) (hb.mpr hv) (pt_in_nI (by omega) (by decide))).to ?_
      rw [nI_1, hst 2 (by unfold kb_W; rw [hv]; rfl)]
  refine rX6_kind_96 rfl (Nat.le_of_ble_eq_true rfl) rfl ((g0.toM ?_).tr (K.tr (gX6_kind5_35_3 x1 5 (nI q) (nI 10) (nI 10) 5 (kn_M M (kv_F 5 q) 10 10) (Int32.le_refl _) hk.2.2 ⟨hk.2.2, by decide, rfl, by decide⟩ hk)))
  unfold kn_M
  rw [co_zero, pt_wA_self]
set_option maxRecDepth 100000 in
theorem gX6_kinds6_0_1 (x1 : Int32)  (M : pt_M) (h1 : x1 = 6) (h2 : (nI 16) = 0) :
    pt_Go YX6_kinds (0, [(0, pt_r 2 0), (1, pt_i x1)], [], M)
      (15, [(0, pt_r 2 0), (1, pt_i x1), (2, pt_i (nI 16))], [pt_i (-1)], M) :=
  pt_run_ok tX6_kinds_ok 8 [.inr (1, some (pt_r 64 0), M), .inl false] (P := pt_Cal YX6_kinds (.invokestatic 252) [pt_i x1] M (some (pt_r 64 0)) M ∧ ((nI 16) = 0) ∧ True) (by with_unfolding_all rfl) ⟨(pt_callS kX6_kinds_252 mX6_kindsOf rfl (dX6_kindsOf_6 h1)), h2, trivial⟩
set_option maxRecDepth 100000 in
theorem gX6_kinds6_0_2 (x1 : Int32)  (M : pt_M) (h1 : x1 = 6) (h2 : ¬ (nI 16) = 0) :
    pt_Go YX6_kinds (0, [(0, pt_r 2 0), (1, pt_i x1)], [], M)
      (15, [(0, pt_r 2 0), (1, pt_i x1), (2, pt_i (nI 16))], [pt_i (nI 16)], M) :=
  pt_run_ok tX6_kinds_ok 7 [.inr (1, some (pt_r 64 0), M), .inl true] (P := pt_Cal YX6_kinds (.invokestatic 252) [pt_i x1] M (some (pt_r 64 0)) M ∧ (¬ (nI 16) = 0) ∧ True) (by with_unfolding_all rfl) ⟨(pt_callS kX6_kinds_252 mX6_kindsOf rfl (dX6_kindsOf_6 h1)), h2, trivial⟩
theorem dX6_kinds6_p1 (x1 : Int32)  (M : pt_M) (h1 : x1 = 6) (h2 : (nI 16) = 0) : pt_Does yX6_kinds YX6_kinds [pt_r 2 0, pt_i x1] M (some (pt_i (-1))) M :=
  rX6_kinds_15 (Nat.le_of_ble_eq_true rfl) rfl (gX6_kinds6_0_1 x1 M h1 h2)
theorem dX6_kinds6_p2 (x1 : Int32)  (M : pt_M) (h1 : x1 = 6) (h2 : ¬ (nI 16) = 0) : pt_Does yX6_kinds YX6_kinds [pt_r 2 0, pt_i x1] M (some (pt_i (nI 16))) M :=
  rX6_kinds_15 (Nat.le_of_ble_eq_true rfl) rfl (gX6_kinds6_0_2 x1 M h1 h2)
set_option maxRecDepth 100000 in
theorem gX6_kind6_0_1 (x1 : Int32) (x2 : Int32) (x3 : Int32) (n : Nat) (M : pt_M) (h1 : x2 = 6) (h2 : sl_P x1) (h3 : ¬ x3 < 0) (h4 : ¬ x3 < (nI 16)) :
    pt_Go YX6_kind (0, [(0, pt_r 2 0), (1, pt_i x1), (2, pt_i x2), (3, pt_i x3)], [], M)
      (25, [(0, pt_r 2 0), (1, pt_i x1), (2, pt_i x2), (3, pt_i x3), (4, pt_r 64 0)], [pt_i 0], M) :=
  pt_run_ok tX6_kind_ok 13 [.inr (1, some (pt_r 64 0), M), .inr (1, some (pt_i 1), M), .inl false, .inl false, .inl false] (P := pt_Cal YX6_kind (.invokestatic 252) [pt_i x2] M (some (pt_r 64 0)) M ∧ pt_Cal YX6_kind (.invokestatic 75) [pt_i x1] M (some (pt_i 1)) M ∧ (¬ (1 : Int32) = (0 : Int32)) ∧ (¬ x3 < 0) ∧ (¬ x3 < (nI 16)) ∧ True) (by with_unfolding_all rfl) ⟨(pt_callS kX6_kind_252 mX6_kindsOf rfl (dX6_kindsOf_6 h1)), (pt_callS kX6_kind_75 mX6_isSlot rfl (dX6_isSlot_1 h2)), (by decide), h3, h4, trivial⟩
set_option maxRecDepth 100000 in
theorem gX6_kind6_0_2 (x1 : Int32) (x2 : Int32) (x3 : Int32) (n : Nat) (M : pt_M) (h1 : x2 = 6) (h2 : sl_P x1) (h3 : ¬ x3 < 0) (h4 : x3 < (nI 16)) :
    pt_Go YX6_kind (0, [(0, pt_r 2 0), (1, pt_i x1), (2, pt_i x2), (3, pt_i x3)], [], M)
      (35, [(0, pt_r 2 0), (1, pt_i x1), (2, pt_i x2), (3, pt_i x3), (4, pt_r 64 0), (5, pt_i (to_F x2)), (6, pt_i 0)], [], M) :=
  pt_run_ok tX6_kind_ok 17 [.inr (1, some (pt_r 64 0), M), .inr (1, some (pt_i 1), M), .inl false, .inl false, .inl true, .inr (1, some (pt_i (to_F x2)), M)] (P := pt_Cal YX6_kind (.invokestatic 252) [pt_i x2] M (some (pt_r 64 0)) M ∧ pt_Cal YX6_kind (.invokestatic 75) [pt_i x1] M (some (pt_i 1)) M ∧ (¬ (1 : Int32) = (0 : Int32)) ∧ (¬ x3 < 0) ∧ (x3 < (nI 16)) ∧ pt_Cal YX6_kind (.invokestatic 110) [pt_i x2] M (some (pt_i (to_F x2))) M ∧ True) (by with_unfolding_all rfl) ⟨(pt_callS kX6_kind_252 mX6_kindsOf rfl (dX6_kindsOf_6 h1)), (pt_callS kX6_kind_75 mX6_isSlot rfl (dX6_isSlot_1 h2)), (by decide), h3, h4, (pt_callS kX6_kind_110 mX6_turnsOf rfl (dX6_turnsOf x2 M)), trivial⟩
set_option maxRecDepth 100000 in
theorem gX6_kind6_0_3 (x1 : Int32) (x2 : Int32) (x3 : Int32) (n : Nat) (M : pt_M) (h1 : x2 = 6) (h2 : sl_P x1) (h3 : x3 < 0) :
    pt_Go YX6_kind (0, [(0, pt_r 2 0), (1, pt_i x1), (2, pt_i x2), (3, pt_i x3)], [], M)
      (25, [(0, pt_r 2 0), (1, pt_i x1), (2, pt_i x2), (3, pt_i x3), (4, pt_r 64 0)], [pt_i 0], M) :=
  pt_run_ok tX6_kind_ok 9 [.inr (1, some (pt_r 64 0), M), .inr (1, some (pt_i 1), M), .inl false, .inl true] (P := pt_Cal YX6_kind (.invokestatic 252) [pt_i x2] M (some (pt_r 64 0)) M ∧ pt_Cal YX6_kind (.invokestatic 75) [pt_i x1] M (some (pt_i 1)) M ∧ (¬ (1 : Int32) = (0 : Int32)) ∧ (x3 < 0) ∧ True) (by with_unfolding_all rfl) ⟨(pt_callS kX6_kind_252 mX6_kindsOf rfl (dX6_kindsOf_6 h1)), (pt_callS kX6_kind_75 mX6_isSlot rfl (dX6_isSlot_1 h2)), (by decide), h3, trivial⟩
set_option maxRecDepth 100000 in
theorem gX6_kind6_0_4 (x1 : Int32) (x2 : Int32) (x3 : Int32) (n : Nat) (M : pt_M) (h1 : x2 = 6) (h2 : ¬ sl_P x1) :
    pt_Go YX6_kind (0, [(0, pt_r 2 0), (1, pt_i x1), (2, pt_i x2), (3, pt_i x3)], [], M)
      (25, [(0, pt_r 2 0), (1, pt_i x1), (2, pt_i x2), (3, pt_i x3), (4, pt_r 64 0)], [pt_i 0], M) :=
  pt_run_ok tX6_kind_ok 7 [.inr (1, some (pt_r 64 0), M), .inr (1, some (pt_i 0), M), .inl true] (P := pt_Cal YX6_kind (.invokestatic 252) [pt_i x2] M (some (pt_r 64 0)) M ∧ pt_Cal YX6_kind (.invokestatic 75) [pt_i x1] M (some (pt_i 0)) M ∧ ((0 : Int32) = (0 : Int32)) ∧ True) (by with_unfolding_all rfl) ⟨(pt_callS kX6_kind_252 mX6_kindsOf rfl (dX6_kindsOf_6 h1)), (pt_callS kX6_kind_75 mX6_isSlot rfl (dX6_isSlot_0 h2)), (by decide), trivial⟩
set_option maxRecDepth 100000 in
theorem gX6_kind6_35_1 (l1 : Int32) (l2 : Int32) (l3 : Int32) (l5 : Int32) (l6 : Int32) (n : Nat) (M : pt_M) (h1 : ¬ l5 ≤ l6) (h2 : pt_in l3 16) (h3 : (((pt_kk 64 (pt_nt l3)) >>> (((l5 - 1) - l6) &&& 31)) &&& 1) = 1) (h4 : pt_in l6 120) :
    pt_Go YX6_kind (35, [(0, pt_r 2 0), (1, pt_i l1), (2, pt_i l2), (3, pt_i l3), (4, pt_r 64 0), (5, pt_i l5), (6, pt_i l6)], [], M)
      (35, [(0, pt_r 2 0), (1, pt_i l1), (2, pt_i l2), (3, pt_i l3), (4, pt_r 64 0), (5, pt_i l5), (6, pt_i (l6 + 1))], [], (pt_wA M 24 0 (upd (pt_A M 24 0) (pt_nt l6) 2))) :=
  pt_run_ok tX6_kind_ok 24 [.inl false, .inl false] (P := (¬ l5 ≤ l6) ∧ (pt_in l3 16) ∧ ((((pt_kk 64 (pt_nt l3)) >>> (((l5 - 1) - l6) &&& 31)) &&& 1) = 1) ∧ (pt_in l6 120) ∧ True) (by with_unfolding_all rfl) ⟨h1, h2, h3, h4, trivial⟩
set_option maxRecDepth 100000 in
theorem gX6_kind6_35_2 (l1 : Int32) (l2 : Int32) (l3 : Int32) (l5 : Int32) (l6 : Int32) (n : Nat) (M : pt_M) (h1 : ¬ l5 ≤ l6) (h2 : pt_in l3 16) (h3 : ¬ (((pt_kk 64 (pt_nt l3)) >>> (((l5 - 1) - l6) &&& 31)) &&& 1) = 1) (h4 : pt_in l6 120) :
    pt_Go YX6_kind (35, [(0, pt_r 2 0), (1, pt_i l1), (2, pt_i l2), (3, pt_i l3), (4, pt_r 64 0), (5, pt_i l5), (6, pt_i l6)], [], M)
      (35, [(0, pt_r 2 0), (1, pt_i l1), (2, pt_i l2), (3, pt_i l3), (4, pt_r 64 0), (5, pt_i l5), (6, pt_i (l6 + 1))], [], (pt_wA M 24 0 (upd (pt_A M 24 0) (pt_nt l6) 1))) :=
  pt_run_ok tX6_kind_ok 23 [.inl false, .inl true] (P := (¬ l5 ≤ l6) ∧ (pt_in l3 16) ∧ (¬ (((pt_kk 64 (pt_nt l3)) >>> (((l5 - 1) - l6) &&& 31)) &&& 1) = 1) ∧ (pt_in l6 120) ∧ True) (by with_unfolding_all rfl) ⟨h1, h2, h3, h4, trivial⟩
set_option maxRecDepth 100000 in
theorem gX6_kind6_35_3 (l1 : Int32) (l2 : Int32) (l3 : Int32) (l5 : Int32) (l6 : Int32) (n : Nat) (M : pt_M) (h1 : l5 ≤ l6) (h2 : (pt_R M 0) < 7) (h3 : tr_H (pt_R M 0) l2 0 n) (h4 : kp_P (mt_F M (pt_R M 0) n fun i j k => decide (pt_A M 24 0 (rk_F n i j k) = 1)) l1) :
    pt_Go YX6_kind (35, [(0, pt_r 2 0), (1, pt_i l1), (2, pt_i l2), (3, pt_i l3), (4, pt_r 64 0), (5, pt_i l5), (6, pt_i l6)], [], M)
      (96, [(0, pt_r 2 0), (1, pt_i l1), (2, pt_i l2), (3, pt_i l3), (4, pt_r 64 0), (5, pt_i l5), (6, pt_i l6)], [pt_i 1], (kp_M (mt_F M (pt_R M 0) n fun i j k => decide (pt_A M 24 0 (rk_F n i j k) = 1)) l1)) :=
  pt_run_ok tX6_kind_ok 13 [.inl true, .inr (3, none, (mt_F M (pt_R M 0) n fun i j k => decide (pt_A M 24 0 (rk_F n i j k) = 1))), .inr (2, none, (kp_M (mt_F M (pt_R M 0) n fun i j k => decide (pt_A M 24 0 (rk_F n i j k) = 1)) l1))] (P := (l5 ≤ l6) ∧ pt_Cal YX6_kind (.invokevirtual 116) [pt_r 3 (pt_R M 0), pt_i l2, pt_r 24 0] M none (mt_F M (pt_R M 0) n fun i j k => decide (pt_A M 24 0 (rk_F n i j k) = 1)) ∧ pt_Cal YX6_kind (.invokevirtual 88) [pt_r 2 0, pt_i l1] (mt_F M (pt_R M 0) n fun i j k => decide (pt_A M 24 0 (rk_F n i j k) = 1)) none (kp_M (mt_F M (pt_R M 0) n fun i j k => decide (pt_A M 24 0 (rk_F n i j k) = 1)) l1) ∧ True) (by with_unfolding_all rfl) ⟨h1, (pt_callV (i := (pt_R M 0)) kX6_kind_116 mX4_takeRow rfl h2 rfl (dX4_takeRow_t24 h3)), (pt_callV (i := 0) kX6_kind_88 mX6_keepSpare rfl (by decide) rfl (dX6_keepSpare h4)), trivial⟩
theorem dX6_kind6_p1 (x1 : Int32) (x2 : Int32) (x3 : Int32) (n : Nat) (M : pt_M) (h1 : x2 = 6) (h2 : sl_P x1) (h3 : ¬ x3 < 0) (h4 : ¬ x3 < (nI 16)) : pt_Does yX6_kind YX6_kind [pt_r 2 0, pt_i x1, pt_i x2, pt_i x3] M (some (pt_i 0)) M :=
  rX6_kind_25 pt_nar0 (Nat.le_of_ble_eq_true rfl) rfl (gX6_kind6_0_1 x1 x2 x3 n M h1 h2 h3 h4)
theorem dX6_kind6_p3 (x1 : Int32) (x2 : Int32) (x3 : Int32) (n : Nat) (M : pt_M) (h1 : x2 = 6) (h2 : sl_P x1) (h3 : x3 < 0) : pt_Does yX6_kind YX6_kind [pt_r 2 0, pt_i x1, pt_i x2, pt_i x3] M (some (pt_i 0)) M :=
  rX6_kind_25 pt_nar0 (Nat.le_of_ble_eq_true rfl) rfl (gX6_kind6_0_3 x1 x2 x3 n M h1 h2 h3)
theorem dX6_kind6_p4 (x1 : Int32) (x2 : Int32) (x3 : Int32) (n : Nat) (M : pt_M) (h1 : x2 = 6) (h2 : ¬ sl_P x1) : pt_Does yX6_kind YX6_kind [pt_r 2 0, pt_i x1, pt_i x2, pt_i x3] M (some (pt_i 0)) M :=
  rX6_kind_25 pt_nar0 (Nat.le_of_ble_eq_true rfl) rfl (gX6_kind6_0_4 x1 x2 x3 n M h1 h2)
theorem dX6_kinds_6 {M : pt_M} : pt_Does yX6_kinds YX6_kinds [pt_r 2 0, pt_i 6] M (some (pt_i (nI 16))) M := dX6_kinds6_p2 6 M rfl (by decide)
theorem dX6_kind_6 {x1 : Int32} {q : Nat} {M : pt_M} (hk : kp_P M x1) (hq : q < 16) : pt_Does yX6_kind YX6_kind [pt_r 2 0, pt_i x1, pt_i 6, pt_i (nI q)] M (some (pt_i 1)) (kp_M (mt_F (kn_M M (kv_F 6 q) 20 20) (pt_R M 0) 6 fun i j k => decide (pt_A (kn_M M (kv_F 6 q) 20 20) 24 0 (rk_F 6 i j k) = 1)) x1) := by
  have hto : to_F 6 = nI 20 := by decide
  have hkk : pt_kk 64 (pt_nt (nI q)) = nI (kv_F 6 q) := by rw [pt_nt_nI (by omega)]; exact kv_6 hq
  have hkl : kv_F 6 q < 2 ^ 20 := kv_lt 6 q
  have g0 := gX6_kind6_0_2 x1 6 (nI q) 6 M rfl hk.1 (nI_pos (by omega)) (nI_lt hq (by decide))
  rw [hto] at g0
  have K := pt_for0 (Y := YX6_kind) (fun p => (35, [(0, pt_r 2 0), (1, pt_i x1), (2, pt_i 6), (3, pt_i (nI q)), (4, pt_r 64 0), (5, pt_i (nI 20)), (6, pt_i (nI p))], [], kn_M M (kv_F 6 q) 20 p)) (n := 20) fun p hp => by
    have e1 : (nI 20 - 1) - nI p = nI (20 - 1 - p) := by rw [show nI 20 - 1 = nI (20 - 1) from by decide]; exact pk_sub (by omega)
    have hb : ((pt_kk 64 (pt_nt (nI q)) >>> (((nI 20 - 1) - nI p) &&& 31)) &&& 1) = 1 ↔ (kv_F 6 q).testBit (20 - 1 - p) = true := by
      rw [hkk, e1]
      exact pt_bit1 (by omega) (by omega)
    have hst : ∀ v, v = kb_W (kv_F 6 q) 20 p → pt_wA (kn_M M (kv_F 6 q) 20 p) 24 0 (upd (pt_A (kn_M M (kv_F 6 q) 20 p) 24 0) (pt_nt (nI p)) v) = kn_M M (kv_F 6 q) 20 (p + 1) := fun v hv => by
      subst hv
      unfold kn_M
      rw [pt_wA_wA, pt_A_wA, pt_nt_nI (by omega), co_step]
    cases hv : (kv_F 6 q).testBit (20 - 1 - p)
    · refine (gX6_kind6_35_2 x1 6 (nI q) (nI 20) (nI p) 6 (kn_M M (kv_F 6 q) 20 p) (nI_ge hp (by decide)) (pt_in_nI hq (by decide)) (fun z => by rw [hb, hv] at z; cases z) (pt_in_nI (by omega) (by decide))).to ?_
      rw [nI_1, hst 1 (by unfold kb_W; rw [hv]; rfl)]
    · refine (gX6_kind6_35_1 x1 6 (nI q) (nI 20) (nI p) 6 (kn_M M (kv_F 6 q) 20 p) (nI_ge hp (by decide)) (pt_in_nI hq (by decide)) (hb.mpr hv) (pt_in_nI (by omega) (by decide))).to ?_
      rw [nI_1, hst 2 (by unfold kb_W; rw [hv]; rfl)]
  refine rX6_kind_96 rfl (Nat.le_of_ble_eq_true rfl) rfl ((g0.toM ?_).tr (K.tr (gX6_kind6_35_3 x1 6 (nI q) (nI 20) (nI 20) 6 (kn_M M (kv_F 6 q) 20 20) (Int32.le_refl _) hk.2.2 ⟨hk.2.2, by decide, rfl, by decide⟩ hk)))
  unfold kn_M
  rw [co_zero, pt_wA_self]
