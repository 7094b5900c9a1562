/-! the law's calls of its onRim and octet -/
def th_ckS (y : MethodName) (Yc : pt_Y) (hh : List (Nat × Nat × Nat × Nat)) (idx n i1 i2 i3 i4 : Nat) : Bool :=
  pt_wi i1 (Cond.initialized y.cls) && (pt_wi i2 (Cond.codeWith y Yc.2.1 Yc.2.2.1 Yc.2.2.2.1 hh) && (pt_wi i3 (Cond.methodLink RL idx y) && (pt_wi i4 (Cond.static y) && (decide (y.cls ≠ "java/lang/invoke/MethodHandle" ∧ y.cls ≠ "java/lang/invoke/VarHandle") && decide ((parseMethodDescriptor y.desc).map (fun d => d.parameters.length) = some n)))))
theorem kL_law_82 : th_ckS yL_onRim YL_onRim [(0, 10, 13, 13)] 82 4 51 573 571 572 = true := by decide +kernel
theorem kL_law_115 : th_ckS yL_octet YL_octet [(0, 9, 12, 13)] 115 3 51 652 650 651 = true := by decide +kernel
theorem th_call {Yc : pt_Y} {hh : List (Nat × Nat × Nat × Nat)} {idx n i1 i2 i3 i4 pc : Nat} {y : MethodName} {vs st : List pt_V} {L : List (Nat × pt_V)} {M M' : pt_M} {r : Option pt_V} (hk : th_ckS y Yc hh idx n i1 i2 i3 i4 = true) (hn : vs.length = n) (hD : th_Does y Yc hh vs M r M') (q1 : Yc.2.2.2.2.cells = 1) (q2 : Yc.2.2.2.2.slots = 6) (q3 : Yc.2.2.2.2.frames + 1 ≤ 10) (q4 : 8 + (Yc.2.2.1 + 11) + Yc.2.2.2.2.locals ≤ 408) (hd : decode YL_law.2.1 pc = .ok (.invokestatic idx, 3)) (hst : (st.map pt_w).sum ≤ 8)
    {p : Program} {l : Launch} {e : Env} {s : State} {m : MethodId} {args : Array Value} {below : List Frame} {meth : Method} {c : Code} {D : va_G} {ad : Nat → Nat → Nat} {cA : Nat → ClassId} {A : Nat → Prop} {cells slots : Nat} {Q : State → Prop} {sa : Nat → Nat} (hl0 : l.stackTraces = false) (hF : thw_F sa A s) (hC : pt_Cx YL_law p s m args meth c D ad cA A cells slots) (hc : cells + 1 ≤ 601024) (hs : slots + 6 ≤ 7293034)
    (hA : pt_At YL_law p l e s m args below meth c D ad cA A (cells + 1) (slots + 6) Q (pc + 3, L, r.toList ++ st, M')) : pt_At YL_law p l e s m args below meth c D ad cA A cells slots Q (pc, L, vs.reverse ++ st, M) := by
  unfold th_ckS at hk
  simp only [Bool.and_eq_true, decide_eq_true_eq] at hk
  obtain ⟨k1, k2, k3, k4, k5, k6⟩ := hk
  have k1 := pt_wi_ok k1
  have k2 := pt_wi_ok k2
  have k3 := pt_wi_ok k3
  have k4 := pt_wi_ok k4
  intro H locs ls g1 g2 g3 g4
  obtain ⟨hx, hb, hr, hml, hown, hts, hlk, hW, hAd⟩ := hC
  have hAB : ∀ q, pt_Ad ad q → A q := by
    rintro q ⟨k, i, h1, rfl⟩
    exact hAd k i h1
  have hG : GoodIn pt_tb (va_wsS RL idx y (Cond.codeWith y Yc.2.1 Yc.2.2.1 Yc.2.2.2.1 hh :: pt_tb)) := by
    intro w hw
    have hm : w ∈ pt_tb := by
      simp only [va_wsS, List.cons_append, List.nil_append, List.mem_cons] at hw
      rcases hw with rfl | rfl | rfl | rfl | hw
      · exact k3
      · exact k4
      · exact k1
      · exact k2
      · exact hw
    exact ⟨hm, good_of_word (List.mem_filter.mp hm).2⟩
  have hcw : vx_CSW room_1 s args RL idx y Yc.2.1 Yc.2.2.1 Yc.2.2.2.1 hh (Cond.codeWith y Yc.2.1 Yc.2.2.1 Yc.2.2.2.1 hh :: pt_tb) Yc.2.2.2.2 1 6 n := vx_cwSW n hts hG rfl q1 q2 ⟨k5.1, k5.2, k6⟩ ⟨q3, q4⟩
  have hrun : va_Run p l e room_1 s m args below meth c H locs cells slots 1 6 (F0 m pc ls ((vs.reverse ++ st).map (pt_cv ad))) (st.map (pt_cv ad)) (pt_Qc D ad cA r M' (vs.map (pt_cv ad)).toArray) (pt_Ad ad) :=
    vx_runSW (As := vs.map (pt_cv ad)) (rest := st.map (pt_cv ad)) (cc := YL_law.2.1) (nL := 7) ⟨hx, hb, hml, hown, hts⟩ (hD.2 l D ad cA sa hl0) hcw ⟨th_blind, fun U hU hWm => ⟨⟨rfl, by rw [hU]; exact g1, hW.moved hWm.alike (hW.2.2.warm hWm), pt_Ro.moved hWm.alike (by rw [hU]; exact g3) hAB g2⟩, hF.moved hWm (fun a h1 h2 => by rw [hU]; exact g3.2.1 a h1 h2) hAB⟩⟩ rfl (by rw [List.length_map]; exact hn) g4.1 (by show (vs.reverse ++ st).map _ = _; rw [List.map_append, List.map_reverse]) (pt_rm hst) hd ⟨hc, hs⟩
  intro T hT X
  obtain ⟨v, st₀, t, T', Lc, h0, X', hL, e1, e2, ⟨hv, hH', hz, hkp⟩, stp⟩ := hrun T hT X
  cases hv
  rw [h0] at hz hkp
  have hro : pt_Ro ad A M' s := by
    refine ⟨fun k q hq => g2.1 k q ?_, g2.2⟩
    rw [← hq]
    unfold pt_ro pt_L pt_X
    rw [hD.1]
  have h3 : va_S A s.heap T'.heap (locs ++ Lc) := by
    refine ⟨Nat.le_trans g3.1 (by rw [e1]; exact hz), fun q h1 h2 => ?_, fun q hq => ?_⟩
    · rw [e1, hkp q (Nat.lt_of_lt_of_le h1 g3.1) (fun z => h2 (hAB q z))]
      exact g3.2.1 q h1 h2
    · rcases List.mem_append.mp hq with h | h
      · exact g3.2.2 q h
      · exact hAB _ (hL q h)
  have K := hA T'.heap (locs ++ Lc) ls (by rw [e1]; exact hH') hro h3 g4
  dsimp only at K
  rw [pt_F0] at K
  obtain ⟨t2, a1, b1⟩ := K T' rfl X'
  exact ⟨t2, stp t2 a1, b1⟩
theorem rX7_thrown_4 {M : pt_M} : pt_Does yX7_thrown YX7_thrown [pt_r 7 0] M (some (pt_i (pt_F M 7 0 0))) M := pt_does_go tX7_thrown_ok nX7_thrown (pc := 4) (L := [(0, pt_r 7 0)]) (Nat.le_of_ble_eq_true rfl) rfl ⟨_, by with_unfolding_all rfl, rfl, _, rfl, rfl⟩ (pt_run_ok tX7_thrown_ok 2 [] (P := True) (by with_unfolding_all rfl) trivial)
set_option maxRecDepth 100000 in
theorem gL_law_661_a (l4 : Int32) (M : pt_M) (h1 : pt_in (l4 + 1) (pt_L M)) (h2 : pt_in (l4 + 2) (pt_L M)) :
    pt_Go YL_law (661, [(0, pt_r 51 0), (1, pt_r 2 0), (2, pt_r 7 0), (3, pt_r 50 0), (4, pt_i l4)], [], M)
      (675, [(0, pt_r 51 0), (1, pt_r 2 0), (2, pt_r 7 0), (3, pt_r 50 0), (4, pt_i l4)], [pt_r 50 0, pt_i (pt_X M (pt_nt (l4 + 2))), pt_i (pt_X M (pt_nt (l4 + 1))), pt_r 2 0], M) :=
  pt_runO_ok 41 tC_661_ok 12 [] (P := (pt_in (l4 + 1) (pt_L M)) ∧ (pt_in (l4 + 2) (pt_L M)) ∧ True) (by with_unfolding_all rfl) ⟨h1, h2, trivial⟩
set_option maxRecDepth 100000 in
theorem gL_law_678_0 (l4 r : Int32) (M M2 : pt_M) (h1 : pt_in (l4 + 1) (pt_L M)) (h2 : pt_in (l4 + 2) (pt_L M)) (d : pt_Does yX7_onRim YX7_onRim [pt_r 7 0, pt_i (pt_X M (pt_nt (l4 + 1))), pt_i (pt_X M (pt_nt (l4 + 2)))] M (some (pt_i r)) M2) (h0 : pt_F M2 7 0 0 = Int32.ofInt 0) (hc : lg_cmp (pt_G M2 50 (pt_nt (Int32.ofInt 0))) r.toInt64 = 0) :
    pt_Go YL_law (678, [(0, pt_r 51 0), (1, pt_r 2 0), (2, pt_r 7 0), (3, pt_r 50 0), (4, pt_i l4)], [pt_i (Int32.ofInt 0)], M)
      (1282, [(0, pt_r 51 0), (1, pt_r 2 0), (2, pt_r 7 0), (3, pt_r 50 0), (4, pt_i l4), (5, pt_i (Int32.ofInt 0)), (6, pt_i r)], [], M2) :=
  pt_runO_ok 41 tC_661_ok 28 [.inr (3, some (pt_i r), M2), .inr (1, some (pt_i (pt_F M2 7 0 0)), M2), .inl true, .inl false, .inl true] (P := (pt_in (l4 + 1) (pt_L M)) ∧ (pt_in (l4 + 2) (pt_L M)) ∧ pt_Cal YL_law (.invokevirtual 87) [pt_r 7 0, pt_i (pt_X M (pt_nt (l4 + 1))), pt_i (pt_X M (pt_nt (l4 + 2)))] M (some (pt_i r)) M2 ∧ pt_Cal YL_law (.invokevirtual 88) [pt_r 7 0] M2 (some (pt_i (pt_F M2 7 0 0))) M2 ∧ (pt_F M2 7 0 0 = Int32.ofInt 0) ∧ (Int32.ofInt 0 = 0) ∧ (pt_in (Int32.ofInt 0) 1) ∧ (lg_cmp (pt_G M2 50 (pt_nt (Int32.ofInt 0))) r.toInt64 = 0) ∧ True) (by with_unfolding_all rfl) ⟨h1, h2, pt_callV (i := 0) kL_law_87 mX7_onRim rfl (by decide) rfl d, pt_callV (i := 0) kL_law_88 mX7_thrown rfl (by decide) rfl rX7_thrown_4, h0, rfl, th_in, hc, trivial⟩
set_option maxRecDepth 100000 in
theorem gL_law_678_1 (l4 r : Int32) (M M2 : pt_M) (h1 : pt_in (l4 + 1) (pt_L M)) (h2 : pt_in (l4 + 2) (pt_L M)) (d : pt_Does yX7_onRim YX7_onRim [pt_r 7 0, pt_i (pt_X M (pt_nt (l4 + 1))), pt_i (pt_X M (pt_nt (l4 + 2)))] M (some (pt_i r)) M2) (h0 : pt_F M2 7 0 0 = Int32.ofInt 1) :
    pt_Go YL_law (678, [(0, pt_r 51 0), (1, pt_r 2 0), (2, pt_r 7 0), (3, pt_r 50 0), (4, pt_i l4)], [pt_i (Int32.ofInt 1)], M)
      (1282, [(0, pt_r 51 0), (1, pt_r 2 0), (2, pt_r 7 0), (3, pt_r 50 0), (4, pt_i l4), (5, pt_i (Int32.ofInt 1)), (6, pt_i r)], [], M2) :=
  pt_runO_ok 41 tC_661_ok 21 [.inr (3, some (pt_i r), M2), .inr (1, some (pt_i (pt_F M2 7 0 0)), M2), .inl true, .inl true] (P := (pt_in (l4 + 1) (pt_L M)) ∧ (pt_in (l4 + 2) (pt_L M)) ∧ pt_Cal YL_law (.invokevirtual 87) [pt_r 7 0, pt_i (pt_X M (pt_nt (l4 + 1))), pt_i (pt_X M (pt_nt (l4 + 2)))] M (some (pt_i r)) M2 ∧ pt_Cal YL_law (.invokevirtual 88) [pt_r 7 0] M2 (some (pt_i (pt_F M2 7 0 0))) M2 ∧ (pt_F M2 7 0 0 = Int32.ofInt 1) ∧ (¬ Int32.ofInt 1 = 0) ∧ True) (by with_unfolding_all rfl) ⟨h1, h2, pt_callV (i := 0) kL_law_87 mX7_onRim rfl (by decide) rfl d, pt_callV (i := 0) kL_law_88 mX7_thrown rfl (by decide) rfl rX7_thrown_4, h0, by decide, trivial⟩
set_option maxRecDepth 100000 in
theorem gL_law_927_a (l4 : Int32) (M : pt_M) (h1 : pt_in (l4 + 1) (pt_L M)) :
    pt_Go YL_law (927, [(0, pt_r 51 0), (1, pt_r 2 0), (2, pt_r 7 0), (3, pt_r 50 0), (4, pt_i l4)], [], M)
      (935, [(0, pt_r 51 0), (1, pt_r 2 0), (2, pt_r 7 0), (3, pt_r 50 0), (4, pt_i l4)], [pt_r 50 0, pt_i (pt_X M (pt_nt (l4 + 1))), pt_r 2 0], M) :=
  pt_runO_ok 57 tC_927_ok 7 [] (P := (pt_in (l4 + 1) (pt_L M)) ∧ True) (by with_unfolding_all rfl) ⟨h1, trivial⟩
set_option maxRecDepth 100000 in
theorem gL_law_938_0 (l4 r : Int32) (M M2 : pt_M) (h1 : pt_in (l4 + 1) (pt_L M)) (d : pt_Does yX7_octet YX7_octet [pt_r 7 0, pt_i (pt_X M (pt_nt (l4 + 1)))] M (some (pt_i r)) M2) (h0 : pt_F M2 7 0 0 = Int32.ofInt 0) (hc : lg_cmp (pt_G M2 50 (pt_nt (Int32.ofInt 0))) r.toInt64 = 0) :
    pt_Go YL_law (938, [(0, pt_r 51 0), (1, pt_r 2 0), (2, pt_r 7 0), (3, pt_r 50 0), (4, pt_i l4)], [pt_i (Int32.ofInt 0)], M)
      (1282, [(0, pt_r 51 0), (1, pt_r 2 0), (2, pt_r 7 0), (3, pt_r 50 0), (4, pt_i l4), (5, pt_i (Int32.ofInt 0)), (6, pt_i r)], [], M2) :=
  pt_runO_ok 57 tC_927_ok 23 [.inr (2, some (pt_i r), M2), .inr (1, some (pt_i (pt_F M2 7 0 0)), M2), .inl true, .inl false, .inl true] (P := (pt_in (l4 + 1) (pt_L M)) ∧ pt_Cal YL_law (.invokevirtual 118) [pt_r 7 0, pt_i (pt_X M (pt_nt (l4 + 1)))] M (some (pt_i r)) M2 ∧ pt_Cal YL_law (.invokevirtual 88) [pt_r 7 0] M2 (some (pt_i (pt_F M2 7 0 0))) M2 ∧ (pt_F M2 7 0 0 = Int32.ofInt 0) ∧ (Int32.ofInt 0 = 0) ∧ (pt_in (Int32.ofInt 0) 1) ∧ (lg_cmp (pt_G M2 50 (pt_nt (Int32.ofInt 0))) r.toInt64 = 0) ∧ True) (by with_unfolding_all rfl) ⟨h1, pt_callV (i := 0) kL_law_118 mX7_octet rfl (by decide) rfl d, pt_callV (i := 0) kL_law_88 mX7_thrown rfl (by decide) rfl rX7_thrown_4, h0, rfl, th_in, hc, trivial⟩
set_option maxRecDepth 100000 in
theorem gL_law_938_1 (l4 r : Int32) (M M2 : pt_M) (h1 : pt_in (l4 + 1) (pt_L M)) (d : pt_Does yX7_octet YX7_octet [pt_r 7 0, pt_i (pt_X M (pt_nt (l4 + 1)))] M (some (pt_i r)) M2) (h0 : pt_F M2 7 0 0 = Int32.ofInt 1) :
    pt_Go YL_law (938, [(0, pt_r 51 0), (1, pt_r 2 0), (2, pt_r 7 0), (3, pt_r 50 0), (4, pt_i l4)], [pt_i (Int32.ofInt 1)], M)
      (1282, [(0, pt_r 51 0), (1, pt_r 2 0), (2, pt_r 7 0), (3, pt_r 50 0), (4, pt_i l4), (5, pt_i (Int32.ofInt 1)), (6, pt_i r)], [], M2) :=
  pt_runO_ok 57 tC_927_ok 16 [.inr (2, some (pt_i r), M2), .inr (1, some (pt_i (pt_F M2 7 0 0)), M2), .inl true, .inl true] (P := (pt_in (l4 + 1) (pt_L M)) ∧ pt_Cal YL_law (.invokevirtual 118) [pt_r 7 0, pt_i (pt_X M (pt_nt (l4 + 1)))] M (some (pt_i r)) M2 ∧ pt_Cal YL_law (.invokevirtual 88) [pt_r 7 0] M2 (some (pt_i (pt_F M2 7 0 0))) M2 ∧ (pt_F M2 7 0 0 = Int32.ofInt 1) ∧ (¬ Int32.ofInt 1 = 0) ∧ True) (by with_unfolding_all rfl) ⟨h1, pt_callV (i := 0) kL_law_118 mX7_octet rfl (by decide) rfl d, pt_callV (i := 0) kL_law_88 mX7_thrown rfl (by decide) rfl rX7_thrown_4, h0, by decide, trivial⟩
