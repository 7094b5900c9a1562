/-! the law's own onRim and octet: they call the class's, and take its exception -/
def th_Does (y : MethodName) (Y : pt_Y) (hh : List (Nat × Nat × Nat × Nat)) (vs : List pt_V) (M : pt_M) (r : Option pt_V) (M' : pt_M) : Prop :=
  M'.2.2.2.2 = M.2.2.2.2 ∧ ∀ (l : Launch) (D : va_G) (ad : Nat → Nat → Nat) (cA : Nat → ClassId) (sa : Nat → Nat), l.stackTraces = false → Met l y (Cond.codeWith y Y.2.1 Y.2.2.1 Y.2.2.2.1 hh :: pt_tb) Y.2.2.2.2 (th_P D ad cA sa M vs) (pt_Qc D ad cA r M') 1 6 (pt_Ad ad)
theorem th_does {y : MethodName} {Y : pt_Y} {hh : List (Nat × Nat × Nat × Nat)} {vs : List pt_V} {M M' : pt_M} {r : Option pt_V} (hy : plainFor y = true) (hown : y.cls = pt_own Y.1) (hvs : (vs.map pt_w).sum ≤ Y.2.2.1) (hX : M'.2.2.2.2 = M.2.2.2.2)
    (h : ∀ (p : Program) (l : Launch) (e : Env) (s : State) (m : MethodId) (args : Array Value) (below : List Frame) (meth : Method) (c : Code) (D : va_G) (ad : Nat → Nat → Nat) (cA : Nat → ClassId) (sa : Nat → Nat), l.stackTraces = false → c.exceptionTable.toList = tableOf hh → thw_F sa (pt_Ad ad) s → pt_Cx Y p s m args meth c D ad cA (pt_Ad ad) 0 0 →
      pt_At Y p l e s m args below meth c D ad cA (pt_Ad ad) 0 0 (MQ below (pt_Qc D ad cA r M') args s 1 6 (pt_Ad ad)) (0, pt_en 0 vs, [], M)) : th_Does y Y hh vs M r M' := by
  refine ⟨hX, fun l D ad cA sa hl0 => ?_⟩
  refine MetFree.of_bodySF (code := Y.2.1) (maxLocals := Y.2.2.1) (ret := Y.2.2.2.1) hy ?_ ?_
  · intro args s m h hn
    obtain ⟨m9, meth, c, h0, h1, h2, h3, h4, -, h5, h6, -⟩ := Cond.codeWith_spec (atoms_spec (ws := Cond.codeWith y Y.2.1 Y.2.2.1 Y.2.2.2.1 hh :: pt_tb) h _ List.mem_cons_self)
    cases Option.some.inj (h0.symm.trans hn)
    exact ⟨meth, c, h1, h2, h3, h4, h5, h6⟩
  · intro p e s m args below meth c s₁ B hml hP _
    obtain ⟨⟨rfl, hH, hW, hR⟩, hF⟩ := hP
    have hts := atoms_spec (ws := Cond.codeWith y Y.2.1 Y.2.2.1 Y.2.2.2.1 hh :: pt_tb) B.pre
    have hh0 : s₁.heap = s.heap := by rw [B.state]; rfl
    have hcx : pt_Cx Y p s m (vs.map (pt_cv ad)).toArray meth c D ad cA (pt_Ad ad) 0 0 := ⟨B.exec, B.bytes, B.returns, hml, by rw [← hown]; exact findClass_of_methodNamed B.named, fun w hw => hts w (List.mem_cons_of_mem _ hw), ⟨B.notSynchronized, Nat.zero_le _, Nat.zero_le _⟩, hW, fun k i hd => ⟨k, i, hd, rfl⟩⟩
    have hl := lv_entry (vs.map (pt_cv ad)) (n := Y.2.2.1) (by rw [pt_sl_len]; exact hvs)
    rw [← pt_en_ok] at hl
    have K := h p l e s m (vs.map (pt_cv ad)).toArray below meth c D ad cA sa hl0 (vx_table (x := y) B (hts _ List.mem_cons_self)) hF hcx s.heap [] _ hH hR va_S.rf hl
    obtain ⟨t, a1, o, b1, b2, b3⟩ := K s₁ hh0 (Stand.of_body B)
    refine ⟨t, o, ?_, b1, b2, ⟨b3.1, b3.2⟩⟩
    rw [lg_entry_eq]
    exact a1
theorem th_reti {Y : pt_Y} {p : Program} {l : Launch} {e : Env} {s : State} {m : MethodId} {args : Array Value} {below : List Frame} {meth : Method} {c : Code} {D : va_G} {ad : Nat → Nat → Nat} {cA : Nat → ClassId} {pc cells slots : Nat} {L : List (Nat × pt_V)} {x : Int32} {M' : pt_M} (hr : Y.2.2.2.1 = some .int) (hd : decode Y.2.1 pc = .ok (.ireturn, 1)) (h1 : cells ≤ 1) (h2 : slots ≤ 6) (hC : pt_Cx Y p s m args meth c D ad cA (pt_Ad ad) cells slots) :
    pt_At Y p l e s m args below meth c D ad cA (pt_Ad ad) cells slots (MQ below (pt_Qc D ad cA (some (pt_i x)) M') args s 1 6 (pt_Ad ad)) (pc, L, [pt_i x], M') := by
  intro H locs ls g1 g2 g3 g4
  obtain ⟨hx, hb, hrt, hml, hown, hts, hlk, hW, hAd⟩ := hC
  exact W.widen h1 h2 (W.zret hx hb (hrt.trans hr) rfl (fun t ht hW => ⟨rfl, by rw [ht]; exact g1, g3.F ht⟩) g3.2.2 hd hlk.1)
abbrev YL_onRim : pt_Y := (8, cL_onRim, 5, (some .int), ({ frames := 9, cells := 1, slots := 6, locals := 240 } : Room))
def tL_onRim : pt_B := [
  [(0, .aload_n 3, 1, 0), (1, .iconst 0, 1, 0), (2, .aload_n 0, 1, 0), (3, .iload_n 1, 1, 0), (4, .iload_n 2, 1, 0), (5, .invokevirtual 7, 3, 0), (8, .i2l, 1, 0), (9, .lastore, 1, 0), (10, .goto 7, 3, 17), (13, .astore 4, 2, 0), (15, .iconst 1, 1, 0)],
  [(16, .ireturn, 1, 0), (17, .iconst 0, 1, 0), (18, .ireturn, 1, 0)]]
set_option maxRecDepth 100000 in
theorem tL_onRim_ok : pt_ok YL_onRim.2.1 tL_onRim = true := by decide +kernel
theorem nL_onRim : (plainFor yL_onRim && decide (yL_onRim.cls = pt_own YL_onRim.1)) = true := by decide +kernel
theorem kL_onRim_7 : pt_ckV YL_onRim 7 2 yX6_onRim YX6_onRim 575 576 577 = true := by decide +kernel
abbrev YL_octet : pt_Y := (8, cL_octet, 4, (some .int), ({ frames := 9, cells := 1, slots := 6, locals := 240 } : Room))
def tL_octet : pt_B := [
  [(0, .aload_n 2, 1, 0), (1, .iconst 0, 1, 0), (2, .aload_n 0, 1, 0), (3, .iload_n 1, 1, 0), (4, .invokevirtual 15, 3, 0), (7, .i2l, 1, 0), (8, .lastore, 1, 0), (9, .goto 6, 3, 15), (12, .astore_n 3, 1, 0), (13, .iconst 1, 1, 0), (14, .ireturn, 1, 0), (15, .iconst 0, 1, 0)],
  [(16, .ireturn, 1, 0)]]
set_option maxRecDepth 100000 in
theorem tL_octet_ok : pt_ok YL_octet.2.1 tL_octet = true := by decide +kernel
theorem nL_octet : (plainFor yL_octet && decide (yL_octet.cls = pt_own YL_octet.1)) = true := by decide +kernel
theorem kL_octet_15 : pt_ckV YL_octet 15 2 yX6_octet YX6_octet 653 654 655 = true := by decide +kernel
theorem th_in : pt_in (Int32.ofInt 0) 1 := ⟨by decide, by decide⟩
def th_w (M : pt_M) (r : Int32) : pt_M := pt_wG M 50 (vp_updL (pt_G M 50) (pt_nt (Int32.ofInt 0)) r.toInt64)
set_option maxRecDepth 100000 in
theorem gL_onRim_0 (x k r : Int32) (M M1 : pt_M) (d : pt_Does yX6_onRim YX6_onRim [pt_r 2 0, pt_i x, pt_i k] M (some (pt_i r)) M1) :
    pt_Go YL_onRim (0, [(0, pt_r 2 0), (1, pt_i x), (2, pt_i k), (3, pt_r 50 0)], [], M) (18, [(0, pt_r 2 0), (1, pt_i x), (2, pt_i k), (3, pt_r 50 0)], [pt_i (Int32.ofInt 0)], th_w M1 r) :=
  pt_run_ok tL_onRim_ok 10 [.inr (3, some (pt_i r), M1)] (P := pt_Cal YL_onRim (.invokevirtual 7) [pt_r 2 0, pt_i x, pt_i k] M (some (pt_i r)) M1 ∧ (pt_in (Int32.ofInt 0) 1) ∧ True) (by with_unfolding_all rfl) ⟨pt_callV (i := 0) kL_onRim_7 mX6_onRim rfl (by decide) rfl d, th_in, trivial⟩
set_option maxRecDepth 100000 in
theorem gL_onRim_5 (x k : Int32) (M : pt_M) :
    pt_Go YL_onRim (0, [(0, pt_r 2 0), (1, pt_i x), (2, pt_i k), (3, pt_r 50 0)], [], M) (5, [(0, pt_r 2 0), (1, pt_i x), (2, pt_i k), (3, pt_r 50 0)], [pt_i k, pt_i x, pt_r 2 0, pt_i (Int32.ofInt 0), pt_r 50 0], M) :=
  pt_run_ok tL_onRim_ok 5 [] (P := True) (by with_unfolding_all rfl) trivial
theorem gL_onRim_15 (M : pt_M) : pt_Go YL_onRim (15, [], [], M) (16, [], [pt_i (Int32.ofInt 1)], M) := pt_run_ok tL_onRim_ok 1 [] (P := True) (by with_unfolding_all rfl) trivial
set_option maxRecDepth 100000 in
theorem gL_octet_0 (k r : Int32) (M M1 : pt_M) (d : pt_Does yX6_octet YX6_octet [pt_r 2 0, pt_i k] M (some (pt_i r)) M1) :
    pt_Go YL_octet (0, [(0, pt_r 2 0), (1, pt_i k), (2, pt_r 50 0)], [], M) (16, [(0, pt_r 2 0), (1, pt_i k), (2, pt_r 50 0)], [pt_i (Int32.ofInt 0)], th_w M1 r) :=
  pt_run_ok tL_octet_ok 9 [.inr (2, some (pt_i r), M1)] (P := pt_Cal YL_octet (.invokevirtual 15) [pt_r 2 0, pt_i k] M (some (pt_i r)) M1 ∧ (pt_in (Int32.ofInt 0) 1) ∧ True) (by with_unfolding_all rfl) ⟨pt_callV (i := 0) kL_octet_15 mX6_octet rfl (by decide) rfl d, th_in, trivial⟩
set_option maxRecDepth 100000 in
theorem gL_octet_4 (k : Int32) (M : pt_M) :
    pt_Go YL_octet (0, [(0, pt_r 2 0), (1, pt_i k), (2, pt_r 50 0)], [], M) (4, [(0, pt_r 2 0), (1, pt_i k), (2, pt_r 50 0)], [pt_i k, pt_r 2 0, pt_i (Int32.ofInt 0), pt_r 50 0], M) :=
  pt_run_ok tL_octet_ok 4 [] (P := True) (by with_unfolding_all rfl) trivial
theorem gL_octet_13 (M : pt_M) : pt_Go YL_octet (13, [], [], M) (14, [], [pt_i (Int32.ofInt 1)], M) := pt_run_ok tL_octet_ok 1 [] (P := True) (by with_unfolding_all rfl) trivial
/-- no exception: out[0] is written -/
theorem dL_onRim_0 {x k r : Int32} {M M1 : pt_M} (d : pt_Does yX6_onRim YX6_onRim [pt_r 2 0, pt_i x, pt_i k] M (some (pt_i r)) M1) : th_Does yL_onRim YL_onRim [(0, 10, 13, 13)] [pt_r 2 0, pt_i x, pt_i k, pt_r 50 0] M (some (pt_i (Int32.ofInt 0))) (th_w M1 r) :=
  th_does (Bool.and_eq_true_iff.mp nL_onRim).1 (of_decide_eq_true (Bool.and_eq_true_iff.mp nL_onRim).2) (Nat.le_of_ble_eq_true rfl) d.1 fun p l e s m args below meth c D ad cA sa _ _ _ hC =>
    gL_onRim_0 x k r M M1 d p l e s m args below meth c D ad cA (pt_Ad ad) 0 0 _ hC (th_reti rfl (by decide +kernel) (by decide) (by decide) hC)
theorem dL_octet_0 {k r : Int32} {M M1 : pt_M} (d : pt_Does yX6_octet YX6_octet [pt_r 2 0, pt_i k] M (some (pt_i r)) M1) : th_Does yL_octet YL_octet [(0, 9, 12, 13)] [pt_r 2 0, pt_i k, pt_r 50 0] M (some (pt_i (Int32.ofInt 0))) (th_w M1 r) :=
  th_does (Bool.and_eq_true_iff.mp nL_octet).1 (of_decide_eq_true (Bool.and_eq_true_iff.mp nL_octet).2) (Nat.le_of_ble_eq_true rfl) d.1 fun p l e s m args below meth c D ad cA sa _ _ _ hC =>
    gL_octet_0 k r M M1 d p l e s m args below meth c D ad cA (pt_Ad ad) 0 0 _ hC (th_reti rfl (by decide +kernel) (by decide) (by decide) hC)
