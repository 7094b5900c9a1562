/-! the class's two throwing calls, as contracts -/
def th_P (D : va_G) (ad : Nat → Nat → Nat) (cA : Nat → ClassId) (sa : Nat → Nat) (M : pt_M) (vs : List pt_V) : Array Value → State → Prop := fun a U => pt_Pc D ad cA M vs a U ∧ thw_F sa (pt_Ad ad) U
theorem th_blind {D : va_G} {ad : Nat → Nat → Nat} {cA : Nat → ClassId} {sa : Nat → Nat} {M : pt_M} {vs : List pt_V} : FrameBlind (th_P D ad cA sa M vs) := by
  intro a U g mk h
  exact ⟨pt_blind a U g mk h.1, thw_F.moved (s := U) (U := U.calling g mk a) (State.WarmedH.refl U) (fun _ _ _ => rfl) (fun _ z => z) h.2⟩
def th_R : Room := { frames := 8, cells := 1, slots := 6, locals := 200 }
def th_X (D : va_G) (ad : Nat → Nat → Nat) (cA : Nat → ClassId) (M1 : pt_M) : String → State → State → Prop := fun E st t => E = th_N ∧ pt_Hd D ad cA M1 t.heap ∧ va_F (pt_Ad ad) st t
theorem th_x0 : decode prog_18_method_4_code 0 = .ok (.aload_n 0, 1) := by decide +kernel
theorem th_x1 : decode prog_18_method_4_code 1 = .ok (.aload_n 1, 1) := by decide +kernel
theorem th_x2 : decode prog_18_method_4_code 2 = .ok (.invokespecial 13, 3) := by decide +kernel
theorem th_x5 : decode prog_18_method_4_code 5 = .ok (.return_, 1) := by decide +kernel
theorem th_f0 : Bundle.fit th_N = true := by decide +kernel
theorem th_f1 : ∀ n ∈ [th_Y0, th_Y1], Bundle.fit n = true := by decide +kernel
theorem th_cls {y : MethodName} {Y : pt_Y} {vs : List pt_V} {M M1 : pt_M} {pc is si : Nat} {L : List (Nat × pt_V)} {text : String} (hy : plainName y.cls = true) (hown : y.cls = pt_own Y.1) (h6 : pt_own Y.1 = RX6) (hvs : (vs.map pt_w).sum ≤ Y.2.2.1) (hgo : pt_Go Y (0, pt_en 0 vs, [], M) (pc, L, [], M1))
    (hstr : ∀ sa A U, thw_F sa A U → vk_R RX6 is text (sa si) U) (d0 : decode Y.2.1 pc = .ok (.new 177, 3)) (d3 : decode Y.2.1 (pc + 3) = .ok (.dup, 1)) (d4 : decode Y.2.1 (pc + 4) = .ok (.ldc is, 2)) (d6 : decode Y.2.1 (pc + 6) = .ok (.invokespecial 181, 3)) (d9 : decode Y.2.1 (pc + 9) = .ok (.athrow, 1))
    (r1 : Y.2.2.2.2.frames ≤ 8) (r2 : Y.2.2.2.2.locals ≤ 200) (r3 : Y.2.2.2.2.cells ≤ 1) (r4 : Y.2.2.2.2.slots ≤ 6) {l : Launch} (hl0 : l.stackTraces = false) (D : va_G) (ad : Nat → Nat → Nat) (cA : Nat → ClassId) (sa : Nat → Nat) :
    vx_Met l y (Cond.code y Y.2.1 Y.2.2.1 Y.2.2.2.1 :: pt_tb) th_R (th_P D ad cA sa M vs) (fun _ _ _ _ => False) (th_X D ad cA M1) 1 6 (pt_Ad ad) := by
  refine vx_ofW (cc := Y.2.1) (maxL := Y.2.2.1) (ret := Y.2.2.2.1) hy rfl ?_
  intro p e s m args below meth c s₁ B hml hno hP
  obtain ⟨⟨rfl, hH, hW, hR⟩, hF⟩ := hP
  have hts := atoms_spec (ws := Cond.code y Y.2.1 Y.2.2.1 Y.2.2.2.1 :: pt_tb) B.pre
  have hts' : ∀ w ∈ pt_tb, w.before (vs.map (pt_cv ad)).toArray s = true := fun w hw => hts w (List.mem_cons_of_mem _ hw)
  have hfc : s.vm.findClass (pt_own Y.1) = some m.cls := by rw [← hown]; exact findClass_of_methodNamed B.named
  have hcx : pt_Cx Y p s m (vs.map (pt_cv ad)).toArray meth c D ad cA (pt_Ad ad) 0 0 := ⟨B.exec, B.bytes, B.returns, hml, hfc, hts', ⟨B.notSynchronized, Nat.zero_le _, Nat.zero_le _⟩, hW, fun k i hd => ⟨k, i, hd, rfl⟩⟩
  have hl := lv_entry (vs.map (pt_cv ad)) (n := Y.2.2.1) (by rw [pt_sl_len]; exact hvs)
  rw [← pt_en_ok] at hl
  have K := pt_room hgo (R' := th_R) r1 r2 r3 r4 (l := l) (e := e) (below := below) (Q := vx_MQ below (fun _ _ _ _ => False) (th_X D ad cA M1) (vs.map (pt_cv ad)).toArray s 1 6 (pt_Ad ad)) hcx (by
    intro H locs ls g1 g2 g3 g4
    refine th_throw (cc := Y.2.1) B.exec B.bytes hl0 (own := RX6) (cls := th_N) (text := text) (Y0 := th_Y0) (r0 := [th_Y1]) (ik := 177) (is := is) (ic := 181) (ix := 13) (rx := prog_18_method_4_code) (A := pt_Ad ad) (sa := sa si) (by rw [← h6]; exact hfc) th_x0 th_x1 th_x2 th_x5 th_f0 th_f1 (hts' _ th_w1) (hts' _ th_w2) (hstr _ _ _ hF) (hF.words hts') (fun w hw => List.all_eq_true.mp th_V_ot w hw) hF.2.1.1 hF.2.1.2 g3 (g4.1.trans hml.symm) d0 d3 d4 d6 d9 (fun x hx => (hno x hx).elim) (show 2 + 3 < 8 from by decide) (show 0 + (13 * (2 + 1) + 43) ≤ 200 from by decide) (show 0 + 1 ≤ 1 from by decide) (show 0 + 6 ≤ 6 from by decide) B.notSynchronized ?_ g3.2.2 (by decide) (by decide)
    intro t hal hz hk
    refine ⟨rfl, fun k i e9 hi he => (g1 k i e9 hi he).kept (hk _ (g1 k i e9 hi he).lt), Nat.le_trans g3.1 hz, fun q h1 h2 => ?_⟩
    rw [hk q (Nat.lt_of_lt_of_le h1 g3.1)]
    exact g3.2.1 q h1 h2) s.heap [] _ hH hR va_S.rf hl
  rw [lg_entry_eq]
  exact K
