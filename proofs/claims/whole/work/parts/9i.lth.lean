/-! a call of the class that throws, taken by the only row of the law's table -/
theorem th_thr {Y Yc : pt_Y} {idx n i1 i2 i3 i4 i5 pc : Nat} {y : MethodName} {vs st : List pt_V} {L : List (Nat × pt_V)} {M M1 : pt_M} {x : ExceptionTableEntry} (hk : pt_ckV Y idx 2 y Yc i3 i4 i5 = true) (hm : pt_ckM y Yc n i1 i2 = true) (hn : vs.length = n) (h8 : pt_own Y.1 = RL) (hX : M1.2.2.2.2 = M.2.2.2.2) (r1 : 9 ≤ Y.2.2.2.2.frames) (r2 : 8 + (Yc.2.2.1 + 11) + 200 ≤ Y.2.2.2.2.locals) (r3 : 1 ≤ Y.2.2.2.2.cells) (r4 : 6 ≤ Y.2.2.2.2.slots)
    (hd : decode Y.2.1 pc = .ok (.invokevirtual idx, 3)) (hst : (st.map pt_w).sum ≤ 8) (hx : covers x pc = true) (h13 : x.catchType = 13)
    {p : Program} {l : Launch} {e : Env} {s : State} {m : MethodId} {args : Array Value} {below : List Frame} {meth : Method} {c : Code} {D : va_G} {ad : Nat → Nat → Nat} {cA : Nat → ClassId} {sa : Nat → Nat} {Q : State → Prop} (ht : c.exceptionTable.toList = [x]) (hF : thw_F sa (pt_Ad ad) s) (hC : pt_Cx Y p s m args meth c D ad cA (pt_Ad ad) 0 0)
    (hM : vx_Met l y (Cond.code y Yc.2.1 Yc.2.2.1 Yc.2.2.2.1 :: pt_tb) th_R (th_P D ad cA sa M (pt_r 2 0 :: vs)) (fun _ _ _ _ => False) (th_X D ad cA M1) 1 6 (pt_Ad ad))
    (kk : ∀ (q : Nat) (H : Heap) (locs : List Loc) (ls : Array Slot), pt_Hd D ad cA M1 H → pt_Ro ad (pt_Ad ad) M1 s → va_S (pt_Ad ad) s.heap H locs → lv_has ls Y.2.2.1 (pt_cl ad L) → W p l e Y.2.2.2.2 s m args below meth c H locs 1 6 Q (F0 m x.handlerPc ls [.ref q])) :
    pt_At Y p l e s m args below meth c D ad cA (pt_Ad ad) 0 0 Q (pc, L, (pt_r 2 0 :: vs).reverse ++ st, M) := by
  unfold pt_ckV at hk
  simp only [Bool.and_eq_true] at hk
  obtain ⟨k1, k2, k22, hk⟩ := hk
  have k1 := pt_wi_ok k1
  have k2 := pt_wi_ok k2
  have k22 := pt_wi_ok k22
  obtain ⟨k3, k4, k5, -, -, -, -⟩ := pt_ckB_ok hm hk
  intro H locs ls g1 g2 g3 g4
  obtain ⟨hex, hb, hr, hml, hown, hts, hlk, hW, hAd⟩ := hC
  have hcw : CallB Y.2.2.2.2 s args (pt_own Y.1) idx y Yc.2.1 Yc.2.2.1 Yc.2.2.2.1 (Cond.code y Yc.2.1 Yc.2.2.1 Yc.2.2.2.1 :: pt_tb) th_R 1 6 n := callB_of n hts (pt_goodw k4) rfl rfl rfl (hts _ k3) (hts _ k1) k5 ⟨r1, r2⟩
  have hrv := pt_recv (k := 2) (i := 0) hW g1 rfl (by decide)
  have hrun : vx_Run p l e Y.2.2.2.2 s m args below meth c H locs 0 0 1 6 (F0 m pc ls (((pt_r 2 0 :: vs).reverse ++ st).map (pt_cv ad))) (st.map (pt_cv ad)) (fun _ _ _ => False) (th_X D ad cA M1) (pt_Ad ad) :=
    vx_runV (As := vs.map (pt_cv ad)) (rest := st.map (pt_cv ad)) (b := ad 2 0) (cc := Y.2.1) (nL := Y.2.2.1) ⟨hex, hb, hml, hown, hts⟩ hM ⟨hcw, hts _ k2, hts _ k22⟩ ⟨th_blind, hrv, fun U hU hWm => ⟨⟨rfl, by rw [hU]; exact g1, hW.moved hWm.alike (hW.2.2.warm hWm), pt_Ro.moved hWm.alike (by rw [hU]; exact g3) (fun _ z => z) g2⟩, hF.moved hWm (fun a h1 h2 => by rw [hU]; exact g3.2.1 a h1 h2) (fun _ z => z)⟩⟩ rfl (by rw [List.length_map]; exact hn) g4.1 (by show ((pt_r 2 0 :: vs).reverse ++ st).map _ = _; rw [List.reverse_cons, List.append_assoc, List.map_append, List.map_reverse]; rfl) (pt_rm hst) hd ⟨by omega, by omega⟩
  intro T hT X
  rcases hrun T hT X with ⟨v, st₀, t, T', Lc, h0, X', hL, e1, e2, hq, stp⟩ | ⟨q, st₀, t, T', Lc, E, ce, h0, X', hL, e1, e2, ⟨hE, hHd, hz, hkp⟩, hce, hcv, hcl, stp⟩
  · exact hq.elim
  rw [h0] at hz hkp
  have hro : pt_Ro ad (pt_Ad ad) M1 s := by
    refine ⟨fun k z hz => g2.1 k z ?_, g2.2⟩
    rw [← hz]
    unfold pt_ro pt_L pt_X
    rw [hX]
  have h3 : va_S (pt_Ad ad) s.heap T'.heap (locs ++ Lc) := by
    refine ⟨Nat.le_trans g3.1 (by rw [e1]; exact hz), fun q h1 h2 => ?_, fun q hq => ?_⟩
    · rw [e1, hkp q (Nat.lt_of_lt_of_le h1 g3.1) h2]
      exact g3.2.1 q h1 h2
    · rcases List.mem_append.mp hq with h | h
      · exact g3.2.2 q h
      · exact hL q h
  subst hE
  have K : vx_W p l e Y.2.2.2.2 s m args below meth c T'.heap (locs ++ Lc) 1 6 Q (F0 m pc ls (st.map (pt_cv ad))) q := th_catch (own := RL) (name := th_N) (E := th_N) (pc := pc) (ce := ce) (q := q) (x := x) (by rw [← h8]; exact hown) ht hx (by rw [h13]; decide) (by rw [h13]; exact hts _ th_w3) (va_Nw.use rfl hF.2.2.1) (by rw [e1]; exact hce) hcv hcl (kk q T'.heap (locs ++ Lc) ls (by rw [e1]; exact hHd) hro h3 g4)
  obtain ⟨t2, a1, b1⟩ := K T' rfl X'
  exact ⟨t2, stp.trans a1, b1⟩
/-- an exception: the answer is 1 -/
theorem dL_onRim_1 {x k : Int32} {M M1 : pt_M} {pc : Nat} {L : List (Nat × pt_V)} (hX : M1.2.2.2.2 = M.2.2.2.2) (hpc : pc = 10 ∨ pc = 43) (hgo : pt_Go YX6_onRim (0, [(0, pt_r 2 0), (1, pt_i x), (2, pt_i k)], [], M) (pc, L, [], M1)) : th_Does yL_onRim YL_onRim [(0, 10, 13, 13)] [pt_r 2 0, pt_i x, pt_i k, pt_r 50 0] M (some (pt_i (Int32.ofInt 1))) M1 := by
  refine th_does (Bool.and_eq_true_iff.mp nL_onRim).1 (of_decide_eq_true (Bool.and_eq_true_iff.mp nL_onRim).2) (Nat.le_of_ble_eq_true rfl) hX fun p l e s m args below meth c D ad cA sa hl0 htb hF hC => gL_onRim_5 x k M p l e s m args below meth c D ad cA (pt_Ad ad) 0 0 _ hC ?_
  have hM : vx_Met l yX6_onRim (Cond.code yX6_onRim YX6_onRim.2.1 YX6_onRim.2.2.1 YX6_onRim.2.2.2.1 :: pt_tb) th_R (th_P D ad cA sa M [pt_r 2 0, pt_i x, pt_i k]) (fun _ _ _ _ => False) (th_X D ad cA M1) 1 6 (pt_Ad ad) := by
    rcases hpc with rfl | rfl
    · exact th_cls (Y := YX6_onRim) (vs := [pt_r 2 0, pt_i x, pt_i k]) (M := M) (M1 := M1) (pc := 10) (L := L) (is := 179) (si := 0) (text := "no lawful table") (by decide +kernel) (by decide +kernel) rfl (Nat.le_of_ble_eq_true rfl) hgo (fun _ _ _ h => h.1.1) (by decide +kernel) (by decide +kernel) (by decide +kernel) (by decide +kernel) (by decide +kernel) (by decide) (by decide) (by decide) (by decide) hl0 D ad cA sa
    · exact th_cls (Y := YX6_onRim) (vs := [pt_r 2 0, pt_i x, pt_i k]) (M := M) (M1 := M1) (pc := 43) (L := L) (is := 184) (si := 1) (text := "no such point of the rim") (by decide +kernel) (by decide +kernel) rfl (Nat.le_of_ble_eq_true rfl) hgo (fun _ _ _ h => h.1.2.1) (by decide +kernel) (by decide +kernel) (by decide +kernel) (by decide +kernel) (by decide +kernel) (by decide) (by decide) (by decide) (by decide) hl0 D ad cA sa
  have hC1 : pt_Cx YL_onRim p s m args meth c D ad cA (pt_Ad ad) 1 6 := by
    obtain ⟨a1, a2, a3, a4, a5, a6, a7, a8⟩ := hC
    exact ⟨a1, a2, a3, a4, a5, a6, ⟨a7.1, Nat.le_refl _, Nat.le_refl _⟩, a8⟩
  refine th_thr (Y := YL_onRim) (vs := [pt_i x, pt_i k]) (st := [pt_i (Int32.ofInt 0), pt_r 50 0]) (x := ⟨0, 10, 13, 13⟩) kL_onRim_7 mX6_onRim rfl rfl hX (by decide) (by decide) (by decide) (by decide) (by decide +kernel) (Nat.le_of_ble_eq_true rfl) rfl rfl htb hF hC hM ?_
  intro q H locs ls g1 g2 g3 g4
  refine lv_astore (i := 4) (nL := 5) hC.1 hC.2.1 (by decide +kernel) g4 (by decide) rfl fun ls' h' => ?_
  exact gL_onRim_15 M1 p l e s m args below meth c D ad cA (pt_Ad ad) 1 6 _ hC1 (th_reti rfl (by decide +kernel) (by decide) (by decide) hC1) H locs ls' g1 g2 g3 (pt_has_sub h' (fun _ z => nomatch z))
theorem dL_octet_1 {k : Int32} {M : pt_M} {L : List (Nat × pt_V)} (hgo : pt_Go YX6_octet (0, [(0, pt_r 2 0), (1, pt_i k)], [], M) (12, L, [], M)) : th_Does yL_octet YL_octet [(0, 9, 12, 13)] [pt_r 2 0, pt_i k, pt_r 50 0] M (some (pt_i (Int32.ofInt 1))) M := by
  refine th_does (Bool.and_eq_true_iff.mp nL_octet).1 (of_decide_eq_true (Bool.and_eq_true_iff.mp nL_octet).2) (Nat.le_of_ble_eq_true rfl) rfl fun p l e s m args below meth c D ad cA sa hl0 htb hF hC => gL_octet_4 k M p l e s m args below meth c D ad cA (pt_Ad ad) 0 0 _ hC ?_
  have hM : vx_Met l yX6_octet (Cond.code yX6_octet YX6_octet.2.1 YX6_octet.2.2.1 YX6_octet.2.2.2.1 :: pt_tb) th_R (th_P D ad cA sa M [pt_r 2 0, pt_i k]) (fun _ _ _ _ => False) (th_X D ad cA M) 1 6 (pt_Ad ad) :=
    th_cls (Y := YX6_octet) (vs := [pt_r 2 0, pt_i k]) (M := M) (M1 := M) (pc := 12) (L := L) (is := 239) (si := 2) (text := "no such byte of OUT") (by decide +kernel) (by decide +kernel) rfl (Nat.le_of_ble_eq_true rfl) hgo (fun _ _ _ h => h.1.2.2) (by decide +kernel) (by decide +kernel) (by decide +kernel) (by decide +kernel) (by decide +kernel) (by decide) (by decide) (by decide) (by decide) hl0 D ad cA sa
  have hC1 : pt_Cx YL_octet p s m args meth c D ad cA (pt_Ad ad) 1 6 := by
    obtain ⟨a1, a2, a3, a4, a5, a6, a7, a8⟩ := hC
    exact ⟨a1, a2, a3, a4, a5, a6, ⟨a7.1, Nat.le_refl _, Nat.le_refl _⟩, a8⟩
  refine th_thr (Y := YL_octet) (vs := [pt_i k]) (st := [pt_i (Int32.ofInt 0), pt_r 50 0]) (x := ⟨0, 9, 12, 13⟩) kL_octet_15 mX6_octet rfl rfl rfl (by decide) (by decide) (by decide) (by decide) (by decide +kernel) (Nat.le_of_ble_eq_true rfl) rfl rfl htb hF hC hM ?_
  intro q H locs ls g1 g2 g3 g4
  refine lv_astore_n (k := 3) (i := 3) (nL := 4) hC.1 hC.2.1 (by decide +kernel) rfl g4 (by decide) rfl fun ls' h' => ?_
  exact gL_octet_13 M p l e s m args below meth c D ad cA (pt_Ad ad) 1 6 _ hC1 (th_reti rfl (by decide +kernel) (by decide) (by decide) hC1) H locs ls' g1 g2 g3 (pt_has_sub h' (fun _ z => nomatch z))
