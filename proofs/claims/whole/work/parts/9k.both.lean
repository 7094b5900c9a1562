/-! onRim and octet on both sides, whatever stands in out -/
theorem mo_G {M : pt_M} {k : Nat} {g : Nat → Int64} : mo_P M (pt_wG M k g) := ⟨rfl, fun _ _ => rfl⟩
def oR_Q (M : pt_M) (x k : Int32) : Prop := (∃ M1 r, pt_Does yX6_onRim YX6_onRim [pt_r 2 0, pt_i x, pt_i k] M (some (pt_i r)) M1 ∧ ∀ w, ∃ M2, pt_Does yX7_onRim YX7_onRim [pt_r 7 0, pt_i x, pt_i k] (pt_wG M1 50 w) (some (pt_i r)) M2 ∧ pt_F M2 7 0 0 = 0 ∧ IV_P M2 ∧ pt_G M2 50 = w) ∨ ∃ M1 M2 c L, (c = 10 ∨ c = 43) ∧ M1.2.2.2.2 = M.2.2.2.2 ∧ pt_Go YX6_onRim (0, [(0, pt_r 2 0), (1, pt_i x), (2, pt_i k)], [], M) (c, L, [], M1) ∧ pt_Does yX7_onRim YX7_onRim [pt_r 7 0, pt_i x, pt_i k] M1 (some (pt_i 0)) M2 ∧ pt_F M2 7 0 0 = 1 ∧ IV_P M2
theorem oq_onRim {M : pt_M} (h : IV_P M) (x k : Int32) : oR_Q M x k := by
  obtain ⟨A, hC, hM⟩ := h
  have zB : Nat → Nat → Nat → Bool := fun _ _ _ => false
  rcases lw_case hC x with ⟨h1, h2⟩ | ⟨s, hs, rfl, hn⟩
  · exact .inr ⟨M, pt_wF M 7 0 0 1, 10, _, .inl rfl, rfl, gX6_onRim_0_5 x k 0 zB 0 M h1, rX7_onRim_64 (Nat.le_of_ble_eq_true rfl) rfl (gX7_onRim_0_4 x k 0 zB M M (il_0 (h2 M hM))), rfl, A, CR_ca hC ca_wF, hM⟩
  obtain ⟨q1, q2, q3, q4, q5, q6⟩ := CR_y hC hs hn
  have hM1 := MR_mo hM (mo_wm (x := nI s) (n := iv_N A s) (B := iv_B A s))
  have hC1 := CR_wm hC hs hn
  have es : pt_nt (nI s) = s := pt_nt_nI (by omega)
  obtain ⟨g, hg⟩ := il_y hM1 hs hn
  by_cases hz : wy_F (iv_N A s) (iv_B A s) = 0
  · rw [decide_eq_true hz] at hg
    have hl := CR_lA hC hs hn hz
    have hlw : lw_P (iv_N A s) (iv_B A s) := lw_of q2 nB_sy hz
    have htb : tb_P (wl_M M (nI s) (iv_N A s) (iv_B A s)) (pt_R M (pt_nt (nI s) + 1)) (iv_N A s) (iv_B A s) := hl.2.1
    have hM2 : MR_P (pt_wA (wl_M M (nI s) (iv_N A s) (iv_B A s)) 36 0 g) A := MR_w hM1 (by decide) (by decide) (by decide) (by decide) (by decide) (by decide)
    have y3 := MR_y hM2 hs hn
    have hC2 : CR_P (pt_wA (wl_M M (nI s) (iv_N A s) (iv_B A s)) 36 0 g) A := CR_ca hC1 ca_36
    have hep : ep_F (wl_M M (nI s) (iv_N A s) (iv_B A s)) (pt_R M (pt_nt (nI s) + 1)) = nI (2 ^ iv_N A s - 1) := ep_nI q2 htb.2.2.1
    have h2n := pb_p2 q2
    have h20 := Nat.two_pow_pos (iv_N A s)
    have hm : 2 ^ iv_N A s - 1 < 1024 := by omega
    have hri := ri_nI (n := iv_N A s) (B := iv_B A s) hm
    have hrl := ri_lt (B := iv_B A s) q2 hm
    have hpl := pc_le (ri_F (iv_N A s) (iv_B A s) (2 ^ iv_N A s - 1))
    have hN36 : pt_A (pt_wA (wl_M M (nI s) (iv_N A s) (iv_B A s)) 36 0 g) 31 0 (pt_nt (nI s)) = nI (iv_N A s) := by rw [es]; exact y3.2.1
    have hro : ro_P (pt_wA (wl_M M (nI s) (iv_N A s) (iv_B A s)) 36 0 g) (120 * nI s) (nI (2 ^ iv_N A s - 1)) (iv_N A s) (iv_B A s) := ⟨120 * s, 2 ^ iv_N A s - 1, m120 s, rfl, y3.2.2, by omega⟩
    by_cases c1 : k < 0
    · exact .inr ⟨wl_M M (nI s) (iv_N A s) (iv_B A s), pt_wF (pt_wA (wl_M M (nI s) (iv_N A s) (iv_B A s)) 36 0 g) 7 0 0 1, 43, _, .inr rfl, rfl, gX6_onRim_0_3 (nI s) k (iv_N A s) (iv_B A s) 0 M hl htb.1 htb (by rw [hep]; exact ⟨_, rfl, hm⟩) c1, rX7_onRim_64 (Nat.le_of_ble_eq_true rfl) rfl (gX7_onRim_0_3 (nI s) k (iv_N A s) (iv_B A s) _ _ hg (pt_in_nI hs (by decide)) c1), rfl, A, CR_ca hC2 ca_wF, hM2⟩
    · by_cases c2 : k < nI (pc_F (ri_F (iv_N A s) (iv_B A s) (2 ^ iv_N A s - 1)))
      · obtain ⟨k', k1, rfl⟩ := hp_of hpl c1 (Int32.not_le.mpr c2)
        obtain ⟨p, p1, p2, p3, p4⟩ := le_ex hlw q1
        have d1 := dX6_onRim (x1 := nI s) (a := rz_F (iv_N A s) (iv_B A s) p) (M := M) hl k1 p1 fun j _ => ⟨tb_lt (ri_2 (by omega)) (rz_ok hlw q1 p3 j).1, (rz_ok hlw q1 p3 j).2.2⟩
        refine .inl ⟨_, _, d1, fun w => ?_⟩
        have hMw : MR_P (pt_wG (wl_M M (nI s) (iv_N A s) (iv_B A s)) 50 w) A := MR_mo hM1 mo_G
        obtain ⟨g', hg'⟩ := il_y hMw hs hn
        rw [decide_eq_true hz] at hg'
        have hM3 : MR_P (pt_wA (pt_wG (wl_M M (nI s) (iv_N A s) (iv_B A s)) 50 w) 36 0 g') A := MR_w hMw (by decide) (by decide) (by decide) (by decide) (by decide) (by decide)
        have y4 := MR_y hM3 hs hn
        exact ⟨pt_wF (pt_wA (pt_wG (wl_M M (nI s) (iv_N A s) (iv_B A s)) 50 w) 36 0 g') 7 0 0 0, dX7_onRim_y hs hg' y4.2.1 y4.2.2 hlw q1 k1 p3 p2 p4, rfl, ⟨A, CR_ca (CR_ca (CR_ca hC1 ca_wG) ca_36) ca_wF, hM3⟩, pt_G_wG (M := wl_M M (nI s) (iv_N A s) (iv_B A s)) (k := 50) (g := w)⟩
      · have g6 := gX6_onRim_0_1 (nI s) k (iv_N A s) (iv_B A s) 0 M hl htb.1 htb
        rw [hep, hri, bc_nI hrl] at g6
        have g7 := gX7_onRim_0_1 (nI s) k (iv_N A s) (iv_B A s) _ _ hg (pt_in_nI hs (by decide)) c1
        rw [hN36, e2_n q2, hri, pt_nt_nI (by omega)] at g7
        exact .inr ⟨wl_M M (nI s) (iv_N A s) (iv_B A s), pt_wF (pt_wA (wl_M M (nI s) (iv_N A s) (iv_B A s)) 36 0 g) 7 0 0 1, 43, _, .inr rfl, rfl, g6 ⟨_, rfl, hm⟩ c1 c2, rX7_onRim_64 (Nat.le_of_ble_eq_true rfl) rfl (g7 hro ⟨_, rfl, hrl⟩ c2), rfl, A, CR_ca hC2 ca_wF, hM2⟩
  · rw [decide_eq_false hz] at hg
    have hM2 : MR_P (pt_wA (wl_M M (nI s) (iv_N A s) (iv_B A s)) 36 0 g) A := MR_w hM1 (by decide) (by decide) (by decide) (by decide) (by decide) (by decide)
    exact .inr ⟨wl_M M (nI s) (iv_N A s) (iv_B A s), pt_wF (pt_wA (wl_M M (nI s) (iv_N A s) (iv_B A s)) 36 0 g) 7 0 0 1, 10, _, .inl rfl, rfl, gX6_onRim_0_4 (nI s) k (iv_N A s) (iv_B A s) 0 M (CR_lN hC hs hn hz), rX7_onRim_64 (Nat.le_of_ble_eq_true rfl) rfl (gX7_onRim_0_4 (nI s) k (iv_N A s) (iv_B A s) _ _ hg), rfl, A, CR_ca (CR_ca hC1 ca_36) ca_wF, hM2⟩
def oO_Q (M : pt_M) (k : Int32) : Prop := (∃ r, pt_Does yX6_octet YX6_octet [pt_r 2 0, pt_i k] M (some (pt_i r)) M ∧ ∀ w, ∃ M2, pt_Does yX7_octet YX7_octet [pt_r 7 0, pt_i k] (pt_wG M 50 w) (some (pt_i r)) M2 ∧ pt_F M2 7 0 0 = 0 ∧ IV_P M2 ∧ pt_G M2 50 = w) ∨ ∃ M2 L, pt_Go YX6_octet (0, [(0, pt_r 2 0), (1, pt_i k)], [], M) (12, L, [], M) ∧ pt_Does yX7_octet YX7_octet [pt_r 7 0, pt_i k] M (some (pt_i 0)) M2 ∧ pt_F M2 7 0 0 = 1 ∧ IV_P M2
theorem oq_octet {M : pt_M} (h : IV_P M) (k : Int32) : oO_Q M k := by
  obtain ⟨A, hC, hM⟩ := h
  have c6 : pt_F M 2 6 0 = nI (iv_O A) := hC.2.2.2.2.2.2.1
  have cO := hC.2.2.2.2.2.2.2.1
  have cu := hC.2.2.2.2.2.2.2.2
  have m6 : pt_F M 7 16 0 = nI (iv_O A) := hM.2.2.2.2.1
  have mu := hM.2.2.2.2.2.1
  by_cases c1 : k < 0
  · exact .inr ⟨pt_wF M 7 0 0 1, _, gX6_octet_0_3 k M c1, rX7_octet_34 (Nat.le_of_ble_eq_true rfl) rfl (gX7_octet_0_3 k M c1), rfl, A, CR_ca hC ca_wF, hM⟩
  by_cases c2 : k < nI (iv_O A)
  · obtain ⟨p, hp0, rfl⟩ := nI_of c1
    have hp : p < iv_O A := by
      rcases Nat.lt_or_ge p (iv_O A) with z | z
      · exact z
      · exact absurd c2 (Int32.not_lt.mpr (nI_le z (by omega)))
    have es : pt_nt (nI p) = p := pt_nt_nI (by omega)
    have d1 := dX6_octet_p2 (nI p) M c1 (by rw [c6]; exact c2) (pt_in_nI (by omega) (by decide))
    rw [es, cu p hp] at d1
    refine .inl ⟨_, d1, fun w => ?_⟩
    have m6' : pt_F (pt_wG M 50 w) 7 16 0 = nI (iv_O A) := m6
    have g1 := gX7_octet_0_2 (nI p) (pt_wG M 50 w) c1 (by rw [m6']; exact c2) (pt_in_nI (by omega) (by decide))
    have e : pt_A (pt_wF (pt_wG M 50 w) 7 0 0 0) 41 0 (pt_nt (nI p)) = iv_u A p := by rw [es]; exact mu p hp
    rw [e] at g1
    exact ⟨pt_wF (pt_wG M 50 w) 7 0 0 0, rX7_octet_34 (Nat.le_of_ble_eq_true rfl) rfl g1, rfl, ⟨A, CR_ca (CR_ca hC ca_wG) ca_wF, (show MR_P (pt_wG M 50 w) A from MR_mo hM mo_G)⟩, pt_G_wG (M := M) (k := 50) (g := w)⟩
  · exact .inr ⟨pt_wF M 7 0 0 1, _, gX6_octet_0_1 k M c1 (by rw [c6]; exact c2), rX7_octet_34 (Nat.le_of_ble_eq_true rfl) rfl (gX7_octet_0_1 k M c1 (by rw [m6]; exact c2)), rfl, A, CR_ca hC ca_wF, hM⟩
theorem th_z0 : Int32.ofInt 0 = 0 := by decide
theorem th_z1 : Int32.ofInt 1 = 1 := by decide
theorem th_lc (x : Int64) : lg_cmp x x = 0 := by
  unfold lg_cmp
  rw [if_neg (show ¬ x > x from Int64.lt_irrefl), if_pos rfl]
/-- a round with onRim -/
theorem law_t13 {p : Program} {l : Launch} {e : Env} {s : State} {m : MethodId} {args : Array Value} {below : List Frame} {meth : Method} {c : Code} {D : va_G} {ad : Nat → Nat → Nat} {cA : Nat → ClassId} {A : Nat → Prop} {Q : State → Prop} {sa : Nat → Nat} (hl0 : l.stackTraces = false) (hF : thw_F sa A s) (hC : ∀ cells slots, cells ≤ 601024 → slots ≤ 7293034 → pt_Cx YL_law p s m args meth c D ad cA A cells slots) : law_T p l e s m args below meth c D ad cA A Q 13 := by
  intro M l4 cells slots hI h1 h2 h3 h4 h5 hc hs kk
  have hC0 := hC cells slots (by omega) (by omega)
  have hC1 := hC (cells + 1) (slots + 6) hc hs
  refine ts_13 p l e s m args below meth c D ad cA A cells slots Q hC0 (gL_law_661_a l4 M h1 h2 p l e s m args below meth c D ad cA A cells slots Q hC0 ?_)
  rcases oq_onRim hI (pt_X M (pt_nt (l4 + 1))) (pt_X M (pt_nt (l4 + 2))) with ⟨M1, r, d1, hw⟩ | ⟨M1, M2, pc, L, hpc, hX, hgo, d2, h0, hI2⟩
  · obtain ⟨M2, d2, h0, hI2, hG⟩ := hw (vp_updL (pt_G M1 50) (pt_nt (Int32.ofInt 0)) r.toInt64)
    have e1 : (th_w M1 r).2.2.2.2 = M.2.2.2.2 := d1.1
    have e2 : M2.2.2.2.2 = M.2.2.2.2 := d2.1.trans e1
    have eL : pt_L (th_w M1 r) = pt_L M := congrArg (fun z => z.1) e1
    have eX : pt_X (th_w M1 r) = pt_X M := congrArg (fun z => z.2) e1
    refine th_call (vs := [pt_r 2 0, pt_i (pt_X M (pt_nt (l4 + 1))), pt_i (pt_X M (pt_nt (l4 + 2))), pt_r 50 0]) (st := []) kL_law_82 rfl (dL_onRim_0 d1) rfl rfl (by decide) (by decide) (by decide +kernel) (Nat.le_of_ble_eq_true rfl) hl0 hF hC0 hc hs ?_
    refine gL_law_678_0 l4 r (th_w M1 r) M2 (by rw [eL]; exact h1) (by rw [eL]; exact h2) (by rw [eX]; exact d2) (h0.trans th_z0.symm) (by rw [hG]; show lg_cmp (if _ then _ else _) _ = 0; rw [if_pos rfl]; exact th_lc _) p l e s m args below meth c D ad cA A (cells + 1) (slots + 6) Q hC1 ?_
    refine pt_drop (l' := [(0, pt_r 51 0), (1, pt_r 2 0), (2, pt_r 7 0), (3, pt_r 50 0), (4, pt_i l4)]) (fun q hq => List.mem_append_left [(5, pt_i (Int32.ofInt 0)), (6, pt_i r)] hq) p l e s m args below meth c D ad cA A (cells + 1) (slots + 6) Q hC1 ?_
    exact gL_law_1282_1 l4 0 M2 M2 M2 p l e s m args below meth c D ad cA A (cells + 1) (slots + 6) Q hC1 (kk M2 hI2 e2)
  · have e2 : M2.2.2.2.2 = M.2.2.2.2 := d2.1.trans hX
    have eL : pt_L M1 = pt_L M := congrArg (fun z => z.1) hX
    have eX : pt_X M1 = pt_X M := congrArg (fun z => z.2) hX
    refine th_call (vs := [pt_r 2 0, pt_i (pt_X M (pt_nt (l4 + 1))), pt_i (pt_X M (pt_nt (l4 + 2))), pt_r 50 0]) (st := []) kL_law_82 rfl (dL_onRim_1 hX hpc hgo) rfl rfl (by decide) (by decide) (by decide +kernel) (Nat.le_of_ble_eq_true rfl) hl0 hF hC0 hc hs ?_
    refine gL_law_678_1 l4 0 M1 M2 (by rw [eL]; exact h1) (by rw [eL]; exact h2) (by rw [eX]; exact d2) (h0.trans th_z1.symm) p l e s m args below meth c D ad cA A (cells + 1) (slots + 6) Q hC1 ?_
    refine pt_drop (l' := [(0, pt_r 51 0), (1, pt_r 2 0), (2, pt_r 7 0), (3, pt_r 50 0), (4, pt_i l4)]) (fun q hq => List.mem_append_left [(5, pt_i (Int32.ofInt 1)), (6, pt_i 0)] hq) p l e s m args below meth c D ad cA A (cells + 1) (slots + 6) Q hC1 ?_
    exact gL_law_1282_1 l4 0 M2 M2 M2 p l e s m args below meth c D ad cA A (cells + 1) (slots + 6) Q hC1 (kk M2 hI2 e2)
/-- a round with octet -/
theorem law_t20 {p : Program} {l : Launch} {e : Env} {s : State} {m : MethodId} {args : Array Value} {below : List Frame} {meth : Method} {c : Code} {D : va_G} {ad : Nat → Nat → Nat} {cA : Nat → ClassId} {A : Nat → Prop} {Q : State → Prop} {sa : Nat → Nat} (hl0 : l.stackTraces = false) (hF : thw_F sa A s) (hC : ∀ cells slots, cells ≤ 601024 → slots ≤ 7293034 → pt_Cx YL_law p s m args meth c D ad cA A cells slots) : law_T p l e s m args below meth c D ad cA A Q 20 := by
  intro M l4 cells slots hI h1 h2 h3 h4 h5 hc hs kk
  have hC0 := hC cells slots (by omega) (by omega)
  have hC1 := hC (cells + 1) (slots + 6) hc hs
  refine ts_20 p l e s m args below meth c D ad cA A cells slots Q hC0 (gL_law_927_a l4 M h1 p l e s m args below meth c D ad cA A cells slots Q hC0 ?_)
  rcases oq_octet hI (pt_X M (pt_nt (l4 + 1))) with ⟨r, d1, hw⟩ | ⟨M2, L, hgo, d2, h0, hI2⟩
  · obtain ⟨M2, d2, h0, hI2, hG⟩ := hw (vp_updL (pt_G M 50) (pt_nt (Int32.ofInt 0)) r.toInt64)
    have e2 : M2.2.2.2.2 = M.2.2.2.2 := d2.1
    refine th_call (vs := [pt_r 2 0, pt_i (pt_X M (pt_nt (l4 + 1))), pt_r 50 0]) (st := []) kL_law_115 rfl (dL_octet_0 d1) rfl rfl (by decide) (by decide) (by decide +kernel) (Nat.le_of_ble_eq_true rfl) hl0 hF hC0 hc hs ?_
    refine gL_law_938_0 l4 r (th_w M r) M2 h1 d2 (h0.trans th_z0.symm) (by rw [hG]; show lg_cmp (if _ then _ else _) _ = 0; rw [if_pos rfl]; exact th_lc _) p l e s m args below meth c D ad cA A (cells + 1) (slots + 6) Q hC1 ?_
    refine pt_drop (l' := [(0, pt_r 51 0), (1, pt_r 2 0), (2, pt_r 7 0), (3, pt_r 50 0), (4, pt_i l4)]) (fun q hq => List.mem_append_left [(5, pt_i (Int32.ofInt 0)), (6, pt_i r)] hq) p l e s m args below meth c D ad cA A (cells + 1) (slots + 6) Q hC1 ?_
    exact gL_law_1282_1 l4 0 M2 M2 M2 p l e s m args below meth c D ad cA A (cells + 1) (slots + 6) Q hC1 (kk M2 hI2 e2)
  · refine th_call (vs := [pt_r 2 0, pt_i (pt_X M (pt_nt (l4 + 1))), pt_r 50 0]) (st := []) kL_law_115 rfl (dL_octet_1 hgo) rfl rfl (by decide) (by decide) (by decide +kernel) (Nat.le_of_ble_eq_true rfl) hl0 hF hC0 hc hs ?_
    refine gL_law_938_1 l4 0 M M2 h1 d2 (h0.trans th_z1.symm) p l e s m args below meth c D ad cA A (cells + 1) (slots + 6) Q hC1 ?_
    refine pt_drop (l' := [(0, pt_r 51 0), (1, pt_r 2 0), (2, pt_r 7 0), (3, pt_r 50 0), (4, pt_i l4)]) (fun q hq => List.mem_append_left [(5, pt_i (Int32.ofInt 1)), (6, pt_i 0)] hq) p l e s m args below meth c D ad cA A (cells + 1) (slots + 6) Q hC1 ?_
    exact gL_law_1282_1 l4 0 M2 M2 M2 p l e s m args below meth c D ad cA A (cells + 1) (slots + 6) Q hC1 (kk M2 hI2 d2.1)
