/-! one instruction, as a step of the abstract machine -/
theorem pt_k1 {k : Nat} (h : k ≠ 0) : ∃ n, k = n + 1 := ⟨k - 1, by omega⟩
theorem pt_ob0 {k : Nat} {q : Nat × Nat} (h : pt_ob k = some q) : ∃ n, k = n + 1 := by
  apply pt_k1
  rintro rfl
  cases h
theorem pt_ak0 {k : Nat} {q : Nat × Nat} (h : pt_ak k = some q) : ∃ n, k = n + 1 := by
  apply pt_k1
  rintro rfl
  cases h
theorem pt_getf {Y : pt_Y} {pc idx k f i : Nat} {L : List (Nat × pt_V)} {st : List pt_V} {M : pt_M} (hf : pt_fl Y.1 idx = some (k, f)) (hi : i < pt_ct k) (hd : decode Y.2.1 pc = .ok (.getfield idx, 3)) : pt_Go Y (pc, L, pt_r k i :: st, M) (pc + 3, L, pt_fv M k f i :: st, M) := by
  obtain ⟨ci, N, C, T, h1, h2, h3, h4⟩ := pt_fl_ok hf
  obtain ⟨k, rfl⟩ := pt_ob0 h1
  intro p l e s m args below meth c D ad cA A cells slots Q hC hA H locs ls g1 g2 g3 g4
  obtain ⟨hx, hb, hr, hml, hown, hts, hlk, hW, hAd⟩ := hC
  have hP := g1.at hi (pt_ce_o (ad := ad) (cA := cA) (M := M) (i := i) h1)
  exact va_get hx hb hts (pt_us' h2) hown hW.1 hP 0 rfl h2 f h3 (hts _ h4) (fun _ z => z) (v := pt_cv ad (pt_fv M (k + 1) f i)) (by simp [h3]) hd (hA H locs ls g1 g2 g3 g4)
/-- a number is written into a field; b: it is a boolean -/
theorem pt_putf {Y : pt_Y} {pc idx k f i : Nat} {x : Int32} {L : List (Nat × pt_V)} {st : List pt_V} {M : pt_M} (hf : pt_fl Y.1 idx = some (k, f)) (hi : i < pt_ct k) (hs : pt_fs k f = 0) (hw : ∀ ci C T N, pt_ob k = some (ci, N) → vwCl[ci]? = some (C, T, N) → (T f).2.2.2 = false ∧ narrow (pt_t0 T f) (.int x) = .int x ∧ fits (pt_t0 T f) (.int x) = true) (hd : decode Y.2.1 pc = .ok (.putfield idx, 3)) : pt_Go Y (pc, L, pt_i x :: pt_r k i :: st, M) (pc + 3, L, st, pt_wF M k f i x) := by
  obtain ⟨ci, N, C, T, h1, h2, h3, h4⟩ := pt_fl_ok hf
  obtain ⟨w1, w2, w3⟩ := hw ci C T N h1 h2
  obtain ⟨k, rfl⟩ := pt_ob0 h1
  intro p l e s m args below meth c D ad cA A cells slots Q hC hA H locs ls g1 g2 g3 g4
  obtain ⟨hx, hb, hr, hml, hown, hts, hlk, hW, hAd⟩ := hC
  have hce := pt_ce_o (ad := ad) (cA := cA) (M := M) (i := i) h1
  have hdm := pt_dm_of hi hce
  refine pt_putW hx hb hts hown hW.1 g3 (g1 _ _ _ hi hce) h2 f h3 h4 w1 w2 w3 (by simp [h3]) (hAd _ _ hdm) hd fun H1 locs1 e1 e2 e3 => ?_
  refine hA H1 locs1 ls ?_ g2 e3 g4
  refine g1.put hW hdm (pt_ce_o (ad := ad) (cA := cA) (M := pt_wF M (k + 1) f i x) (i := i) h1) ?_ e2 (fun k' i' _ h => pt_ce_wF h)
  have : (List.range N).map (fun f' => pt_cv ad (pt_fv (pt_wF M (k + 1) f i x) (k + 1) f' i)) = ((List.range N).map (fun f' => pt_cv ad (pt_fv M (k + 1) f' i))).set f (.int x) := by
    apply List.ext_getElem?
    intro j
    rw [List.getElem?_set]
    by_cases hj : f = j
    · subst hj
      simp only [List.getElem?_map, List.length_map, List.length_range, h3, List.getElem?_range, if_true, Option.map_some]
      congr 1
      unfold pt_fv
      rw [hs]
      show Value.int (if _ then x else _) = _
      rw [if_pos ⟨rfl, rfl, rfl⟩]
    · rw [if_neg hj]
      simp only [List.getElem?_map]
      cases hr : (List.range N)[j]? with
      | none => rfl
      | some z =>
        have hz : j = z := by
          obtain ⟨hz1, hz2⟩ := List.getElem?_eq_some_iff.mp hr
          simpa using hz2
        subst hz
        simp only [Option.map_some]
        congr 2
        unfold pt_fv
        split
        · have : pt_F (pt_wF M (k + 1) f i x) (k + 1) j i = pt_F M (k + 1) j i := if_neg fun z => hj z.2.1.symm
          rw [this]
        · rfl
        · rfl
  rw [this]
  exact e1
/-- the spare is another table -/
theorem pt_putS {Y : pt_Y} {pc idx t : Nat} {L : List (Nat × pt_V)} {st : List pt_V} {M : pt_M} (hf : pt_fl Y.1 idx = some (2, 1)) (hd : decode Y.2.1 pc = .ok (.putfield idx, 3)) : pt_Go Y (pc, L, pt_r 3 t :: pt_r 2 0 :: st, M) (pc + 3, L, st, pt_wR M 0 t) := by
  obtain ⟨ci, N, C, T, h1, h2, h3, h4⟩ := pt_fl_ok hf
  cases h1
  cases h2
  intro p l e s m args below meth c D ad cA A cells slots Q hC hA H locs ls g1 g2 g3 g4
  obtain ⟨hx, hb, hr, hml, hown, hts, hlk, hW, hAd⟩ := hC
  have hi : 0 < pt_ct 2 := by decide
  have hce := pt_ce_o (ad := ad) (cA := cA) (M := M) (i := 0) (k := 2) (ci := 4) (n := 12) rfl
  have hdm := pt_dm_of hi hce
  have hty : pt_t0 TX6 1 = .object "PointTables$Table" := by decide +kernel
  refine pt_putW hx hb hts hown hW.1 g3 (g1 _ _ _ hi hce) rfl 1 h3 h4 rfl (v := .ref (ad 3 t)) (by rw [hty]; rfl) (by rw [hty]; rfl) (by simp) (hAd _ _ hdm) hd fun H1 locs1 e1 e2 e3 => ?_
  refine hA H1 locs1 ls ?_ g2 e3 g4
  refine g1.put hW hdm (pt_ce_o (ad := ad) (cA := cA) (M := pt_wR M 0 t) (i := 0) (k := 2) (ci := 4) (n := 12) rfl) e1 e2 (fun k' i' hi9 h => ?_)
  unfold pt_ce
  cases hk : pt_ob k' with
  | none => rfl
  | some q =>
    simp only [Option.some.injEq, Sum.inr.injEq, Prod.mk.injEq, true_and]
    apply List.map_congr_left
    intro f hf9
    congr 1
    unfold pt_fv
    split
    · rfl
    · rename_i hfs
      exfalso
      have := pt_fs1 hfs
      subst this
      exact h ⟨rfl, Nat.lt_one_iff.mp hi9⟩
    · rfl
/-- arrays: reading -/
theorem pt_iald {Y : pt_Y} {pc k i n : Nat} {j : Int32} {L : List (Nat × pt_V)} {st : List pt_V} {M : pt_M} (ha : pt_ak k = some (0, n)) (hi : i < pt_ct k) (hj : pt_in j n) (hd : decode Y.2.1 pc = .ok (.iaload, 1)) : pt_Go Y (pc, L, pt_i j :: pt_r k i :: st, M) (pc + 1, L, pt_i (pt_A M k i (pt_nt j)) :: st, M) := by
  obtain ⟨k, rfl⟩ := pt_ak0 ha
  intro p l e s m args below meth c D ad cA A cells slots Q hC hA H locs ls g1 g2 g3 g4
  obtain ⟨hx, hb, hr, hml, hown, hts, hlk, hW, hAd⟩ := hC
  exact va_iald hx hb hW.1 (g1.at hi (pt_ce_a (pt_ob_ak ha) ha (by decide))) 0 0 rfl rfl (pt_in_vp hj) hd (hA H locs ls g1 g2 g3 g4)
theorem pt_bald {Y : pt_Y} {pc k i n : Nat} {j : Int32} {L : List (Nat × pt_V)} {st : List pt_V} {M : pt_M} (ha : pt_ak k = some (1, n)) (hi : i < pt_ct k) (hj : pt_in j n) (hd : decode Y.2.1 pc = .ok (.baload, 1)) : pt_Go Y (pc, L, pt_i j :: pt_r k i :: st, M) (pc + 1, L, pt_i (pt_A M k i (pt_nt j)) :: st, M) := by
  obtain ⟨k, rfl⟩ := pt_ak0 ha
  intro p l e s m args below meth c D ad cA A cells slots Q hC hA H locs ls g1 g2 g3 g4
  obtain ⟨hx, hb, hr, hml, hown, hts, hlk, hW, hAd⟩ := hC
  exact va_bald hx hb hW.1 (g1.at hi (pt_ce_a (pt_ob_ak ha) ha (by decide))) 0 1 rfl rfl (pt_in_vp hj) hd (hA H locs ls g1 g2 g3 g4)
theorem pt_lald {Y : pt_Y} {pc k i n : Nat} {j : Int32} {L : List (Nat × pt_V)} {st : List pt_V} {M : pt_M} (ha : pt_ak k = some (2, n)) (hi : i < pt_ct k) (hj : pt_in j n) (hd : decode Y.2.1 pc = .ok (.laload, 1)) : pt_Go Y (pc, L, pt_i j :: pt_r k i :: st, M) (pc + 1, L, pt_l (pt_G M k (pt_nt j)) :: st, M) := by
  obtain ⟨k, rfl⟩ := pt_ak0 ha
  intro p l e s m args below meth c D ad cA A cells slots Q hC hA H locs ls g1 g2 g3 g4
  obtain ⟨hx, hb, hr, hml, hown, hts, hlk, hW, hAd⟩ := hC
  exact va_lald hx hb hW.1 (g1.at hi (pt_ce_l (pt_ob_ak ha) ha)) 0 2 rfl rfl (pt_in_vp hj) hd (hA H locs ls g1 g2 g3 g4)
theorem pt_aald {Y : pt_Y} {pc k i n : Nat} {j : Int32} {L : List (Nat × pt_V)} {st : List pt_V} {M : pt_M} (ha : pt_ak k = some (3, n)) (hi : i < pt_ct k) (hj : pt_in j n) (hd : decode Y.2.1 pc = .ok (.aaload, 1)) : pt_Go Y (pc, L, pt_i j :: pt_r k i :: st, M) (pc + 1, L, pt_r 3 (pt_R M (pt_nt j + 1)) :: st, M) := by
  obtain ⟨k, rfl⟩ := pt_ak0 ha
  intro p l e s m args below meth c D ad cA A cells slots Q hC hA H locs ls g1 g2 g3 g4
  obtain ⟨hx, hb, hr, hml, hown, hts, hlk, hW, hAd⟩ := hC
  exact va_aldq hx hb hW.1 (g1.at hi (pt_ce_q (pt_ob_ak ha) ha)) 0 3 rfl rfl (pt_in_vp hj) hd (hA H locs ls g1 g2 g3 g4)
theorem pt_xald {Y : pt_Y} {pc k n : Nat} {f : Nat → Int32} {j : Int32} {L : List (Nat × pt_V)} {st : List pt_V} {M : pt_M} (ha : pt_ro M k = some (n, f)) (hj : pt_in j n) (hd : decode Y.2.1 pc = .ok (.iaload, 1)) : pt_Go Y (pc, L, pt_i j :: pt_r k 0 :: st, M) (pc + 1, L, pt_i (f (pt_nt j)) :: st, M) := by
  obtain ⟨k, rfl⟩ : ∃ n, k = n + 1 := by
    apply pt_k1
    rintro rfl
    cases ha
  intro p l e s m args below meth c D ad cA A cells slots Q hC hA H locs ls g1 g2 g3 g4
  obtain ⟨hx, hb, hr, hml, hown, hts, hlk, hW, hAd⟩ := hC
  obtain ⟨hX, hnA⟩ := g2.1 _ _ ha
  have hlt : ad (k + 1) 0 < s.heap.size := by
    obtain ⟨scr, h1, -⟩ := hX
    exact (Array.getElem?_eq_some_iff.mp h1).1
  exact px_sld hx hb hX hlt hnA g3 (pt_in_vp hj) hd (hA H locs ls g1 g2 g3 g4)
theorem pt_xlen {Y : pt_Y} {pc k n : Nat} {f : Nat → Int32} {L : List (Nat × pt_V)} {st : List pt_V} {M : pt_M} (ha : pt_ro M k = some (n, f)) (hd : decode Y.2.1 pc = .ok (.arraylength, 1)) : pt_Go Y (pc, L, pt_r k 0 :: st, M) (pc + 1, L, pt_i (nI n) :: st, M) := by
  obtain ⟨k, rfl⟩ : ∃ n, k = n + 1 := by
    apply pt_k1
    rintro rfl
    cases ha
  intro p l e s m args below meth c D ad cA A cells slots Q hC hA H locs ls g1 g2 g3 g4
  obtain ⟨hx, hb, hr, hml, hown, hts, hlk, hW, hAd⟩ := hC
  obtain ⟨hX, hnA⟩ := g2.1 _ _ ha
  have hlt : ad (k + 1) 0 < s.heap.size := by
    obtain ⟨scr, h1, -⟩ := hX
    exact (Array.getElem?_eq_some_iff.mp h1).1
  exact px_slen hx hb hX hlt hnA g3 hd (hA H locs ls g1 g2 g3 g4)
theorem pt_alen {Y : pt_Y} {pc k i t n : Nat} {L : List (Nat × pt_V)} {st : List pt_V} {M : pt_M} (ha : pt_ak k = some (t, n)) (ht : t < 2) (hi : i < pt_ct k) (hd : decode Y.2.1 pc = .ok (.arraylength, 1)) : pt_Go Y (pc, L, pt_r k i :: st, M) (pc + 1, L, pt_i (nI n) :: st, M) := by
  obtain ⟨k, rfl⟩ := pt_ak0 ha
  intro p l e s m args below meth c D ad cA A cells slots Q hC hA H locs ls g1 g2 g3 g4
  obtain ⟨hx, hb, hr, hml, hown, hts, hlk, hW, hAd⟩ := hC
  have hP := g1.at hi (pt_ce_a (ad := ad) (cA := cA) (M := M) (i := i) (pt_ob_ak ha) ha ht)
  match t, ht, hP with
  | 0, _, hP => exact va_alen hx hb hW.1 hP 0 0 rfl rfl rfl hd (hA H locs ls g1 g2 g3 g4)
  | 1, _, hP => exact va_alen hx hb hW.1 hP 0 1 rfl rfl rfl hd (hA H locs ls g1 g2 g3 g4)
/-- arrays: writing -/
theorem pt_iast {Y : pt_Y} {pc k i n : Nat} {j x : Int32} {L : List (Nat × pt_V)} {st : List pt_V} {M : pt_M} (ha : pt_ak k = some (0, n)) (hi : i < pt_ct k) (hj : pt_in j n) (hd : decode Y.2.1 pc = .ok (.iastore, 1)) : pt_Go Y (pc, L, pt_i x :: pt_i j :: pt_r k i :: st, M) (pc + 1, L, st, pt_wA M k i (upd (pt_A M k i) (pt_nt j) x)) := by
  obtain ⟨k, rfl⟩ := pt_ak0 ha
  intro p l e s m args below meth c D ad cA A cells slots Q hC hA H locs ls g1 g2 g3 g4
  obtain ⟨hx, hb, hr, hml, hown, hts, hlk, hW, hAd⟩ := hC
  have hce := pt_ce_a (ad := ad) (cA := cA) (M := M) (i := i) (pt_ob_ak ha) ha (by decide)
  have hdm := pt_dm_of hi hce
  refine pt_iastW hx hb hW.1 g3 0 (g1 _ _ _ hi hce) rfl (pt_in_vp hj) (hAd _ _ hdm) hd fun H1 locs1 e1 e2 e3 => ?_
  refine hA H1 locs1 ls ?_ g2 e3 g4
  refine g1.put hW hdm (pt_ce_a (pt_ob_ak ha) ha (by decide)) ?_ e2 (fun k' i' _ h => pt_ce_wA h)
  rw [pt_A_wA]
  exact e1
theorem pt_bast {Y : pt_Y} {pc k i n : Nat} {j x : Int32} {L : List (Nat × pt_V)} {st : List pt_V} {M : pt_M} (ha : pt_ak k = some (1, n)) (hi : i < pt_ct k) (hj : pt_in j n) (hd : decode Y.2.1 pc = .ok (.bastore, 1)) : pt_Go Y (pc, L, pt_i x :: pt_i j :: pt_r k i :: st, M) (pc + 1, L, st, pt_wA M k i (upd (pt_A M k i) (pt_nt j) x.toInt8.toInt32)) := by
  obtain ⟨k, rfl⟩ := pt_ak0 ha
  intro p l e s m args below meth c D ad cA A cells slots Q hC hA H locs ls g1 g2 g3 g4
  obtain ⟨hx, hb, hr, hml, hown, hts, hlk, hW, hAd⟩ := hC
  have hce := pt_ce_a (ad := ad) (cA := cA) (M := M) (i := i) (pt_ob_ak ha) ha (by decide)
  have hdm := pt_dm_of hi hce
  refine pt_bastW hx hb hW.1 g3 1 (g1 _ _ _ hi hce) rfl (pt_in_vp hj) (hAd _ _ hdm) hd fun H1 locs1 e1 e2 e3 => ?_
  refine hA H1 locs1 ls ?_ g2 e3 g4
  refine g1.put hW hdm (pt_ce_a (pt_ob_ak ha) ha (by decide)) ?_ e2 (fun k' i' _ h => pt_ce_wA h)
  rw [pt_A_wA]
  exact e1
theorem pt_last {Y : pt_Y} {pc k n : Nat} {j : Int32} {x : Int64} {L : List (Nat × pt_V)} {st : List pt_V} {M : pt_M} (ha : pt_ak k = some (2, n)) (h1 : pt_ct k = 1) (hj : pt_in j n) (hd : decode Y.2.1 pc = .ok (.lastore, 1)) : pt_Go Y (pc, L, pt_l x :: pt_i j :: pt_r k 0 :: st, M) (pc + 1, L, st, pt_wG M k (vp_updL (pt_G M k) (pt_nt j) x)) := by
  have hi : 0 < pt_ct k := by omega
  obtain ⟨k, rfl⟩ := pt_ak0 ha
  intro p l e s m args below meth c D ad cA A cells slots Q hC hA H locs ls g1 g2 g3 g4
  obtain ⟨hx, hb, hr, hml, hown, hts, hlk, hW, hAd⟩ := hC
  have hce := pt_ce_l (ad := ad) (cA := cA) (M := M) (i := 0) (pt_ob_ak ha) ha
  have hdm := pt_dm_of hi hce
  refine pt_lastW hx hb hW.1 g3 2 (g1 _ _ _ hi hce) rfl (pt_in_vp hj) (hAd _ _ hdm) hd fun H1 locs1 e1 e2 e3 => ?_
  refine hA H1 locs1 ls ?_ g2 e3 g4
  refine g1.put hW hdm (pt_ce_l (pt_ob_ak ha) ha) ?_ e2 (fun k' i' hi9 h => pt_ce_wG (fun z => h ⟨z, by rw [z] at hi9; omega⟩))
  rw [pt_G_wG]
  exact e1
theorem pt_aast {Y : pt_Y} {pc t : Nat} {j : Int32} {L : List (Nat × pt_V)} {st : List pt_V} {M : pt_M} (ht : t < 7) (hj : pt_in j 6) (hd : decode Y.2.1 pc = .ok (.aastore, 1)) : pt_Go Y (pc, L, pt_r 3 t :: pt_i j :: pt_r 10 0 :: st, M) (pc + 1, L, st, pt_wR M (pt_nt j + 1) t) := by
  intro p l e s m args below meth c D ad cA A cells slots Q hC hA H locs ls g1 g2 g3 g4
  obtain ⟨hx, hb, hr, hml, hown, hts, hlk, hW, hAd⟩ := hC
  have hi : 0 < pt_ct 10 := by decide
  have hce := pt_ce_q (ad := ad) (cA := cA) (M := M) (i := 0) (k := 10) (n := 6) rfl rfl
  have hdm := pt_dm_of hi hce
  have hv := g1 3 t _ ht (pt_ce_o (ad := ad) (cA := cA) (M := M) (i := t) (k := 3) (ci := 2) (n := 6) rfl)
  refine pt_aastW (r := (RX4, TX4, 6)) hx hb hW.1 g3 3 2 (g1 _ _ _ hi hce) rfl hv rfl (pt_in_vp hj) (hAd _ _ hdm) hd fun H1 locs1 e1 e2 e3 => ?_
  refine hA H1 locs1 ls ?_ g2 e3 g4
  refine g1.put hW hdm (pt_ce_q (ad := ad) (cA := cA) (M := pt_wR M (pt_nt j + 1) t) (i := 0) (k := 10) (n := 6) rfl rfl) ?_ e2 (fun k' i' hi9 h => ?_)
  · have : (fun p => some (ad 3 (pt_R (pt_wR M (pt_nt j + 1) t) (p + 1)))) = va_up (fun p => some (ad 3 (pt_R M (p + 1)))) j.toNatClampNeg (some (ad 3 t)) := by
      funext q
      show some (ad 3 (if q + 1 = pt_nt j + 1 then t else _)) = if q = _ then _ else _
      by_cases hq : q = j.toNatClampNeg
      · rw [if_pos hq, if_pos (by rw [hq]; rfl)]
      · rw [if_neg hq, if_neg (show ¬ q + 1 = pt_nt j + 1 from fun z => hq (Nat.succ.inj z))]
        rfl
    rw [this]
    exact e1
  · unfold pt_ce
    cases hk : pt_ob k' with
    | some q =>
      simp only [Option.some.injEq, Sum.inr.injEq, Prod.mk.injEq, true_and]
      apply List.map_congr_left
      intro f hf9
      congr 1
    | none =>
      dsimp only
      unfold pt_ak
      split
      all_goals first | rfl | skip
      all_goals (rename_i hz; split at hz)
      all_goals first | (cases hz; done) | (exfalso; exact h ⟨rfl, Nat.lt_one_iff.mp hi9⟩) | skip
