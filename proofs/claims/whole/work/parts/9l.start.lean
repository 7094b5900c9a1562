/-! what the Statement gives of the start -/
theorem ze_t {args : Array Value} {s : State} (hts : ∀ w ∈ lw_tbl, w.before args s = true) (i : Nat) {w : Cond} (h : lw_tbl[i]? = some w) : w.before args s = true := hts w (List.mem_of_getElem? h)
theorem ze_arr {args : Array Value} {s : State} {nm : String} {N : Nat} {f : Nat → Int32} {A : Nat → Prop} (hN : N < 2 ^ 31) (hl : (Cond.laysStatic "PointTables" nm "[I").before args s = true) (hini : (Cond.initialized "PointTables").before args s = true) (harr : (Cond.arrayOf (.static "PointTables" nm "[I") .int).before args s = true) (hlen : (Cond.eq (.length (.static "PointTables" nm "[I")) (.int (Int32.ofNat N))).before args s = true) (hel : ∀ j : Nat, j < N → (Cond.eq (.elem (.static "PointTables" nm "[I") (.int (Int32.ofNat j))) (.int (f j))).before args s = true) (hA : ∀ a : Nat, a < s.heap.size → ¬ A a) :
    ∃ t : Nat, va_Z "PointTables" nm "[I" (.ref t) A s s.heap ∧ px_X t N f s s.heap ∧ ¬ A t := by
  obtain ⟨t, ht, hT⟩ := va_Tof (f := fun j => .int (f j)) (A := A) hN harr (va_eqt hlen) (fun j hj => va_eqt (hel j hj)) hA
  refine ⟨t, va_Zref hl hini ht hA, px_T hT (fun _ _ => rfl), ?_⟩
  obtain ⟨cell, -, -, -, -, -, -, h⟩ := hT
  exact h
theorem ze_6 : ((List.range 16).all fun j => decide (Cond.eq (.elem (.static "PointTables" "KINDS_OF_6" "[I") (.int (Int32.ofNat j))) (.int ([0, 1, 3, 7, 15, 23, 31, 63, 76, 183, 191, 254, 255, 510, 531, 947].getD j 0)) ∈ flatC (Cond.and given_1 narrow_1))) = true := by decide +kernel
theorem ze_5 : ((List.range 3).all fun j => decide (Cond.eq (.elem (.static "PointTables" "KINDS_OF_5" "[I") (.int (Int32.ofNat j))) (.int ([0, 1, 7].getD j 0)) ∈ flatC (Cond.and given_1 narrow_1))) = true := by decide +kernel
theorem ze_4 : ((List.range 2).all fun j => decide (Cond.eq (.elem (.static "PointTables" "KINDS_OF_4" "[I") (.int (Int32.ofNat j))) (.int ([0, 1].getD j 0)) ∈ flatC (Cond.and given_1 narrow_1))) = true := by decide +kernel
theorem ze_3 : ((List.range 1).all fun j => decide (Cond.eq (.elem (.static "PointTables" "KINDS_OF_3" "[I") (.int (Int32.ofNat j))) (.int 0) ∈ flatC (Cond.and given_1 narrow_1))) = true := by decide +kernel
theorem ze_ro {b L : Nat} {xs : Nat → Int32} {args : Array Value} {s : State} {A : Nat → Prop} (hts : ∀ w ∈ lw_tbl, w.before args s = true) (hgv : (Cond.and given_1 narrow_1).before args s = true) (hX : va_X b L xs s s.heap) (hbl : b < s.heap.size) (hA : ∀ a : Nat, a < s.heap.size → ¬ A a) : ∃ a5 : Nat → Nat, pt_Ro (ad0 b s.heap.size a5) A (m0_M L xs) s := by
  have hs := flat_of_before _ hgv
  have hini : (Cond.initialized "PointTables").before args s = true := ze_t hts 52 (by decide +kernel)
  obtain ⟨t0, z0, x0, n0⟩ := ze_arr (nm := "NO_KINDS") (N := 0) (f := fun _ => 0) (A := A) (by decide) (ze_t hts 555 (by decide +kernel)) hini (hs _ (by decide +kernel)) (hs _ (by decide +kernel)) (fun j hj => absurd hj (Nat.not_lt_zero j)) hA
  obtain ⟨t3, z3, x3, n3⟩ := ze_arr (nm := "KINDS_OF_3") (N := 1) (f := fun _ => 0) (A := A) (by decide) (ze_t hts 547 (by decide +kernel)) hini (hs _ (by decide +kernel)) (hs _ (by decide +kernel)) (fun j hj => hs _ (of_decide_eq_true (pt_all ze_3 hj))) hA
  obtain ⟨t4, z4, x4, n4⟩ := ze_arr (nm := "KINDS_OF_4") (N := 2) (f := fun j => [0, 1].getD j 0) (A := A) (by decide) (ze_t hts 549 (by decide +kernel)) hini (hs _ (by decide +kernel)) (hs _ (by decide +kernel)) (fun j hj => hs _ (of_decide_eq_true (pt_all ze_4 hj))) hA
  obtain ⟨t5, z5, x5, n5⟩ := ze_arr (nm := "KINDS_OF_5") (N := 3) (f := fun j => [0, 1, 7].getD j 0) (A := A) (by decide) (ze_t hts 551 (by decide +kernel)) hini (hs _ (by decide +kernel)) (hs _ (by decide +kernel)) (fun j hj => hs _ (of_decide_eq_true (pt_all ze_5 hj))) hA
  obtain ⟨t6, z6, x6, n6⟩ := ze_arr (nm := "KINDS_OF_6") (N := 16) (f := fun j => [0, 1, 3, 7, 15, 23, 31, 63, 76, 183, 191, 254, 255, 510, 531, 947].getD j 0) (A := A) (by decide) (ze_t hts 553 (by decide +kernel)) hini (hs _ (by decide +kernel)) (hs _ (by decide +kernel)) (fun j hj => hs _ (of_decide_eq_true (pt_all ze_6 hj))) hA
  refine ⟨fun k => match k with | 60 => t0 | 61 => t3 | 62 => t4 | 63 => t5 | _ => t6, fun k q hq => ?_, fun k nm hn => ?_⟩
  · unfold pt_ro at hq
    split at hq
    · cases hq
      exact ⟨px_of hX, hA b hbl⟩
    · cases hq
      exact ⟨x0, n0⟩
    · cases hq
      exact ⟨x3, n3⟩
    · cases hq
      exact ⟨x4, n4⟩
    · cases hq
      exact ⟨x5, n5⟩
    · cases hq
      exact ⟨x6, n6⟩
    · cases hq
  · unfold pt_sn at hn
    split at hn
    · cases hn
      exact z0
    · cases hn
      exact z3
    · cases hn
      exact z4
    · cases hn
      exact z5
    · cases hn
      exact z6
    · cases hn
theorem ze_str {args : Array Value} {s : State} {k : Nat} {tx : String} (h1 : (Cond.stringRef RX6 k tx).before args s = true) (h2 : (Cond.exactly (.string RX6 k) "java/lang/String").before args s = true) : ∃ a : Nat, vk_R RX6 k tx a s := by
  obtain ⟨a, -, -, -, q, -⟩ := Cond.exactly_spec (args := args) (first := s) (o := none) (s := s) (idx := []) (t := .string RX6 k) (cls := "java/lang/String") h2
  exact ⟨a, vk_R.of h1 q⟩
theorem ze_F {args : Array Value} {s : State} {A : Nat → Prop} (hts : ∀ w ∈ lw_tbl, w.before args s = true) (hgv : (Cond.and given_1 narrow_1).before args s = true) (hA : ∀ a : Nat, a < s.heap.size → ¬ A a) : ∃ sa : Nat → Nat, thw_F sa A s := by
  have hs := flat_of_before _ hgv
  obtain ⟨a0, h0⟩ := ze_str (k := 179) (tx := "no lawful table") (ze_t hts 618 (by decide +kernel)) (hs _ (by decide +kernel))
  obtain ⟨a1, h1⟩ := ze_str (k := 184) (tx := "no such point of the rim") (ze_t hts 645 (by decide +kernel)) (hs _ (by decide +kernel))
  obtain ⟨a2, h2⟩ := ze_str (k := 239) (tx := "no such byte of OUT") (ze_t hts 657 (by decide +kernel)) (hs _ (by decide +kernel))
  have hini : (Cond.initialized Bundle.tN).before args s = true := ze_t hts 63 (by decide +kernel)
  exact ⟨fun i => match i with | 0 => a0 | 1 => a1 | _ => a2, ⟨h0, h1, h2⟩, ⟨vx_Zqof (ze_t hts 606 (by decide +kernel)) hini (hs _ (by decide +kernel)) hA, vx_Zqof (ze_t hts 608 (by decide +kernel)) hini (hs _ (by decide +kernel)) hA⟩, va_Nw.of rfl (ze_t hts 581 (by decide +kernel)), va_Nw.of rfl (ze_t hts 583 (by decide +kernel)), va_Nw.of rfl (ze_t hts 585 (by decide +kernel)), va_Nw.of rfl (ze_t hts 587 (by decide +kernel))⟩
theorem ze_X {args : Array Value} {s : State} (hts : ∀ w ∈ lw_tbl, w.before args s = true) : nw0_X s ∧ pt_nw s :=
  ⟨⟨va_AO.of (ze_t hts 77 (by decide +kernel)), va_Nw.of rfl (ze_t hts 79 (by decide +kernel)), va_Nw.of rfl (ze_t hts 116 (by decide +kernel)), va_Nw.of rfl (ze_t hts 131 (by decide +kernel)), va_Nw.of rfl (ze_t hts 141 (by decide +kernel))⟩, va_Nw.of rfl (ze_t hts 437 (by decide +kernel)), va_Nw.of rfl (ze_t hts 476 (by decide +kernel))⟩
