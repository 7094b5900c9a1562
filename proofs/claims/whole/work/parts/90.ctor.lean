theorem dX5_init_0 : decode cX5_init 0 = .ok (.aload_n 0, 1) := by decide +kernel
theorem dX5_init_1 : decode cX5_init 1 = .ok (.invokespecial 3, 3) := by decide +kernel
theorem dX5_init_4 : decode cX5_init 4 = .ok (.aload_n 0, 1) := by decide +kernel
theorem dX5_init_5 : decode cX5_init 5 = .ok (.sipush 140, 3) := by decide +kernel
theorem dX5_init_8 : decode cX5_init 8 = .ok (.newarray .int, 2) := by decide +kernel
theorem dX5_init_10 : decode cX5_init 10 = .ok (.putfield 9, 3) := by decide +kernel
theorem dX5_init_13 : decode cX5_init 13 = .ok (.aload_n 0, 1) := by decide +kernel
theorem dX5_init_14 : decode cX5_init 14 = .ok (.iconst 0, 1) := by decide +kernel
theorem dX5_init_15 : decode cX5_init 15 = .ok (.putfield 15, 3) := by decide +kernel
theorem dX5_init_18 : decode cX5_init 18 = .ok (.return_, 1) := by decide +kernel
theorem pt_tyX5 : ∀ j, j < 2 → pt_t0 TX5 j = tyX5 j := fun j hj => by
  unfold pt_t0
  rw [tyX5_ok j hj]
  rfl
set_option maxHeartbeats 4000000 in
set_option maxRecDepth 100000 in
theorem nw0_X5_init (l : Launch) (D : va_G) (cA : Nat → ClassId) : nw0_C l D cA (fun _ => True) yX5_init cX5_init 1 { frames := 1, cells := 1, slots := 140, locals := 12 } 3 [.null, .int 0] 1 140 (fun h0 => [.inr (3, [.ref (h0 + 1), .int 0]), .inl (cA 0, 140, .inl fun _ => 0)]) := by
  intro h0
  refine Met.ofW (cc := cX5_init) (maxL := 1) (ret := none) (by decide) rfl ?_
  intro p e s m args below meth c s₁ B hml hv
  obtain ⟨rfl, hP, hK, -⟩ := hv
  have hx := B.exec
  have hb := B.bytes
  have hr := B.returns
  have hts0 := atoms_spec (ws := Cond.code yX5_init cX5_init 1 none :: pt_tb) B.pre
  have hts : ∀ w ∈ pt_tb, w.before _ s = true := fun w hw => hts0 w (List.mem_cons_of_mem _ hw)
  have hown : s.vm.findClass RX5 = some m.cls := findClass_of_methodNamed B.named
  have hin : meth.name = "<init>" := (name_of_methodNamed B.named B.method).1
  have hS : va_S (nw0_A h0) s.heap s.heap [] := va_S.rf
  have hl := lv_entry ([.ref h0]) (n := 1) (Nat.le_of_ble_eq_true rfl)
  rw [lg_entry_eq]
  generalize (lg_sl ([.ref h0]) ++ List.replicate (1 - (lg_sl ([.ref h0])).length) Slot.unset).toArray = ls at hl ⊢
  have hl : lv_has ls 1 [(0, .ref h0)] := hl
  refine lv_aload_n hx hb dX5_init_0 rfl (lv_at hl 0 rfl) ?_
  refine W.objInit hx hb hown (hts _ (pt_wi_ok (i := 119) (by decide +kernel))) (hts _ (pt_wi_ok (i := 74) (by decide +kernel))) (hts _ (pt_wi_ok (i := 75) (by decide +kernel))) rfl (by rw [hml]; exact hl.1) rfl dX5_init_1 (Nat.le_of_ble_eq_true rfl) (Nat.le_of_ble_eq_true rfl) ?_
  refine W.eq (g2 := F0 m 4 ls []) rfl ?_
  refine lv_aload_n hx hb dX5_init_4 rfl (lv_at hl 0 rfl) ?_
  refine lv_sipush (v := 140) hx hb dX5_init_5 (by decide) ?_
  refine nw0_arr (atype := .int) (t := 0) (nn := 140) (a0 := (140, .inl fun _ => 0)) hx hb hts hK hP hS (pt_wi_ok (i := 113) (by decide +kernel)) rfl (fun _ => vp_cell_i _ _ _) (by decide +kernel) (by decide +kernel) (Nat.le_of_ble_eq_true rfl) (Nat.le_of_ble_eq_true rfl) (Nat.le_of_ble_eq_true rfl) dX5_init_8 fun H hP hS => ?_
  have hP : nw0_P D h0 [.inr (3, [.null, .int 0]), .inl (cA 0, 140, .inl fun _ => 0)] H := hP
  refine nw0_putG (v := .ref (h0 + 1)) (b := h0) (j0 := 0) (k := 0) (ci := 3) hx hb hts hown hK hP hS hin rfl rfl (by decide) (pt_wi_ok (i := 120) (by decide +kernel)) rfl rfl (by rw [pt_tyX5 0 (by decide)]; rfl) (by rw [pt_tyX5 0 (by decide)]; rfl) (Nat.le_of_ble_eq_true rfl) dX5_init_10 fun H locs hP hS => ?_
  have hP : nw0_P D h0 [.inr (3, [.ref (h0 + 1), .int 0]), .inl (cA 0, 140, .inl fun _ => 0)] H := hP
  refine lv_aload_n hx hb dX5_init_13 rfl (lv_at hl 0 rfl) ?_
  refine lv_iconst (v := 0) hx hb dX5_init_14 (by decide) ?_
  refine nw0_put (v := .int 0) (b := h0) (j0 := 0) (k := 1) (ci := 3) hx hb hts hown hK hP hS rfl rfl (by decide) (pt_wi_ok (i := 121) (by decide +kernel)) rfl (by rw [pt_tyX5 1 (by decide)]; rfl) (by rw [pt_tyX5 1 (by decide)]; rfl) (Nat.le_of_ble_eq_true rfl) dX5_init_15 fun H locs hP hS => ?_
  have hP : nw0_P D h0 [.inr (3, [.ref (h0 + 1), .int 0]), .inl (cA 0, 140, .inl fun _ => 0)] H := hP
  refine W.widen (k := 1) (n := 140) (Nat.le_of_ble_eq_true rfl) (Nat.le_of_ble_eq_true rfl) ?_
  exact W.vret hx hb hr (fun t ht hW => ⟨⟨(), rfl, trivial, by dsimp only; rw [ht]; exact hP⟩, hS.F ht⟩) hS.2.2 dX5_init_18
theorem dX0_init_0 : decode cX0_init 0 = .ok (.aload_n 0, 1) := by decide +kernel
theorem dX0_init_1 : decode cX0_init 1 = .ok (.invokespecial 3, 3) := by decide +kernel
theorem dX0_init_4 : decode cX0_init 4 = .ok (.aload_n 0, 1) := by decide +kernel
theorem dX0_init_5 : decode cX0_init 5 = .ok (.bipush 10, 2) := by decide +kernel
theorem dX0_init_7 : decode cX0_init 7 = .ok (.newarray .int, 2) := by decide +kernel
theorem dX0_init_9 : decode cX0_init 9 = .ok (.putfield 9, 3) := by decide +kernel
theorem dX0_init_12 : decode cX0_init 12 = .ok (.return_, 1) := by decide +kernel
theorem pt_tyX0 : ∀ j, j < 1 → pt_t0 TX0 j = tyX0 j := fun j hj => by
  unfold pt_t0
  rw [tyX0_ok j hj]
  rfl
set_option maxHeartbeats 4000000 in
set_option maxRecDepth 100000 in
theorem nw0_X0_init (l : Launch) (D : va_G) (cA : Nat → ClassId) : nw0_C l D cA (fun _ => True) yX0_init cX0_init 1 { frames := 1, cells := 1, slots := 10, locals := 12 } 0 [.null] 1 10 (fun h0 => [.inr (0, [.ref (h0 + 1)]), .inl (cA 0, 10, .inl fun _ => 0)]) := by
  intro h0
  refine Met.ofW (cc := cX0_init) (maxL := 1) (ret := none) (by decide) rfl ?_
  intro p e s m args below meth c s₁ B hml hv
  obtain ⟨rfl, hP, hK, -⟩ := hv
  have hx := B.exec
  have hb := B.bytes
  have hr := B.returns
  have hts0 := atoms_spec (ws := Cond.code yX0_init cX0_init 1 none :: pt_tb) B.pre
  have hts : ∀ w ∈ pt_tb, w.before _ s = true := fun w hw => hts0 w (List.mem_cons_of_mem _ hw)
  have hown : s.vm.findClass RX0 = some m.cls := findClass_of_methodNamed B.named
  have hin : meth.name = "<init>" := (name_of_methodNamed B.named B.method).1
  have hS : va_S (nw0_A h0) s.heap s.heap [] := va_S.rf
  have hl := lv_entry ([.ref h0]) (n := 1) (Nat.le_of_ble_eq_true rfl)
  rw [lg_entry_eq]
  generalize (lg_sl ([.ref h0]) ++ List.replicate (1 - (lg_sl ([.ref h0])).length) Slot.unset).toArray = ls at hl ⊢
  have hl : lv_has ls 1 [(0, .ref h0)] := hl
  refine lv_aload_n hx hb dX0_init_0 rfl (lv_at hl 0 rfl) ?_
  refine W.objInit hx hb hown (hts _ (pt_wi_ok (i := 134) (by decide +kernel))) (hts _ (pt_wi_ok (i := 74) (by decide +kernel))) (hts _ (pt_wi_ok (i := 75) (by decide +kernel))) rfl (by rw [hml]; exact hl.1) rfl dX0_init_1 (Nat.le_of_ble_eq_true rfl) (Nat.le_of_ble_eq_true rfl) ?_
  refine W.eq (g2 := F0 m 4 ls []) rfl ?_
  refine lv_aload_n hx hb dX0_init_4 rfl (lv_at hl 0 rfl) ?_
  refine lv_bipush (v := 10) hx hb dX0_init_5 (by decide) ?_
  refine nw0_arr (atype := .int) (t := 0) (nn := 10) (a0 := (10, .inl fun _ => 0)) hx hb hts hK hP hS (pt_wi_ok (i := 113) (by decide +kernel)) rfl (fun _ => vp_cell_i _ _ _) (by decide +kernel) (by decide +kernel) (Nat.le_of_ble_eq_true rfl) (Nat.le_of_ble_eq_true rfl) (Nat.le_of_ble_eq_true rfl) dX0_init_7 fun H hP hS => ?_
  have hP : nw0_P D h0 [.inr (0, [.null]), .inl (cA 0, 10, .inl fun _ => 0)] H := hP
  refine nw0_putG (v := .ref (h0 + 1)) (b := h0) (j0 := 0) (k := 0) (ci := 0) hx hb hts hown hK hP hS hin rfl rfl (by decide) (pt_wi_ok (i := 135) (by decide +kernel)) rfl rfl (by rw [pt_tyX0 0 (by decide)]; rfl) (by rw [pt_tyX0 0 (by decide)]; rfl) (Nat.le_of_ble_eq_true rfl) dX0_init_9 fun H locs hP hS => ?_
  have hP : nw0_P D h0 [.inr (0, [.ref (h0 + 1)]), .inl (cA 0, 10, .inl fun _ => 0)] H := hP
  refine W.widen (k := 1) (n := 10) (Nat.le_of_ble_eq_true rfl) (Nat.le_of_ble_eq_true rfl) ?_
  exact W.vret hx hb hr (fun t ht hW => ⟨⟨(), rfl, trivial, by dsimp only; rw [ht]; exact hP⟩, hS.F ht⟩) hS.2.2 dX0_init_12
theorem dX4_init_0 : decode cX4_init 0 = .ok (.aload_n 0, 1) := by decide +kernel
theorem dX4_init_1 : decode cX4_init 1 = .ok (.invokespecial 3, 3) := by decide +kernel
theorem dX4_init_4 : decode cX4_init 4 = .ok (.aload_n 0, 1) := by decide +kernel
theorem dX4_init_5 : decode cX4_init 5 = .ok (.iconst 0, 1) := by decide +kernel
theorem dX4_init_6 : decode cX4_init 6 = .ok (.putfield 9, 3) := by decide +kernel
theorem dX4_init_9 : decode cX4_init 9 = .ok (.aload_n 0, 1) := by decide +kernel
theorem dX4_init_10 : decode cX4_init 10 = .ok (.bipush 100, 2) := by decide +kernel
theorem dX4_init_12 : decode cX4_init 12 = .ok (.newarray .int, 2) := by decide +kernel
theorem dX4_init_14 : decode cX4_init 14 = .ok (.putfield 15, 3) := by decide +kernel
theorem dX4_init_17 : decode cX4_init 17 = .ok (.aload_n 0, 1) := by decide +kernel
theorem dX4_init_18 : decode cX4_init 18 = .ok (.bipush (-2), 2) := by decide +kernel
theorem dX4_init_20 : decode cX4_init 20 = .ok (.putfield 19, 3) := by decide +kernel
theorem dX4_init_23 : decode cX4_init 23 = .ok (.aload_n 0, 1) := by decide +kernel
theorem dX4_init_24 : decode cX4_init 24 = .ok (.iconst 0, 1) := by decide +kernel
theorem dX4_init_25 : decode cX4_init 25 = .ok (.putfield 22, 3) := by decide +kernel
theorem dX4_init_28 : decode cX4_init 28 = .ok (.aload_n 0, 1) := by decide +kernel
theorem dX4_init_29 : decode cX4_init 29 = .ok (.bipush 120, 2) := by decide +kernel
theorem dX4_init_31 : decode cX4_init 31 = .ok (.newarray .int, 2) := by decide +kernel
theorem dX4_init_33 : decode cX4_init 33 = .ok (.putfield 26, 3) := by decide +kernel
theorem dX4_init_36 : decode cX4_init 36 = .ok (.aload_n 0, 1) := by decide +kernel
theorem dX4_init_37 : decode cX4_init 37 = .ok (.bipush 120, 2) := by decide +kernel
theorem dX4_init_39 : decode cX4_init 39 = .ok (.newarray .int, 2) := by decide +kernel
theorem dX4_init_41 : decode cX4_init 41 = .ok (.putfield 29, 3) := by decide +kernel
theorem dX4_init_44 : decode cX4_init 44 = .ok (.return_, 1) := by decide +kernel
theorem pt_tyX4 : ∀ j, j < 6 → pt_t0 TX4 j = tyX4 j := fun j hj => by
  unfold pt_t0
  rw [tyX4_ok j hj]
  rfl
set_option maxHeartbeats 4000000 in
set_option maxRecDepth 100000 in
theorem nw0_X4_init (l : Launch) (D : va_G) (cA : Nat → ClassId) : nw0_C l D cA (fun _ => True) yX4_init cX4_init 1 { frames := 1, cells := 3, slots := 340, locals := 12 } 2 [.int 0, .null, .int 0, .int 0, .null, .null] 3 340 (fun h0 => [.inr (2, [.int 0, .ref (h0 + 1), .int (-2), .int 0, .ref (h0 + 2), .ref (h0 + 3)]), .inl (cA 0, 100, .inl fun _ => 0), .inl (cA 0, 120, .inl fun _ => 0), .inl (cA 0, 120, .inl fun _ => 0)]) := by
  intro h0
  refine Met.ofW (cc := cX4_init) (maxL := 1) (ret := none) (by decide) rfl ?_
  intro p e s m args below meth c s₁ B hml hv
  obtain ⟨rfl, hP, hK, -⟩ := hv
  have hx := B.exec
  have hb := B.bytes
  have hr := B.returns
  have hts0 := atoms_spec (ws := Cond.code yX4_init cX4_init 1 none :: pt_tb) B.pre
  have hts : ∀ w ∈ pt_tb, w.before _ s = true := fun w hw => hts0 w (List.mem_cons_of_mem _ hw)
  have hown : s.vm.findClass RX4 = some m.cls := findClass_of_methodNamed B.named
  have hin : meth.name = "<init>" := (name_of_methodNamed B.named B.method).1
  have hS : va_S (nw0_A h0) s.heap s.heap [] := va_S.rf
  have hl := lv_entry ([.ref h0]) (n := 1) (Nat.le_of_ble_eq_true rfl)
  rw [lg_entry_eq]
  generalize (lg_sl ([.ref h0]) ++ List.replicate (1 - (lg_sl ([.ref h0])).length) Slot.unset).toArray = ls at hl ⊢
  have hl : lv_has ls 1 [(0, .ref h0)] := hl
  refine lv_aload_n hx hb dX4_init_0 rfl (lv_at hl 0 rfl) ?_
  refine W.objInit hx hb hown (hts _ (pt_wi_ok (i := 82) (by decide +kernel))) (hts _ (pt_wi_ok (i := 74) (by decide +kernel))) (hts _ (pt_wi_ok (i := 75) (by decide +kernel))) rfl (by rw [hml]; exact hl.1) rfl dX4_init_1 (Nat.le_of_ble_eq_true rfl) (Nat.le_of_ble_eq_true rfl) ?_
  refine W.eq (g2 := F0 m 4 ls []) rfl ?_
  refine lv_aload_n hx hb dX4_init_4 rfl (lv_at hl 0 rfl) ?_
  refine lv_iconst (v := 0) hx hb dX4_init_5 (by decide) ?_
  refine nw0_put (v := .int 0) (b := h0) (j0 := 0) (k := 0) (ci := 2) hx hb hts hown hK hP hS rfl rfl (by decide) (pt_wi_ok (i := 83) (by decide +kernel)) rfl (by rw [pt_tyX4 0 (by decide)]; rfl) (by rw [pt_tyX4 0 (by decide)]; rfl) (Nat.le_of_ble_eq_true rfl) dX4_init_6 fun H locs hP hS => ?_
  have hP : nw0_P D h0 [.inr (2, [.int 0, .null, .int 0, .int 0, .null, .null])] H := hP
  refine lv_aload_n hx hb dX4_init_9 rfl (lv_at hl 0 rfl) ?_
  refine lv_bipush (v := 100) hx hb dX4_init_10 (by decide) ?_
  refine nw0_arr (atype := .int) (t := 0) (nn := 100) (a0 := (100, .inl fun _ => 0)) hx hb hts hK hP hS (pt_wi_ok (i := 113) (by decide +kernel)) rfl (fun _ => vp_cell_i _ _ _) (by decide +kernel) (by decide +kernel) (Nat.le_of_ble_eq_true rfl) (Nat.le_of_ble_eq_true rfl) (Nat.le_of_ble_eq_true rfl) dX4_init_12 fun H hP hS => ?_
  have hP : nw0_P D h0 [.inr (2, [.int 0, .null, .int 0, .int 0, .null, .null]), .inl (cA 0, 100, .inl fun _ => 0)] H := hP
  refine nw0_putG (v := .ref (h0 + 1)) (b := h0) (j0 := 0) (k := 1) (ci := 2) hx hb hts hown hK hP hS hin rfl rfl (by decide) (pt_wi_ok (i := 89) (by decide +kernel)) rfl rfl (by rw [pt_tyX4 1 (by decide)]; rfl) (by rw [pt_tyX4 1 (by decide)]; rfl) (Nat.le_of_ble_eq_true rfl) dX4_init_14 fun H locs hP hS => ?_
  have hP : nw0_P D h0 [.inr (2, [.int 0, .ref (h0 + 1), .int 0, .int 0, .null, .null]), .inl (cA 0, 100, .inl fun _ => 0)] H := hP
  refine lv_aload_n hx hb dX4_init_17 rfl (lv_at hl 0 rfl) ?_
  refine lv_bipush (v := (-2)) hx hb dX4_init_18 (by decide) ?_
  refine nw0_put (v := .int (-2)) (b := h0) (j0 := 0) (k := 2) (ci := 2) hx hb hts hown hK hP hS rfl rfl (by decide) (pt_wi_ok (i := 90) (by decide +kernel)) rfl (by rw [pt_tyX4 2 (by decide)]; rfl) (by rw [pt_tyX4 2 (by decide)]; rfl) (Nat.le_of_ble_eq_true rfl) dX4_init_20 fun H locs hP hS => ?_
  have hP : nw0_P D h0 [.inr (2, [.int 0, .ref (h0 + 1), .int (-2), .int 0, .null, .null]), .inl (cA 0, 100, .inl fun _ => 0)] H := hP
  refine lv_aload_n hx hb dX4_init_23 rfl (lv_at hl 0 rfl) ?_
  refine lv_iconst (v := 0) hx hb dX4_init_24 (by decide) ?_
  refine nw0_put (v := .int 0) (b := h0) (j0 := 0) (k := 3) (ci := 2) hx hb hts hown hK hP hS rfl rfl (by decide) (pt_wi_ok (i := 92) (by decide +kernel)) rfl (by rw [pt_tyX4 3 (by decide)]; rfl) (by rw [pt_tyX4 3 (by decide)]; rfl) (Nat.le_of_ble_eq_true rfl) dX4_init_25 fun H locs hP hS => ?_
  have hP : nw0_P D h0 [.inr (2, [.int 0, .ref (h0 + 1), .int (-2), .int 0, .null, .null]), .inl (cA 0, 100, .inl fun _ => 0)] H := hP
  refine lv_aload_n hx hb dX4_init_28 rfl (lv_at hl 0 rfl) ?_
  refine lv_bipush (v := 120) hx hb dX4_init_29 (by decide) ?_
  refine nw0_arr (atype := .int) (t := 0) (nn := 120) (a0 := (120, .inl fun _ => 0)) hx hb hts hK hP hS (pt_wi_ok (i := 113) (by decide +kernel)) rfl (fun _ => vp_cell_i _ _ _) (by decide +kernel) (by decide +kernel) (Nat.le_of_ble_eq_true rfl) (Nat.le_of_ble_eq_true rfl) (Nat.le_of_ble_eq_true rfl) dX4_init_31 fun H hP hS => ?_
  have hP : nw0_P D h0 [.inr (2, [.int 0, .ref (h0 + 1), .int (-2), .int 0, .null, .null]), .inl (cA 0, 100, .inl fun _ => 0), .inl (cA 0, 120, .inl fun _ => 0)] H := hP
  refine nw0_putG (v := .ref (h0 + 2)) (b := h0) (j0 := 0) (k := 4) (ci := 2) hx hb hts hown hK hP hS hin rfl rfl (by decide) (pt_wi_ok (i := 94) (by decide +kernel)) rfl rfl (by rw [pt_tyX4 4 (by decide)]; rfl) (by rw [pt_tyX4 4 (by decide)]; rfl) (Nat.le_of_ble_eq_true rfl) dX4_init_33 fun H locs hP hS => ?_
  have hP : nw0_P D h0 [.inr (2, [.int 0, .ref (h0 + 1), .int (-2), .int 0, .ref (h0 + 2), .null]), .inl (cA 0, 100, .inl fun _ => 0), .inl (cA 0, 120, .inl fun _ => 0)] H := hP
  refine lv_aload_n hx hb dX4_init_36 rfl (lv_at hl 0 rfl) ?_
  refine lv_bipush (v := 120) hx hb dX4_init_37 (by decide) ?_
  refine nw0_arr (atype := .int) (t := 0) (nn := 120) (a0 := (120, .inl fun _ => 0)) hx hb hts hK hP hS (pt_wi_ok (i := 113) (by decide +kernel)) rfl (fun _ => vp_cell_i _ _ _) (by decide +kernel) (by decide +kernel) (Nat.le_of_ble_eq_true rfl) (Nat.le_of_ble_eq_true rfl) (Nat.le_of_ble_eq_true rfl) dX4_init_39 fun H hP hS => ?_
  have hP : nw0_P D h0 [.inr (2, [.int 0, .ref (h0 + 1), .int (-2), .int 0, .ref (h0 + 2), .null]), .inl (cA 0, 100, .inl fun _ => 0), .inl (cA 0, 120, .inl fun _ => 0), .inl (cA 0, 120, .inl fun _ => 0)] H := hP
  refine nw0_putG (v := .ref (h0 + 3)) (b := h0) (j0 := 0) (k := 5) (ci := 2) hx hb hts hown hK hP hS hin rfl rfl (by decide) (pt_wi_ok (i := 97) (by decide +kernel)) rfl rfl (by rw [pt_tyX4 5 (by decide)]; rfl) (by rw [pt_tyX4 5 (by decide)]; rfl) (Nat.le_of_ble_eq_true rfl) dX4_init_41 fun H locs hP hS => ?_
  have hP : nw0_P D h0 [.inr (2, [.int 0, .ref (h0 + 1), .int (-2), .int 0, .ref (h0 + 2), .ref (h0 + 3)]), .inl (cA 0, 100, .inl fun _ => 0), .inl (cA 0, 120, .inl fun _ => 0), .inl (cA 0, 120, .inl fun _ => 0)] H := hP
  refine W.widen (k := 3) (n := 340) (Nat.le_of_ble_eq_true rfl) (Nat.le_of_ble_eq_true rfl) ?_
  exact W.vret hx hb hr (fun t ht hW => ⟨⟨(), rfl, trivial, by dsimp only; rw [ht]; exact hP⟩, hS.F ht⟩) hS.2.2 dX4_init_44
theorem dX3_init_0 : decode cX3_init 0 = .ok (.aload_n 0, 1) := by decide +kernel
theorem dX3_init_1 : decode cX3_init 1 = .ok (.invokespecial 3, 3) := by decide +kernel
theorem dX3_init_4 : decode cX3_init 4 = .ok (.aload_n 0, 1) := by decide +kernel
theorem dX3_init_5 : decode cX3_init 5 = .ok (.bipush 45, 2) := by decide +kernel
theorem dX3_init_7 : decode cX3_init 7 = .ok (.newarray .int, 2) := by decide +kernel
theorem dX3_init_9 : decode cX3_init 9 = .ok (.putfield 9, 3) := by decide +kernel
theorem dX3_init_12 : decode cX3_init 12 = .ok (.aload_n 0, 1) := by decide +kernel
theorem dX3_init_13 : decode cX3_init 13 = .ok (.bipush 10, 2) := by decide +kernel
theorem dX3_init_15 : decode cX3_init 15 = .ok (.newarray .int, 2) := by decide +kernel
theorem dX3_init_17 : decode cX3_init 17 = .ok (.putfield 15, 3) := by decide +kernel
theorem dX3_init_20 : decode cX3_init 20 = .ok (.aload_n 0, 1) := by decide +kernel
theorem dX3_init_21 : decode cX3_init 21 = .ok (.bipush 10, 2) := by decide +kernel
theorem dX3_init_23 : decode cX3_init 23 = .ok (.newarray .int, 2) := by decide +kernel
theorem dX3_init_25 : decode cX3_init 25 = .ok (.putfield 18, 3) := by decide +kernel
theorem dX3_init_28 : decode cX3_init 28 = .ok (.aload_n 0, 1) := by decide +kernel
theorem dX3_init_29 : decode cX3_init 29 = .ok (.bipush 100, 2) := by decide +kernel
theorem dX3_init_31 : decode cX3_init 31 = .ok (.newarray .int, 2) := by decide +kernel
theorem dX3_init_33 : decode cX3_init 33 = .ok (.putfield 21, 3) := by decide +kernel
theorem dX3_init_36 : decode cX3_init 36 = .ok (.return_, 1) := by decide +kernel
theorem pt_tyX3 : ∀ j, j < 4 → pt_t0 TX3 j = tyX3 j := fun j hj => by
  unfold pt_t0
  rw [tyX3_ok j hj]
  rfl
set_option maxHeartbeats 4000000 in
set_option maxRecDepth 100000 in
theorem nw0_X3_init (l : Launch) (D : va_G) (cA : Nat → ClassId) : nw0_C l D cA (fun _ => True) yX3_init cX3_init 1 { frames := 1, cells := 4, slots := 165, locals := 12 } 1 [.null, .null, .null, .null] 4 165 (fun h0 => [.inr (1, [.ref (h0 + 1), .ref (h0 + 2), .ref (h0 + 3), .ref (h0 + 4)]), .inl (cA 0, 45, .inl fun _ => 0), .inl (cA 0, 10, .inl fun _ => 0), .inl (cA 0, 10, .inl fun _ => 0), .inl (cA 0, 100, .inl fun _ => 0)]) := by
  intro h0
  refine Met.ofW (cc := cX3_init) (maxL := 1) (ret := none) (by decide) rfl ?_
  intro p e s m args below meth c s₁ B hml hv
  obtain ⟨rfl, hP, hK, -⟩ := hv
  have hx := B.exec
  have hb := B.bytes
  have hr := B.returns
  have hts0 := atoms_spec (ws := Cond.code yX3_init cX3_init 1 none :: pt_tb) B.pre
  have hts : ∀ w ∈ pt_tb, w.before _ s = true := fun w hw => hts0 w (List.mem_cons_of_mem _ hw)
  have hown : s.vm.findClass RX3 = some m.cls := findClass_of_methodNamed B.named
  have hin : meth.name = "<init>" := (name_of_methodNamed B.named B.method).1
  have hS : va_S (nw0_A h0) s.heap s.heap [] := va_S.rf
  have hl := lv_entry ([.ref h0]) (n := 1) (Nat.le_of_ble_eq_true rfl)
  rw [lg_entry_eq]
  generalize (lg_sl ([.ref h0]) ++ List.replicate (1 - (lg_sl ([.ref h0])).length) Slot.unset).toArray = ls at hl ⊢
  have hl : lv_has ls 1 [(0, .ref h0)] := hl
  refine lv_aload_n hx hb dX3_init_0 rfl (lv_at hl 0 rfl) ?_
  refine W.objInit hx hb hown (hts _ (pt_wi_ok (i := 144) (by decide +kernel))) (hts _ (pt_wi_ok (i := 74) (by decide +kernel))) (hts _ (pt_wi_ok (i := 75) (by decide +kernel))) rfl (by rw [hml]; exact hl.1) rfl dX3_init_1 (Nat.le_of_ble_eq_true rfl) (Nat.le_of_ble_eq_true rfl) ?_
  refine W.eq (g2 := F0 m 4 ls []) rfl ?_
  refine lv_aload_n hx hb dX3_init_4 rfl (lv_at hl 0 rfl) ?_
  refine lv_bipush (v := 45) hx hb dX3_init_5 (by decide) ?_
  refine nw0_arr (atype := .int) (t := 0) (nn := 45) (a0 := (45, .inl fun _ => 0)) hx hb hts hK hP hS (pt_wi_ok (i := 113) (by decide +kernel)) rfl (fun _ => vp_cell_i _ _ _) (by decide +kernel) (by decide +kernel) (Nat.le_of_ble_eq_true rfl) (Nat.le_of_ble_eq_true rfl) (Nat.le_of_ble_eq_true rfl) dX3_init_7 fun H hP hS => ?_
  have hP : nw0_P D h0 [.inr (1, [.null, .null, .null, .null]), .inl (cA 0, 45, .inl fun _ => 0)] H := hP
  refine nw0_putG (v := .ref (h0 + 1)) (b := h0) (j0 := 0) (k := 0) (ci := 1) hx hb hts hown hK hP hS hin rfl rfl (by decide) (pt_wi_ok (i := 145) (by decide +kernel)) rfl rfl (by rw [pt_tyX3 0 (by decide)]; rfl) (by rw [pt_tyX3 0 (by decide)]; rfl) (Nat.le_of_ble_eq_true rfl) dX3_init_9 fun H locs hP hS => ?_
  have hP : nw0_P D h0 [.inr (1, [.ref (h0 + 1), .null, .null, .null]), .inl (cA 0, 45, .inl fun _ => 0)] H := hP
  refine lv_aload_n hx hb dX3_init_12 rfl (lv_at hl 0 rfl) ?_
  refine lv_bipush (v := 10) hx hb dX3_init_13 (by decide) ?_
  refine nw0_arr (atype := .int) (t := 0) (nn := 10) (a0 := (10, .inl fun _ => 0)) hx hb hts hK hP hS (pt_wi_ok (i := 113) (by decide +kernel)) rfl (fun _ => vp_cell_i _ _ _) (by decide +kernel) (by decide +kernel) (Nat.le_of_ble_eq_true rfl) (Nat.le_of_ble_eq_true rfl) (Nat.le_of_ble_eq_true rfl) dX3_init_15 fun H hP hS => ?_
  have hP : nw0_P D h0 [.inr (1, [.ref (h0 + 1), .null, .null, .null]), .inl (cA 0, 45, .inl fun _ => 0), .inl (cA 0, 10, .inl fun _ => 0)] H := hP
  refine nw0_putG (v := .ref (h0 + 2)) (b := h0) (j0 := 0) (k := 1) (ci := 1) hx hb hts hown hK hP hS hin rfl rfl (by decide) (pt_wi_ok (i := 147) (by decide +kernel)) rfl rfl (by rw [pt_tyX3 1 (by decide)]; rfl) (by rw [pt_tyX3 1 (by decide)]; rfl) (Nat.le_of_ble_eq_true rfl) dX3_init_17 fun H locs hP hS => ?_
  have hP : nw0_P D h0 [.inr (1, [.ref (h0 + 1), .ref (h0 + 2), .null, .null]), .inl (cA 0, 45, .inl fun _ => 0), .inl (cA 0, 10, .inl fun _ => 0)] H := hP
  refine lv_aload_n hx hb dX3_init_20 rfl (lv_at hl 0 rfl) ?_
  refine lv_bipush (v := 10) hx hb dX3_init_21 (by decide) ?_
  refine nw0_arr (atype := .int) (t := 0) (nn := 10) (a0 := (10, .inl fun _ => 0)) hx hb hts hK hP hS (pt_wi_ok (i := 113) (by decide +kernel)) rfl (fun _ => vp_cell_i _ _ _) (by decide +kernel) (by decide +kernel) (Nat.le_of_ble_eq_true rfl) (Nat.le_of_ble_eq_true rfl) (Nat.le_of_ble_eq_true rfl) dX3_init_23 fun H hP hS => ?_
  have hP : nw0_P D h0 [.inr (1, [.ref (h0 + 1), .ref (h0 + 2), .null, .null]), .inl (cA 0, 45, .inl fun _ => 0), .inl (cA 0, 10, .inl fun _ => 0), .inl (cA 0, 10, .inl fun _ => 0)] H := hP
  refine nw0_putG (v := .ref (h0 + 3)) (b := h0) (j0 := 0) (k := 2) (ci := 1) hx hb hts hown hK hP hS hin rfl rfl (by decide) (pt_wi_ok (i := 148) (by decide +kernel)) rfl rfl (by rw [pt_tyX3 2 (by decide)]; rfl) (by rw [pt_tyX3 2 (by decide)]; rfl) (Nat.le_of_ble_eq_true rfl) dX3_init_25 fun H locs hP hS => ?_
  have hP : nw0_P D h0 [.inr (1, [.ref (h0 + 1), .ref (h0 + 2), .ref (h0 + 3), .null]), .inl (cA 0, 45, .inl fun _ => 0), .inl (cA 0, 10, .inl fun _ => 0), .inl (cA 0, 10, .inl fun _ => 0)] H := hP
  refine lv_aload_n hx hb dX3_init_28 rfl (lv_at hl 0 rfl) ?_
  refine lv_bipush (v := 100) hx hb dX3_init_29 (by decide) ?_
  refine nw0_arr (atype := .int) (t := 0) (nn := 100) (a0 := (100, .inl fun _ => 0)) hx hb hts hK hP hS (pt_wi_ok (i := 113) (by decide +kernel)) rfl (fun _ => vp_cell_i _ _ _) (by decide +kernel) (by decide +kernel) (Nat.le_of_ble_eq_true rfl) (Nat.le_of_ble_eq_true rfl) (Nat.le_of_ble_eq_true rfl) dX3_init_31 fun H hP hS => ?_
  have hP : nw0_P D h0 [.inr (1, [.ref (h0 + 1), .ref (h0 + 2), .ref (h0 + 3), .null]), .inl (cA 0, 45, .inl fun _ => 0), .inl (cA 0, 10, .inl fun _ => 0), .inl (cA 0, 10, .inl fun _ => 0), .inl (cA 0, 100, .inl fun _ => 0)] H := hP
  refine nw0_putG (v := .ref (h0 + 4)) (b := h0) (j0 := 0) (k := 3) (ci := 1) hx hb hts hown hK hP hS hin rfl rfl (by decide) (pt_wi_ok (i := 149) (by decide +kernel)) rfl rfl (by rw [pt_tyX3 3 (by decide)]; rfl) (by rw [pt_tyX3 3 (by decide)]; rfl) (Nat.le_of_ble_eq_true rfl) dX3_init_33 fun H locs hP hS => ?_
  have hP : nw0_P D h0 [.inr (1, [.ref (h0 + 1), .ref (h0 + 2), .ref (h0 + 3), .ref (h0 + 4)]), .inl (cA 0, 45, .inl fun _ => 0), .inl (cA 0, 10, .inl fun _ => 0), .inl (cA 0, 10, .inl fun _ => 0), .inl (cA 0, 100, .inl fun _ => 0)] H := hP
  refine W.widen (k := 4) (n := 165) (Nat.le_of_ble_eq_true rfl) (Nat.le_of_ble_eq_true rfl) ?_
  exact W.vret hx hb hr (fun t ht hW => ⟨⟨(), rfl, trivial, by dsimp only; rw [ht]; exact hP⟩, hS.F ht⟩) hS.2.2 dX3_init_36
theorem dX7_init_0 : decode cX7_init 0 = .ok (.aload_n 0, 1) := by decide +kernel
theorem dX7_init_1 : decode cX7_init 1 = .ok (.invokespecial 1, 3) := by decide +kernel
theorem dX7_init_4 : decode cX7_init 4 = .ok (.aload_n 0, 1) := by decide +kernel
theorem dX7_init_5 : decode cX7_init 5 = .ok (.sipush 140, 3) := by decide +kernel
theorem dX7_init_8 : decode cX7_init 8 = .ok (.newarray .byte, 2) := by decide +kernel
theorem dX7_init_10 : decode cX7_init 10 = .ok (.putfield 7, 3) := by decide +kernel
theorem dX7_init_13 : decode cX7_init 13 = .ok (.aload_n 0, 1) := by decide +kernel
theorem dX7_init_14 : decode cX7_init 14 = .ok (.bipush 6, 2) := by decide +kernel
theorem dX7_init_16 : decode cX7_init 16 = .ok (.newarray .int, 2) := by decide +kernel
theorem dX7_init_18 : decode cX7_init 18 = .ok (.putfield 13, 3) := by decide +kernel
theorem dX7_init_21 : decode cX7_init 21 = .ok (.aload_n 0, 1) := by decide +kernel
theorem dX7_init_22 : decode cX7_init 22 = .ok (.sipush 960, 3) := by decide +kernel
theorem dX7_init_25 : decode cX7_init 25 = .ok (.newarray .int, 2) := by decide +kernel
theorem dX7_init_27 : decode cX7_init 27 = .ok (.putfield 17, 3) := by decide +kernel
theorem dX7_init_30 : decode cX7_init 30 = .ok (.aload_n 0, 1) := by decide +kernel
theorem dX7_init_31 : decode cX7_init 31 = .ok (.bipush 10, 2) := by decide +kernel
theorem dX7_init_33 : decode cX7_init 33 = .ok (.newarray .long, 2) := by decide +kernel
theorem dX7_init_35 : decode cX7_init 35 = .ok (.putfield 20, 3) := by decide +kernel
theorem dX7_init_38 : decode cX7_init 38 = .ok (.aload_n 0, 1) := by decide +kernel
theorem dX7_init_39 : decode cX7_init 39 = .ok (.bipush 10, 2) := by decide +kernel
theorem dX7_init_41 : decode cX7_init 41 = .ok (.newarray .long, 2) := by decide +kernel
theorem dX7_init_43 : decode cX7_init 43 = .ok (.putfield 24, 3) := by decide +kernel
theorem dX7_init_46 : decode cX7_init 46 = .ok (.aload_n 0, 1) := by decide +kernel
theorem dX7_init_47 : decode cX7_init 47 = .ok (.iconst (-1), 1) := by decide +kernel
theorem dX7_init_48 : decode cX7_init 48 = .ok (.putfield 27, 3) := by decide +kernel
theorem dX7_init_51 : decode cX7_init 51 = .ok (.aload_n 0, 1) := by decide +kernel
theorem dX7_init_52 : decode cX7_init 52 = .ok (.bipush 10, 2) := by decide +kernel
theorem dX7_init_54 : decode cX7_init 54 = .ok (.newarray .int, 2) := by decide +kernel
theorem dX7_init_56 : decode cX7_init 56 = .ok (.putfield 31, 3) := by decide +kernel
theorem dX7_init_59 : decode cX7_init 59 = .ok (.aload_n 0, 1) := by decide +kernel
theorem dX7_init_60 : decode cX7_init 60 = .ok (.iconst 5, 1) := by decide +kernel
theorem dX7_init_61 : decode cX7_init 61 = .ok (.newarray .int, 2) := by decide +kernel
theorem dX7_init_63 : decode cX7_init 63 = .ok (.putfield 34, 3) := by decide +kernel
theorem dX7_init_66 : decode cX7_init 66 = .ok (.aload_n 0, 1) := by decide +kernel
theorem dX7_init_67 : decode cX7_init 67 = .ok (.bipush 120, 2) := by decide +kernel
theorem dX7_init_69 : decode cX7_init 69 = .ok (.newarray .int, 2) := by decide +kernel
theorem dX7_init_71 : decode cX7_init 71 = .ok (.putfield 37, 3) := by decide +kernel
theorem dX7_init_74 : decode cX7_init 74 = .ok (.aload_n 0, 1) := by decide +kernel
theorem dX7_init_75 : decode cX7_init 75 = .ok (.bipush 120, 2) := by decide +kernel
theorem dX7_init_77 : decode cX7_init 77 = .ok (.newarray .int, 2) := by decide +kernel
theorem dX7_init_79 : decode cX7_init 79 = .ok (.putfield 40, 3) := by decide +kernel
theorem dX7_init_82 : decode cX7_init 82 = .ok (.aload_n 0, 1) := by decide +kernel
theorem dX7_init_83 : decode cX7_init 83 = .ok (.bipush 120, 2) := by decide +kernel
theorem dX7_init_85 : decode cX7_init 85 = .ok (.newarray .int, 2) := by decide +kernel
theorem dX7_init_87 : decode cX7_init 87 = .ok (.putfield 43, 3) := by decide +kernel
theorem dX7_init_90 : decode cX7_init 90 = .ok (.aload_n 0, 1) := by decide +kernel
theorem dX7_init_91 : decode cX7_init 91 = .ok (.bipush 120, 2) := by decide +kernel
theorem dX7_init_93 : decode cX7_init 93 = .ok (.newarray .int, 2) := by decide +kernel
theorem dX7_init_95 : decode cX7_init 95 = .ok (.putfield 46, 3) := by decide +kernel
theorem dX7_init_98 : decode cX7_init 98 = .ok (.aload_n 0, 1) := by decide +kernel
theorem dX7_init_99 : decode cX7_init 99 = .ok (.bipush 120, 2) := by decide +kernel
theorem dX7_init_101 : decode cX7_init 101 = .ok (.newarray .byte, 2) := by decide +kernel
theorem dX7_init_103 : decode cX7_init 103 = .ok (.putfield 49, 3) := by decide +kernel
theorem dX7_init_106 : decode cX7_init 106 = .ok (.aload_n 0, 1) := by decide +kernel
theorem dX7_init_107 : decode cX7_init 107 = .ok (.bipush 10, 2) := by decide +kernel
theorem dX7_init_109 : decode cX7_init 109 = .ok (.newarray .int, 2) := by decide +kernel
theorem dX7_init_111 : decode cX7_init 111 = .ok (.putfield 52, 3) := by decide +kernel
theorem dX7_init_114 : decode cX7_init 114 = .ok (.aload_n 0, 1) := by decide +kernel
theorem dX7_init_115 : decode cX7_init 115 = .ok (.bipush 100, 2) := by decide +kernel
theorem dX7_init_117 : decode cX7_init 117 = .ok (.newarray .int, 2) := by decide +kernel
theorem dX7_init_119 : decode cX7_init 119 = .ok (.putfield 55, 3) := by decide +kernel
theorem dX7_init_122 : decode cX7_init 122 = .ok (.aload_n 0, 1) := by decide +kernel
theorem dX7_init_123 : decode cX7_init 123 = .ok (.bipush 7, 2) := by decide +kernel
theorem dX7_init_125 : decode cX7_init 125 = .ok (.newarray .int, 2) := by decide +kernel
theorem dX7_init_127 : decode cX7_init 127 = .ok (.dup, 1) := by decide +kernel
theorem dX7_init_128 : decode cX7_init 128 = .ok (.iconst 0, 1) := by decide +kernel
theorem dX7_init_129 : decode cX7_init 129 = .ok (.iconst 0, 1) := by decide +kernel
theorem dX7_init_130 : decode cX7_init 130 = .ok (.iastore, 1) := by decide +kernel
theorem dX7_init_131 : decode cX7_init 131 = .ok (.dup, 1) := by decide +kernel
theorem dX7_init_132 : decode cX7_init 132 = .ok (.iconst 1, 1) := by decide +kernel
theorem dX7_init_133 : decode cX7_init 133 = .ok (.iconst 0, 1) := by decide +kernel
theorem dX7_init_134 : decode cX7_init 134 = .ok (.iastore, 1) := by decide +kernel
theorem dX7_init_135 : decode cX7_init 135 = .ok (.dup, 1) := by decide +kernel
theorem dX7_init_136 : decode cX7_init 136 = .ok (.iconst 2, 1) := by decide +kernel
theorem dX7_init_137 : decode cX7_init 137 = .ok (.iconst 0, 1) := by decide +kernel
theorem dX7_init_138 : decode cX7_init 138 = .ok (.iastore, 1) := by decide +kernel
theorem dX7_init_139 : decode cX7_init 139 = .ok (.dup, 1) := by decide +kernel
theorem dX7_init_140 : decode cX7_init 140 = .ok (.iconst 3, 1) := by decide +kernel
theorem dX7_init_141 : decode cX7_init 141 = .ok (.iconst (-1), 1) := by decide +kernel
theorem dX7_init_142 : decode cX7_init 142 = .ok (.iastore, 1) := by decide +kernel
theorem dX7_init_143 : decode cX7_init 143 = .ok (.dup, 1) := by decide +kernel
theorem dX7_init_144 : decode cX7_init 144 = .ok (.iconst 4, 1) := by decide +kernel
theorem dX7_init_145 : decode cX7_init 145 = .ok (.iconst (-1), 1) := by decide +kernel
theorem dX7_init_146 : decode cX7_init 146 = .ok (.iastore, 1) := by decide +kernel
theorem dX7_init_147 : decode cX7_init 147 = .ok (.dup, 1) := by decide +kernel
theorem dX7_init_148 : decode cX7_init 148 = .ok (.iconst 5, 1) := by decide +kernel
theorem dX7_init_149 : decode cX7_init 149 = .ok (.iconst (-1), 1) := by decide +kernel
theorem dX7_init_150 : decode cX7_init 150 = .ok (.iastore, 1) := by decide +kernel
theorem dX7_init_151 : decode cX7_init 151 = .ok (.dup, 1) := by decide +kernel
theorem dX7_init_152 : decode cX7_init 152 = .ok (.bipush 6, 2) := by decide +kernel
theorem dX7_init_154 : decode cX7_init 154 = .ok (.iconst (-1), 1) := by decide +kernel
theorem dX7_init_155 : decode cX7_init 155 = .ok (.iastore, 1) := by decide +kernel
theorem dX7_init_156 : decode cX7_init 156 = .ok (.putfield 58, 3) := by decide +kernel
theorem dX7_init_159 : decode cX7_init 159 = .ok (.aload_n 0, 1) := by decide +kernel
theorem dX7_init_160 : decode cX7_init 160 = .ok (.sipush 448, 3) := by decide +kernel
theorem dX7_init_163 : decode cX7_init 163 = .ok (.newarray .int, 2) := by decide +kernel
theorem dX7_init_165 : decode cX7_init 165 = .ok (.putfield 61, 3) := by decide +kernel
theorem dX7_init_168 : decode cX7_init 168 = .ok (.return_, 1) := by decide +kernel
theorem pt_tyX7 : ∀ j, j < 21 → pt_t0 TX7 j = tyX7 j := fun j hj => by
  unfold pt_t0
  rw [tyX7_ok j hj]
  rfl
set_option maxHeartbeats 4000000 in
set_option maxRecDepth 100000 in
theorem nw0_X7_init (l : Launch) (D : va_G) (cA : Nat → ClassId) : nw0_C l D cA (fun _ => True) yX7_init cX7_init 1 { frames := 1, cells := 16, slots := 2306, locals := 12 } 5 [.int 0, .null, .int 0, .int 0, .null, .null, .null, .null, .int 0, .null, .null, .null, .null, .null, .null, .null, .int 0, .null, .null, .null, .null] 16 2306 (fun h0 => [.inr (5, [.int 0, .ref (h0 + 1), .int 0, .int 0, .ref (h0 + 2), .ref (h0 + 3), .ref (h0 + 4), .ref (h0 + 5), .int (-1), .ref (h0 + 6), .ref (h0 + 7), .ref (h0 + 8), .ref (h0 + 9), .ref (h0 + 10), .ref (h0 + 11), .ref (h0 + 12), .int 0, .ref (h0 + 13), .ref (h0 + 14), .ref (h0 + 15), .ref (h0 + 16)]), .inl (cA 1, 140, .inl fun _ => 0), .inl (cA 0, 6, .inl fun _ => 0), .inl (cA 0, 960, .inl fun _ => 0), .inl (cA 2, 10, .inr (.inl fun _ => 0)), .inl (cA 2, 10, .inr (.inl fun _ => 0)), .inl (cA 0, 10, .inl fun _ => 0), .inl (cA 0, 5, .inl fun _ => 0), .inl (cA 0, 120, .inl fun _ => 0), .inl (cA 0, 120, .inl fun _ => 0), .inl (cA 0, 120, .inl fun _ => 0), .inl (cA 0, 120, .inl fun _ => 0), .inl (cA 1, 120, .inl fun _ => 0), .inl (cA 0, 10, .inl fun _ => 0), .inl (cA 0, 100, .inl fun _ => 0), .inl (cA 0, 7, .inl (upd ((upd ((upd ((upd ((upd ((upd ((upd (fun _ => 0) 0 0)) 1 0)) 2 0)) 3 (-1))) 4 (-1))) 5 (-1))) 6 (-1))), .inl (cA 0, 448, .inl fun _ => 0)]) := by
  intro h0
  refine Met.ofW (cc := cX7_init) (maxL := 1) (ret := none) (by decide) rfl ?_
  intro p e s m args below meth c s₁ B hml hv
  obtain ⟨rfl, hP, hK, -⟩ := hv
  have hx := B.exec
  have hb := B.bytes
  have hr := B.returns
  have hts0 := atoms_spec (ws := Cond.code yX7_init cX7_init 1 none :: pt_tb) B.pre
  have hts : ∀ w ∈ pt_tb, w.before _ s = true := fun w hw => hts0 w (List.mem_cons_of_mem _ hw)
  have hown : s.vm.findClass RX7 = some m.cls := findClass_of_methodNamed B.named
  have hin : meth.name = "<init>" := (name_of_methodNamed B.named B.method).1
  have hS : va_S (nw0_A h0) s.heap s.heap [] := va_S.rf
  have hl := lv_entry ([.ref h0]) (n := 1) (Nat.le_of_ble_eq_true rfl)
  rw [lg_entry_eq]
  generalize (lg_sl ([.ref h0]) ++ List.replicate (1 - (lg_sl ([.ref h0])).length) Slot.unset).toArray = ls at hl ⊢
  have hl : lv_has ls 1 [(0, .ref h0)] := hl
  refine lv_aload_n hx hb dX7_init_0 rfl (lv_at hl 0 rfl) ?_
  refine W.objInit hx hb hown (hts _ (pt_wi_ok (i := 663) (by decide +kernel))) (hts _ (pt_wi_ok (i := 74) (by decide +kernel))) (hts _ (pt_wi_ok (i := 75) (by decide +kernel))) rfl (by rw [hml]; exact hl.1) rfl dX7_init_1 (Nat.le_of_ble_eq_true rfl) (Nat.le_of_ble_eq_true rfl) ?_
  refine W.eq (g2 := F0 m 4 ls []) rfl ?_
  refine lv_aload_n hx hb dX7_init_4 rfl (lv_at hl 0 rfl) ?_
  refine lv_sipush (v := 140) hx hb dX7_init_5 (by decide) ?_
  refine nw0_arr (atype := .byte) (t := 1) (nn := 140) (a0 := (140, .inl fun _ => 0)) hx hb hts hK hP hS (pt_wi_ok (i := 644) (by decide +kernel)) rfl (fun _ => vp_cell_i _ _ _) (by decide +kernel) (by decide +kernel) (Nat.le_of_ble_eq_true rfl) (Nat.le_of_ble_eq_true rfl) (Nat.le_of_ble_eq_true rfl) dX7_init_8 fun H hP hS => ?_
  have hP : nw0_P D h0 [.inr (5, [.int 0, .null, .int 0, .int 0, .null, .null, .null, .null, .int 0, .null, .null, .null, .null, .null, .null, .null, .int 0, .null, .null, .null, .null]), .inl (cA 1, 140, .inl fun _ => 0)] H := hP
  refine nw0_putG (v := .ref (h0 + 1)) (b := h0) (j0 := 0) (k := 1) (ci := 5) hx hb hts hown hK hP hS hin rfl rfl (by decide) (pt_wi_ok (i := 665) (by decide +kernel)) rfl rfl (by rw [pt_tyX7 1 (by decide)]; rfl) (by rw [pt_tyX7 1 (by decide)]; rfl) (Nat.le_of_ble_eq_true rfl) dX7_init_10 fun H locs hP hS => ?_
  have hP : nw0_P D h0 [.inr (5, [.int 0, .ref (h0 + 1), .int 0, .int 0, .null, .null, .null, .null, .int 0, .null, .null, .null, .null, .null, .null, .null, .int 0, .null, .null, .null, .null]), .inl (cA 1, 140, .inl fun _ => 0)] H := hP
  refine lv_aload_n hx hb dX7_init_13 rfl (lv_at hl 0 rfl) ?_
  refine lv_bipush (v := 6) hx hb dX7_init_14 (by decide) ?_
  refine nw0_arr (atype := .int) (t := 0) (nn := 6) (a0 := (6, .inl fun _ => 0)) hx hb hts hK hP hS (pt_wi_ok (i := 113) (by decide +kernel)) rfl (fun _ => vp_cell_i _ _ _) (by decide +kernel) (by decide +kernel) (Nat.le_of_ble_eq_true rfl) (Nat.le_of_ble_eq_true rfl) (Nat.le_of_ble_eq_true rfl) dX7_init_16 fun H hP hS => ?_
  have hP : nw0_P D h0 [.inr (5, [.int 0, .ref (h0 + 1), .int 0, .int 0, .null, .null, .null, .null, .int 0, .null, .null, .null, .null, .null, .null, .null, .int 0, .null, .null, .null, .null]), .inl (cA 1, 140, .inl fun _ => 0), .inl (cA 0, 6, .inl fun _ => 0)] H := hP
  refine nw0_putG (v := .ref (h0 + 2)) (b := h0) (j0 := 0) (k := 4) (ci := 5) hx hb hts hown hK hP hS hin rfl rfl (by decide) (pt_wi_ok (i := 668) (by decide +kernel)) rfl rfl (by rw [pt_tyX7 4 (by decide)]; rfl) (by rw [pt_tyX7 4 (by decide)]; rfl) (Nat.le_of_ble_eq_true rfl) dX7_init_18 fun H locs hP hS => ?_
  have hP : nw0_P D h0 [.inr (5, [.int 0, .ref (h0 + 1), .int 0, .int 0, .ref (h0 + 2), .null, .null, .null, .int 0, .null, .null, .null, .null, .null, .null, .null, .int 0, .null, .null, .null, .null]), .inl (cA 1, 140, .inl fun _ => 0), .inl (cA 0, 6, .inl fun _ => 0)] H := hP
  refine lv_aload_n hx hb dX7_init_21 rfl (lv_at hl 0 rfl) ?_
  refine lv_sipush (v := 960) hx hb dX7_init_22 (by decide) ?_
  refine nw0_arr (atype := .int) (t := 0) (nn := 960) (a0 := (960, .inl fun _ => 0)) hx hb hts hK hP hS (pt_wi_ok (i := 113) (by decide +kernel)) rfl (fun _ => vp_cell_i _ _ _) (by decide +kernel) (by decide +kernel) (Nat.le_of_ble_eq_true rfl) (Nat.le_of_ble_eq_true rfl) (Nat.le_of_ble_eq_true rfl) dX7_init_25 fun H hP hS => ?_
  have hP : nw0_P D h0 [.inr (5, [.int 0, .ref (h0 + 1), .int 0, .int 0, .ref (h0 + 2), .null, .null, .null, .int 0, .null, .null, .null, .null, .null, .null, .null, .int 0, .null, .null, .null, .null]), .inl (cA 1, 140, .inl fun _ => 0), .inl (cA 0, 6, .inl fun _ => 0), .inl (cA 0, 960, .inl fun _ => 0)] H := hP
  refine nw0_putG (v := .ref (h0 + 3)) (b := h0) (j0 := 0) (k := 5) (ci := 5) hx hb hts hown hK hP hS hin rfl rfl (by decide) (pt_wi_ok (i := 669) (by decide +kernel)) rfl rfl (by rw [pt_tyX7 5 (by decide)]; rfl) (by rw [pt_tyX7 5 (by decide)]; rfl) (Nat.le_of_ble_eq_true rfl) dX7_init_27 fun H locs hP hS => ?_
  have hP : nw0_P D h0 [.inr (5, [.int 0, .ref (h0 + 1), .int 0, .int 0, .ref (h0 + 2), .ref (h0 + 3), .null, .null, .int 0, .null, .null, .null, .null, .null, .null, .null, .int 0, .null, .null, .null, .null]), .inl (cA 1, 140, .inl fun _ => 0), .inl (cA 0, 6, .inl fun _ => 0), .inl (cA 0, 960, .inl fun _ => 0)] H := hP
  refine lv_aload_n hx hb dX7_init_30 rfl (lv_at hl 0 rfl) ?_
  refine lv_bipush (v := 10) hx hb dX7_init_31 (by decide) ?_
  refine nw0_arr (atype := .long) (t := 2) (nn := 10) (a0 := (10, .inr (.inl fun _ => 0))) hx hb hts hK hP hS (pt_wi_ok (i := 728) (by decide +kernel)) rfl (fun _ => vp_cell_l _ _ _) (by decide +kernel) (by decide +kernel) (Nat.le_of_ble_eq_true rfl) (Nat.le_of_ble_eq_true rfl) (Nat.le_of_ble_eq_true rfl) dX7_init_33 fun H hP hS => ?_
  have hP : nw0_P D h0 [.inr (5, [.int 0, .ref (h0 + 1), .int 0, .int 0, .ref (h0 + 2), .ref (h0 + 3), .null, .null, .int 0, .null, .null, .null, .null, .null, .null, .null, .int 0, .null, .null, .null, .null]), .inl (cA 1, 140, .inl fun _ => 0), .inl (cA 0, 6, .inl fun _ => 0), .inl (cA 0, 960, .inl fun _ => 0), .inl (cA 2, 10, .inr (.inl fun _ => 0))] H := hP
  refine nw0_putG (v := .ref (h0 + 4)) (b := h0) (j0 := 0) (k := 6) (ci := 5) hx hb hts hown hK hP hS hin rfl rfl (by decide) (pt_wi_ok (i := 670) (by decide +kernel)) rfl rfl (by rw [pt_tyX7 6 (by decide)]; rfl) (by rw [pt_tyX7 6 (by decide)]; rfl) (Nat.le_of_ble_eq_true rfl) dX7_init_35 fun H locs hP hS => ?_
  have hP : nw0_P D h0 [.inr (5, [.int 0, .ref (h0 + 1), .int 0, .int 0, .ref (h0 + 2), .ref (h0 + 3), .ref (h0 + 4), .null, .int 0, .null, .null, .null, .null, .null, .null, .null, .int 0, .null, .null, .null, .null]), .inl (cA 1, 140, .inl fun _ => 0), .inl (cA 0, 6, .inl fun _ => 0), .inl (cA 0, 960, .inl fun _ => 0), .inl (cA 2, 10, .inr (.inl fun _ => 0))] H := hP
  refine lv_aload_n hx hb dX7_init_38 rfl (lv_at hl 0 rfl) ?_
  refine lv_bipush (v := 10) hx hb dX7_init_39 (by decide) ?_
  refine nw0_arr (atype := .long) (t := 2) (nn := 10) (a0 := (10, .inr (.inl fun _ => 0))) hx hb hts hK hP hS (pt_wi_ok (i := 728) (by decide +kernel)) rfl (fun _ => vp_cell_l _ _ _) (by decide +kernel) (by decide +kernel) (Nat.le_of_ble_eq_true rfl) (Nat.le_of_ble_eq_true rfl) (Nat.le_of_ble_eq_true rfl) dX7_init_41 fun H hP hS => ?_
  have hP : nw0_P D h0 [.inr (5, [.int 0, .ref (h0 + 1), .int 0, .int 0, .ref (h0 + 2), .ref (h0 + 3), .ref (h0 + 4), .null, .int 0, .null, .null, .null, .null, .null, .null, .null, .int 0, .null, .null, .null, .null]), .inl (cA 1, 140, .inl fun _ => 0), .inl (cA 0, 6, .inl fun _ => 0), .inl (cA 0, 960, .inl fun _ => 0), .inl (cA 2, 10, .inr (.inl fun _ => 0)), .inl (cA 2, 10, .inr (.inl fun _ => 0))] H := hP
  refine nw0_putG (v := .ref (h0 + 5)) (b := h0) (j0 := 0) (k := 7) (ci := 5) hx hb hts hown hK hP hS hin rfl rfl (by decide) (pt_wi_ok (i := 671) (by decide +kernel)) rfl rfl (by rw [pt_tyX7 7 (by decide)]; rfl) (by rw [pt_tyX7 7 (by decide)]; rfl) (Nat.le_of_ble_eq_true rfl) dX7_init_43 fun H locs hP hS => ?_
  have hP : nw0_P D h0 [.inr (5, [.int 0, .ref (h0 + 1), .int 0, .int 0, .ref (h0 + 2), .ref (h0 + 3), .ref (h0 + 4), .ref (h0 + 5), .int 0, .null, .null, .null, .null, .null, .null, .null, .int 0, .null, .null, .null, .null]), .inl (cA 1, 140, .inl fun _ => 0), .inl (cA 0, 6, .inl fun _ => 0), .inl (cA 0, 960, .inl fun _ => 0), .inl (cA 2, 10, .inr (.inl fun _ => 0)), .inl (cA 2, 10, .inr (.inl fun _ => 0))] H := hP
  refine lv_aload_n hx hb dX7_init_46 rfl (lv_at hl 0 rfl) ?_
  refine lv_iconst (v := (-1)) hx hb dX7_init_47 (by decide) ?_
  refine nw0_put (v := .int (-1)) (b := h0) (j0 := 0) (k := 8) (ci := 5) hx hb hts hown hK hP hS rfl rfl (by decide) (pt_wi_ok (i := 672) (by decide +kernel)) rfl (by rw [pt_tyX7 8 (by decide)]; rfl) (by rw [pt_tyX7 8 (by decide)]; rfl) (Nat.le_of_ble_eq_true rfl) dX7_init_48 fun H locs hP hS => ?_
  have hP : nw0_P D h0 [.inr (5, [.int 0, .ref (h0 + 1), .int 0, .int 0, .ref (h0 + 2), .ref (h0 + 3), .ref (h0 + 4), .ref (h0 + 5), .int (-1), .null, .null, .null, .null, .null, .null, .null, .int 0, .null, .null, .null, .null]), .inl (cA 1, 140, .inl fun _ => 0), .inl (cA 0, 6, .inl fun _ => 0), .inl (cA 0, 960, .inl fun _ => 0), .inl (cA 2, 10, .inr (.inl fun _ => 0)), .inl (cA 2, 10, .inr (.inl fun _ => 0))] H := hP
  refine lv_aload_n hx hb dX7_init_51 rfl (lv_at hl 0 rfl) ?_
  refine lv_bipush (v := 10) hx hb dX7_init_52 (by decide) ?_
  refine nw0_arr (atype := .int) (t := 0) (nn := 10) (a0 := (10, .inl fun _ => 0)) hx hb hts hK hP hS (pt_wi_ok (i := 113) (by decide +kernel)) rfl (fun _ => vp_cell_i _ _ _) (by decide +kernel) (by decide +kernel) (Nat.le_of_ble_eq_true rfl) (Nat.le_of_ble_eq_true rfl) (Nat.le_of_ble_eq_true rfl) dX7_init_54 fun H hP hS => ?_
  have hP : nw0_P D h0 [.inr (5, [.int 0, .ref (h0 + 1), .int 0, .int 0, .ref (h0 + 2), .ref (h0 + 3), .ref (h0 + 4), .ref (h0 + 5), .int (-1), .null, .null, .null, .null, .null, .null, .null, .int 0, .null, .null, .null, .null]), .inl (cA 1, 140, .inl fun _ => 0), .inl (cA 0, 6, .inl fun _ => 0), .inl (cA 0, 960, .inl fun _ => 0), .inl (cA 2, 10, .inr (.inl fun _ => 0)), .inl (cA 2, 10, .inr (.inl fun _ => 0)), .inl (cA 0, 10, .inl fun _ => 0)] H := hP
  refine nw0_putG (v := .ref (h0 + 6)) (b := h0) (j0 := 0) (k := 9) (ci := 5) hx hb hts hown hK hP hS hin rfl rfl (by decide) (pt_wi_ok (i := 673) (by decide +kernel)) rfl rfl (by rw [pt_tyX7 9 (by decide)]; rfl) (by rw [pt_tyX7 9 (by decide)]; rfl) (Nat.le_of_ble_eq_true rfl) dX7_init_56 fun H locs hP hS => ?_
  have hP : nw0_P D h0 [.inr (5, [.int 0, .ref (h0 + 1), .int 0, .int 0, .ref (h0 + 2), .ref (h0 + 3), .ref (h0 + 4), .ref (h0 + 5), .int (-1), .ref (h0 + 6), .null, .null, .null, .null, .null, .null, .int 0, .null, .null, .null, .null]), .inl (cA 1, 140, .inl fun _ => 0), .inl (cA 0, 6, .inl fun _ => 0), .inl (cA 0, 960, .inl fun _ => 0), .inl (cA 2, 10, .inr (.inl fun _ => 0)), .inl (cA 2, 10, .inr (.inl fun _ => 0)), .inl (cA 0, 10, .inl fun _ => 0)] H := hP
  refine lv_aload_n hx hb dX7_init_59 rfl (lv_at hl 0 rfl) ?_
  refine lv_iconst (v := 5) hx hb dX7_init_60 (by decide) ?_
  refine nw0_arr (atype := .int) (t := 0) (nn := 5) (a0 := (5, .inl fun _ => 0)) hx hb hts hK hP hS (pt_wi_ok (i := 113) (by decide +kernel)) rfl (fun _ => vp_cell_i _ _ _) (by decide +kernel) (by decide +kernel) (Nat.le_of_ble_eq_true rfl) (Nat.le_of_ble_eq_true rfl) (Nat.le_of_ble_eq_true rfl) dX7_init_61 fun H hP hS => ?_
  have hP : nw0_P D h0 [.inr (5, [.int 0, .ref (h0 + 1), .int 0, .int 0, .ref (h0 + 2), .ref (h0 + 3), .ref (h0 + 4), .ref (h0 + 5), .int (-1), .ref (h0 + 6), .null, .null, .null, .null, .null, .null, .int 0, .null, .null, .null, .null]), .inl (cA 1, 140, .inl fun _ => 0), .inl (cA 0, 6, .inl fun _ => 0), .inl (cA 0, 960, .inl fun _ => 0), .inl (cA 2, 10, .inr (.inl fun _ => 0)), .inl (cA 2, 10, .inr (.inl fun _ => 0)), .inl (cA 0, 10, .inl fun _ => 0), .inl (cA 0, 5, .inl fun _ => 0)] H := hP
  refine nw0_putG (v := .ref (h0 + 7)) (b := h0) (j0 := 0) (k := 10) (ci := 5) hx hb hts hown hK hP hS hin rfl rfl (by decide) (pt_wi_ok (i := 674) (by decide +kernel)) rfl rfl (by rw [pt_tyX7 10 (by decide)]; rfl) (by rw [pt_tyX7 10 (by decide)]; rfl) (Nat.le_of_ble_eq_true rfl) dX7_init_63 fun H locs hP hS => ?_
  have hP : nw0_P D h0 [.inr (5, [.int 0, .ref (h0 + 1), .int 0, .int 0, .ref (h0 + 2), .ref (h0 + 3), .ref (h0 + 4), .ref (h0 + 5), .int (-1), .ref (h0 + 6), .ref (h0 + 7), .null, .null, .null, .null, .null, .int 0, .null, .null, .null, .null]), .inl (cA 1, 140, .inl fun _ => 0), .inl (cA 0, 6, .inl fun _ => 0), .inl (cA 0, 960, .inl fun _ => 0), .inl (cA 2, 10, .inr (.inl fun _ => 0)), .inl (cA 2, 10, .inr (.inl fun _ => 0)), .inl (cA 0, 10, .inl fun _ => 0), .inl (cA 0, 5, .inl fun _ => 0)] H := hP
  refine lv_aload_n hx hb dX7_init_66 rfl (lv_at hl 0 rfl) ?_
  refine lv_bipush (v := 120) hx hb dX7_init_67 (by decide) ?_
  refine nw0_arr (atype := .int) (t := 0) (nn := 120) (a0 := (120, .inl fun _ => 0)) hx hb hts hK hP hS (pt_wi_ok (i := 113) (by decide +kernel)) rfl (fun _ => vp_cell_i _ _ _) (by decide +kernel) (by decide +kernel) (Nat.le_of_ble_eq_true rfl) (Nat.le_of_ble_eq_true rfl) (Nat.le_of_ble_eq_true rfl) dX7_init_69 fun H hP hS => ?_
  have hP : nw0_P D h0 [.inr (5, [.int 0, .ref (h0 + 1), .int 0, .int 0, .ref (h0 + 2), .ref (h0 + 3), .ref (h0 + 4), .ref (h0 + 5), .int (-1), .ref (h0 + 6), .ref (h0 + 7), .null, .null, .null, .null, .null, .int 0, .null, .null, .null, .null]), .inl (cA 1, 140, .inl fun _ => 0), .inl (cA 0, 6, .inl fun _ => 0), .inl (cA 0, 960, .inl fun _ => 0), .inl (cA 2, 10, .inr (.inl fun _ => 0)), .inl (cA 2, 10, .inr (.inl fun _ => 0)), .inl (cA 0, 10, .inl fun _ => 0), .inl (cA 0, 5, .inl fun _ => 0), .inl (cA 0, 120, .inl fun _ => 0)] H := hP
  refine nw0_putG (v := .ref (h0 + 8)) (b := h0) (j0 := 0) (k := 11) (ci := 5) hx hb hts hown hK hP hS hin rfl rfl (by decide) (pt_wi_ok (i := 675) (by decide +kernel)) rfl rfl (by rw [pt_tyX7 11 (by decide)]; rfl) (by rw [pt_tyX7 11 (by decide)]; rfl) (Nat.le_of_ble_eq_true rfl) dX7_init_71 fun H locs hP hS => ?_
  have hP : nw0_P D h0 [.inr (5, [.int 0, .ref (h0 + 1), .int 0, .int 0, .ref (h0 + 2), .ref (h0 + 3), .ref (h0 + 4), .ref (h0 + 5), .int (-1), .ref (h0 + 6), .ref (h0 + 7), .ref (h0 + 8), .null, .null, .null, .null, .int 0, .null, .null, .null, .null]), .inl (cA 1, 140, .inl fun _ => 0), .inl (cA 0, 6, .inl fun _ => 0), .inl (cA 0, 960, .inl fun _ => 0), .inl (cA 2, 10, .inr (.inl fun _ => 0)), .inl (cA 2, 10, .inr (.inl fun _ => 0)), .inl (cA 0, 10, .inl fun _ => 0), .inl (cA 0, 5, .inl fun _ => 0), .inl (cA 0, 120, .inl fun _ => 0)] H := hP
  refine lv_aload_n hx hb dX7_init_74 rfl (lv_at hl 0 rfl) ?_
  refine lv_bipush (v := 120) hx hb dX7_init_75 (by decide) ?_
  refine nw0_arr (atype := .int) (t := 0) (nn := 120) (a0 := (120, .inl fun _ => 0)) hx hb hts hK hP hS (pt_wi_ok (i := 113) (by decide +kernel)) rfl (fun _ => vp_cell_i _ _ _) (by decide +kernel) (by decide +kernel) (Nat.le_of_ble_eq_true rfl) (Nat.le_of_ble_eq_true rfl) (Nat.le_of_ble_eq_true rfl) dX7_init_77 fun H hP hS => ?_
  have hP : nw0_P D h0 [.inr (5, [.int 0, .ref (h0 + 1), .int 0, .int 0, .ref (h0 + 2), .ref (h0 + 3), .ref (h0 + 4), .ref (h0 + 5), .int (-1), .ref (h0 + 6), .ref (h0 + 7), .ref (h0 + 8), .null, .null, .null, .null, .int 0, .null, .null, .null, .null]), .inl (cA 1, 140, .inl fun _ => 0), .inl (cA 0, 6, .inl fun _ => 0), .inl (cA 0, 960, .inl fun _ => 0), .inl (cA 2, 10, .inr (.inl fun _ => 0)), .inl (cA 2, 10, .inr (.inl fun _ => 0)), .inl (cA 0, 10, .inl fun _ => 0), .inl (cA 0, 5, .inl fun _ => 0), .inl (cA 0, 120, .inl fun _ => 0), .inl (cA 0, 120, .inl fun _ => 0)] H := hP
  refine nw0_putG (v := .ref (h0 + 9)) (b := h0) (j0 := 0) (k := 12) (ci := 5) hx hb hts hown hK hP hS hin rfl rfl (by decide) (pt_wi_ok (i := 676) (by decide +kernel)) rfl rfl (by rw [pt_tyX7 12 (by decide)]; rfl) (by rw [pt_tyX7 12 (by decide)]; rfl) (Nat.le_of_ble_eq_true rfl) dX7_init_79 fun H locs hP hS => ?_
  have hP : nw0_P D h0 [.inr (5, [.int 0, .ref (h0 + 1), .int 0, .int 0, .ref (h0 + 2), .ref (h0 + 3), .ref (h0 + 4), .ref (h0 + 5), .int (-1), .ref (h0 + 6), .ref (h0 + 7), .ref (h0 + 8), .ref (h0 + 9), .null, .null, .null, .int 0, .null, .null, .null, .null]), .inl (cA 1, 140, .inl fun _ => 0), .inl (cA 0, 6, .inl fun _ => 0), .inl (cA 0, 960, .inl fun _ => 0), .inl (cA 2, 10, .inr (.inl fun _ => 0)), .inl (cA 2, 10, .inr (.inl fun _ => 0)), .inl (cA 0, 10, .inl fun _ => 0), .inl (cA 0, 5, .inl fun _ => 0), .inl (cA 0, 120, .inl fun _ => 0), .inl (cA 0, 120, .inl fun _ => 0)] H := hP
  refine lv_aload_n hx hb dX7_init_82 rfl (lv_at hl 0 rfl) ?_
  refine lv_bipush (v := 120) hx hb dX7_init_83 (by decide) ?_
  refine nw0_arr (atype := .int) (t := 0) (nn := 120) (a0 := (120, .inl fun _ => 0)) hx hb hts hK hP hS (pt_wi_ok (i := 113) (by decide +kernel)) rfl (fun _ => vp_cell_i _ _ _) (by decide +kernel) (by decide +kernel) (Nat.le_of_ble_eq_true rfl) (Nat.le_of_ble_eq_true rfl) (Nat.le_of_ble_eq_true rfl) dX7_init_85 fun H hP hS => ?_
  have hP : nw0_P D h0 [.inr (5, [.int 0, .ref (h0 + 1), .int 0, .int 0, .ref (h0 + 2), .ref (h0 + 3), .ref (h0 + 4), .ref (h0 + 5), .int (-1), .ref (h0 + 6), .ref (h0 + 7), .ref (h0 + 8), .ref (h0 + 9), .null, .null, .null, .int 0, .null, .null, .null, .null]), .inl (cA 1, 140, .inl fun _ => 0), .inl (cA 0, 6, .inl fun _ => 0), .inl (cA 0, 960, .inl fun _ => 0), .inl (cA 2, 10, .inr (.inl fun _ => 0)), .inl (cA 2, 10, .inr (.inl fun _ => 0)), .inl (cA 0, 10, .inl fun _ => 0), .inl (cA 0, 5, .inl fun _ => 0), .inl (cA 0, 120, .inl fun _ => 0), .inl (cA 0, 120, .inl fun _ => 0), .inl (cA 0, 120, .inl fun _ => 0)] H := hP
  refine nw0_putG (v := .ref (h0 + 10)) (b := h0) (j0 := 0) (k := 13) (ci := 5) hx hb hts hown hK hP hS hin rfl rfl (by decide) (pt_wi_ok (i := 677) (by decide +kernel)) rfl rfl (by rw [pt_tyX7 13 (by decide)]; rfl) (by rw [pt_tyX7 13 (by decide)]; rfl) (Nat.le_of_ble_eq_true rfl) dX7_init_87 fun H locs hP hS => ?_
  have hP : nw0_P D h0 [.inr (5, [.int 0, .ref (h0 + 1), .int 0, .int 0, .ref (h0 + 2), .ref (h0 + 3), .ref (h0 + 4), .ref (h0 + 5), .int (-1), .ref (h0 + 6), .ref (h0 + 7), .ref (h0 + 8), .ref (h0 + 9), .ref (h0 + 10), .null, .null, .int 0, .null, .null, .null, .null]), .inl (cA 1, 140, .inl fun _ => 0), .inl (cA 0, 6, .inl fun _ => 0), .inl (cA 0, 960, .inl fun _ => 0), .inl (cA 2, 10, .inr (.inl fun _ => 0)), .inl (cA 2, 10, .inr (.inl fun _ => 0)), .inl (cA 0, 10, .inl fun _ => 0), .inl (cA 0, 5, .inl fun _ => 0), .inl (cA 0, 120, .inl fun _ => 0), .inl (cA 0, 120, .inl fun _ => 0), .inl (cA 0, 120, .inl fun _ => 0)] H := hP
  refine lv_aload_n hx hb dX7_init_90 rfl (lv_at hl 0 rfl) ?_
  refine lv_bipush (v := 120) hx hb dX7_init_91 (by decide) ?_
  refine nw0_arr (atype := .int) (t := 0) (nn := 120) (a0 := (120, .inl fun _ => 0)) hx hb hts hK hP hS (pt_wi_ok (i := 113) (by decide +kernel)) rfl (fun _ => vp_cell_i _ _ _) (by decide +kernel) (by decide +kernel) (Nat.le_of_ble_eq_true rfl) (Nat.le_of_ble_eq_true rfl) (Nat.le_of_ble_eq_true rfl) dX7_init_93 fun H hP hS => ?_
  have hP : nw0_P D h0 [.inr (5, [.int 0, .ref (h0 + 1), .int 0, .int 0, .ref (h0 + 2), .ref (h0 + 3), .ref (h0 + 4), .ref (h0 + 5), .int (-1), .ref (h0 + 6), .ref (h0 + 7), .ref (h0 + 8), .ref (h0 + 9), .ref (h0 + 10), .null, .null, .int 0, .null, .null, .null, .null]), .inl (cA 1, 140, .inl fun _ => 0), .inl (cA 0, 6, .inl fun _ => 0), .inl (cA 0, 960, .inl fun _ => 0), .inl (cA 2, 10, .inr (.inl fun _ => 0)), .inl (cA 2, 10, .inr (.inl fun _ => 0)), .inl (cA 0, 10, .inl fun _ => 0), .inl (cA 0, 5, .inl fun _ => 0), .inl (cA 0, 120, .inl fun _ => 0), .inl (cA 0, 120, .inl fun _ => 0), .inl (cA 0, 120, .inl fun _ => 0), .inl (cA 0, 120, .inl fun _ => 0)] H := hP
  refine nw0_putG (v := .ref (h0 + 11)) (b := h0) (j0 := 0) (k := 14) (ci := 5) hx hb hts hown hK hP hS hin rfl rfl (by decide) (pt_wi_ok (i := 678) (by decide +kernel)) rfl rfl (by rw [pt_tyX7 14 (by decide)]; rfl) (by rw [pt_tyX7 14 (by decide)]; rfl) (Nat.le_of_ble_eq_true rfl) dX7_init_95 fun H locs hP hS => ?_
  have hP : nw0_P D h0 [.inr (5, [.int 0, .ref (h0 + 1), .int 0, .int 0, .ref (h0 + 2), .ref (h0 + 3), .ref (h0 + 4), .ref (h0 + 5), .int (-1), .ref (h0 + 6), .ref (h0 + 7), .ref (h0 + 8), .ref (h0 + 9), .ref (h0 + 10), .ref (h0 + 11), .null, .int 0, .null, .null, .null, .null]), .inl (cA 1, 140, .inl fun _ => 0), .inl (cA 0, 6, .inl fun _ => 0), .inl (cA 0, 960, .inl fun _ => 0), .inl (cA 2, 10, .inr (.inl fun _ => 0)), .inl (cA 2, 10, .inr (.inl fun _ => 0)), .inl (cA 0, 10, .inl fun _ => 0), .inl (cA 0, 5, .inl fun _ => 0), .inl (cA 0, 120, .inl fun _ => 0), .inl (cA 0, 120, .inl fun _ => 0), .inl (cA 0, 120, .inl fun _ => 0), .inl (cA 0, 120, .inl fun _ => 0)] H := hP
  refine lv_aload_n hx hb dX7_init_98 rfl (lv_at hl 0 rfl) ?_
  refine lv_bipush (v := 120) hx hb dX7_init_99 (by decide) ?_
  refine nw0_arr (atype := .byte) (t := 1) (nn := 120) (a0 := (120, .inl fun _ => 0)) hx hb hts hK hP hS (pt_wi_ok (i := 644) (by decide +kernel)) rfl (fun _ => vp_cell_i _ _ _) (by decide +kernel) (by decide +kernel) (Nat.le_of_ble_eq_true rfl) (Nat.le_of_ble_eq_true rfl) (Nat.le_of_ble_eq_true rfl) dX7_init_101 fun H hP hS => ?_
  have hP : nw0_P D h0 [.inr (5, [.int 0, .ref (h0 + 1), .int 0, .int 0, .ref (h0 + 2), .ref (h0 + 3), .ref (h0 + 4), .ref (h0 + 5), .int (-1), .ref (h0 + 6), .ref (h0 + 7), .ref (h0 + 8), .ref (h0 + 9), .ref (h0 + 10), .ref (h0 + 11), .null, .int 0, .null, .null, .null, .null]), .inl (cA 1, 140, .inl fun _ => 0), .inl (cA 0, 6, .inl fun _ => 0), .inl (cA 0, 960, .inl fun _ => 0), .inl (cA 2, 10, .inr (.inl fun _ => 0)), .inl (cA 2, 10, .inr (.inl fun _ => 0)), .inl (cA 0, 10, .inl fun _ => 0), .inl (cA 0, 5, .inl fun _ => 0), .inl (cA 0, 120, .inl fun _ => 0), .inl (cA 0, 120, .inl fun _ => 0), .inl (cA 0, 120, .inl fun _ => 0), .inl (cA 0, 120, .inl fun _ => 0), .inl (cA 1, 120, .inl fun _ => 0)] H := hP
  refine nw0_putG (v := .ref (h0 + 12)) (b := h0) (j0 := 0) (k := 15) (ci := 5) hx hb hts hown hK hP hS hin rfl rfl (by decide) (pt_wi_ok (i := 679) (by decide +kernel)) rfl rfl (by rw [pt_tyX7 15 (by decide)]; rfl) (by rw [pt_tyX7 15 (by decide)]; rfl) (Nat.le_of_ble_eq_true rfl) dX7_init_103 fun H locs hP hS => ?_
  have hP : nw0_P D h0 [.inr (5, [.int 0, .ref (h0 + 1), .int 0, .int 0, .ref (h0 + 2), .ref (h0 + 3), .ref (h0 + 4), .ref (h0 + 5), .int (-1), .ref (h0 + 6), .ref (h0 + 7), .ref (h0 + 8), .ref (h0 + 9), .ref (h0 + 10), .ref (h0 + 11), .ref (h0 + 12), .int 0, .null, .null, .null, .null]), .inl (cA 1, 140, .inl fun _ => 0), .inl (cA 0, 6, .inl fun _ => 0), .inl (cA 0, 960, .inl fun _ => 0), .inl (cA 2, 10, .inr (.inl fun _ => 0)), .inl (cA 2, 10, .inr (.inl fun _ => 0)), .inl (cA 0, 10, .inl fun _ => 0), .inl (cA 0, 5, .inl fun _ => 0), .inl (cA 0, 120, .inl fun _ => 0), .inl (cA 0, 120, .inl fun _ => 0), .inl (cA 0, 120, .inl fun _ => 0), .inl (cA 0, 120, .inl fun _ => 0), .inl (cA 1, 120, .inl fun _ => 0)] H := hP
  refine lv_aload_n hx hb dX7_init_106 rfl (lv_at hl 0 rfl) ?_
  refine lv_bipush (v := 10) hx hb dX7_init_107 (by decide) ?_
  refine nw0_arr (atype := .int) (t := 0) (nn := 10) (a0 := (10, .inl fun _ => 0)) hx hb hts hK hP hS (pt_wi_ok (i := 113) (by decide +kernel)) rfl (fun _ => vp_cell_i _ _ _) (by decide +kernel) (by decide +kernel) (Nat.le_of_ble_eq_true rfl) (Nat.le_of_ble_eq_true rfl) (Nat.le_of_ble_eq_true rfl) dX7_init_109 fun H hP hS => ?_
  have hP : nw0_P D h0 [.inr (5, [.int 0, .ref (h0 + 1), .int 0, .int 0, .ref (h0 + 2), .ref (h0 + 3), .ref (h0 + 4), .ref (h0 + 5), .int (-1), .ref (h0 + 6), .ref (h0 + 7), .ref (h0 + 8), .ref (h0 + 9), .ref (h0 + 10), .ref (h0 + 11), .ref (h0 + 12), .int 0, .null, .null, .null, .null]), .inl (cA 1, 140, .inl fun _ => 0), .inl (cA 0, 6, .inl fun _ => 0), .inl (cA 0, 960, .inl fun _ => 0), .inl (cA 2, 10, .inr (.inl fun _ => 0)), .inl (cA 2, 10, .inr (.inl fun _ => 0)), .inl (cA 0, 10, .inl fun _ => 0), .inl (cA 0, 5, .inl fun _ => 0), .inl (cA 0, 120, .inl fun _ => 0), .inl (cA 0, 120, .inl fun _ => 0), .inl (cA 0, 120, .inl fun _ => 0), .inl (cA 0, 120, .inl fun _ => 0), .inl (cA 1, 120, .inl fun _ => 0), .inl (cA 0, 10, .inl fun _ => 0)] H := hP
  refine nw0_putG (v := .ref (h0 + 13)) (b := h0) (j0 := 0) (k := 17) (ci := 5) hx hb hts hown hK hP hS hin rfl rfl (by decide) (pt_wi_ok (i := 681) (by decide +kernel)) rfl rfl (by rw [pt_tyX7 17 (by decide)]; rfl) (by rw [pt_tyX7 17 (by decide)]; rfl) (Nat.le_of_ble_eq_true rfl) dX7_init_111 fun H locs hP hS => ?_
  have hP : nw0_P D h0 [.inr (5, [.int 0, .ref (h0 + 1), .int 0, .int 0, .ref (h0 + 2), .ref (h0 + 3), .ref (h0 + 4), .ref (h0 + 5), .int (-1), .ref (h0 + 6), .ref (h0 + 7), .ref (h0 + 8), .ref (h0 + 9), .ref (h0 + 10), .ref (h0 + 11), .ref (h0 + 12), .int 0, .ref (h0 + 13), .null, .null, .null]), .inl (cA 1, 140, .inl fun _ => 0), .inl (cA 0, 6, .inl fun _ => 0), .inl (cA 0, 960, .inl fun _ => 0), .inl (cA 2, 10, .inr (.inl fun _ => 0)), .inl (cA 2, 10, .inr (.inl fun _ => 0)), .inl (cA 0, 10, .inl fun _ => 0), .inl (cA 0, 5, .inl fun _ => 0), .inl (cA 0, 120, .inl fun _ => 0), .inl (cA 0, 120, .inl fun _ => 0), .inl (cA 0, 120, .inl fun _ => 0), .inl (cA 0, 120, .inl fun _ => 0), .inl (cA 1, 120, .inl fun _ => 0), .inl (cA 0, 10, .inl fun _ => 0)] H := hP
  refine lv_aload_n hx hb dX7_init_114 rfl (lv_at hl 0 rfl) ?_
  refine lv_bipush (v := 100) hx hb dX7_init_115 (by decide) ?_
  refine nw0_arr (atype := .int) (t := 0) (nn := 100) (a0 := (100, .inl fun _ => 0)) hx hb hts hK hP hS (pt_wi_ok (i := 113) (by decide +kernel)) rfl (fun _ => vp_cell_i _ _ _) (by decide +kernel) (by decide +kernel) (Nat.le_of_ble_eq_true rfl) (Nat.le_of_ble_eq_true rfl) (Nat.le_of_ble_eq_true rfl) dX7_init_117 fun H hP hS => ?_
  have hP : nw0_P D h0 [.inr (5, [.int 0, .ref (h0 + 1), .int 0, .int 0, .ref (h0 + 2), .ref (h0 + 3), .ref (h0 + 4), .ref (h0 + 5), .int (-1), .ref (h0 + 6), .ref (h0 + 7), .ref (h0 + 8), .ref (h0 + 9), .ref (h0 + 10), .ref (h0 + 11), .ref (h0 + 12), .int 0, .ref (h0 + 13), .null, .null, .null]), .inl (cA 1, 140, .inl fun _ => 0), .inl (cA 0, 6, .inl fun _ => 0), .inl (cA 0, 960, .inl fun _ => 0), .inl (cA 2, 10, .inr (.inl fun _ => 0)), .inl (cA 2, 10, .inr (.inl fun _ => 0)), .inl (cA 0, 10, .inl fun _ => 0), .inl (cA 0, 5, .inl fun _ => 0), .inl (cA 0, 120, .inl fun _ => 0), .inl (cA 0, 120, .inl fun _ => 0), .inl (cA 0, 120, .inl fun _ => 0), .inl (cA 0, 120, .inl fun _ => 0), .inl (cA 1, 120, .inl fun _ => 0), .inl (cA 0, 10, .inl fun _ => 0), .inl (cA 0, 100, .inl fun _ => 0)] H := hP
  refine nw0_putG (v := .ref (h0 + 14)) (b := h0) (j0 := 0) (k := 18) (ci := 5) hx hb hts hown hK hP hS hin rfl rfl (by decide) (pt_wi_ok (i := 682) (by decide +kernel)) rfl rfl (by rw [pt_tyX7 18 (by decide)]; rfl) (by rw [pt_tyX7 18 (by decide)]; rfl) (Nat.le_of_ble_eq_true rfl) dX7_init_119 fun H locs hP hS => ?_
  have hP : nw0_P D h0 [.inr (5, [.int 0, .ref (h0 + 1), .int 0, .int 0, .ref (h0 + 2), .ref (h0 + 3), .ref (h0 + 4), .ref (h0 + 5), .int (-1), .ref (h0 + 6), .ref (h0 + 7), .ref (h0 + 8), .ref (h0 + 9), .ref (h0 + 10), .ref (h0 + 11), .ref (h0 + 12), .int 0, .ref (h0 + 13), .ref (h0 + 14), .null, .null]), .inl (cA 1, 140, .inl fun _ => 0), .inl (cA 0, 6, .inl fun _ => 0), .inl (cA 0, 960, .inl fun _ => 0), .inl (cA 2, 10, .inr (.inl fun _ => 0)), .inl (cA 2, 10, .inr (.inl fun _ => 0)), .inl (cA 0, 10, .inl fun _ => 0), .inl (cA 0, 5, .inl fun _ => 0), .inl (cA 0, 120, .inl fun _ => 0), .inl (cA 0, 120, .inl fun _ => 0), .inl (cA 0, 120, .inl fun _ => 0), .inl (cA 0, 120, .inl fun _ => 0), .inl (cA 1, 120, .inl fun _ => 0), .inl (cA 0, 10, .inl fun _ => 0), .inl (cA 0, 100, .inl fun _ => 0)] H := hP
  refine lv_aload_n hx hb dX7_init_122 rfl (lv_at hl 0 rfl) ?_
  refine lv_bipush (v := 7) hx hb dX7_init_123 (by decide) ?_
  refine nw0_arr (atype := .int) (t := 0) (nn := 7) (a0 := (7, .inl fun _ => 0)) hx hb hts hK hP hS (pt_wi_ok (i := 113) (by decide +kernel)) rfl (fun _ => vp_cell_i _ _ _) (by decide +kernel) (by decide +kernel) (Nat.le_of_ble_eq_true rfl) (Nat.le_of_ble_eq_true rfl) (Nat.le_of_ble_eq_true rfl) dX7_init_125 fun H hP hS => ?_
  have hP : nw0_P D h0 [.inr (5, [.int 0, .ref (h0 + 1), .int 0, .int 0, .ref (h0 + 2), .ref (h0 + 3), .ref (h0 + 4), .ref (h0 + 5), .int (-1), .ref (h0 + 6), .ref (h0 + 7), .ref (h0 + 8), .ref (h0 + 9), .ref (h0 + 10), .ref (h0 + 11), .ref (h0 + 12), .int 0, .ref (h0 + 13), .ref (h0 + 14), .null, .null]), .inl (cA 1, 140, .inl fun _ => 0), .inl (cA 0, 6, .inl fun _ => 0), .inl (cA 0, 960, .inl fun _ => 0), .inl (cA 2, 10, .inr (.inl fun _ => 0)), .inl (cA 2, 10, .inr (.inl fun _ => 0)), .inl (cA 0, 10, .inl fun _ => 0), .inl (cA 0, 5, .inl fun _ => 0), .inl (cA 0, 120, .inl fun _ => 0), .inl (cA 0, 120, .inl fun _ => 0), .inl (cA 0, 120, .inl fun _ => 0), .inl (cA 0, 120, .inl fun _ => 0), .inl (cA 1, 120, .inl fun _ => 0), .inl (cA 0, 10, .inl fun _ => 0), .inl (cA 0, 100, .inl fun _ => 0), .inl (cA 0, 7, .inl fun _ => 0)] H := hP
  refine lv_dup hx hb dX7_init_127 rfl ?_
  refine lv_iconst (v := 0) hx hb dX7_init_128 (by decide) ?_
  refine lv_iconst (v := 0) hx hb dX7_init_129 (by decide) ?_
  refine nw0_ast (b := h0) (j0 := 15) (ii := 0) (by decide +kernel) hx hb hK hP hS rfl (pt_in_vp ⟨by decide +kernel, by decide +kernel⟩) dX7_init_130 fun H locs hP hS => ?_
  have hP : nw0_P D h0 [.inr (5, [.int 0, .ref (h0 + 1), .int 0, .int 0, .ref (h0 + 2), .ref (h0 + 3), .ref (h0 + 4), .ref (h0 + 5), .int (-1), .ref (h0 + 6), .ref (h0 + 7), .ref (h0 + 8), .ref (h0 + 9), .ref (h0 + 10), .ref (h0 + 11), .ref (h0 + 12), .int 0, .ref (h0 + 13), .ref (h0 + 14), .null, .null]), .inl (cA 1, 140, .inl fun _ => 0), .inl (cA 0, 6, .inl fun _ => 0), .inl (cA 0, 960, .inl fun _ => 0), .inl (cA 2, 10, .inr (.inl fun _ => 0)), .inl (cA 2, 10, .inr (.inl fun _ => 0)), .inl (cA 0, 10, .inl fun _ => 0), .inl (cA 0, 5, .inl fun _ => 0), .inl (cA 0, 120, .inl fun _ => 0), .inl (cA 0, 120, .inl fun _ => 0), .inl (cA 0, 120, .inl fun _ => 0), .inl (cA 0, 120, .inl fun _ => 0), .inl (cA 1, 120, .inl fun _ => 0), .inl (cA 0, 10, .inl fun _ => 0), .inl (cA 0, 100, .inl fun _ => 0), .inl (cA 0, 7, .inl (upd (fun _ => 0) 0 0))] H := hP
  refine lv_dup hx hb dX7_init_131 rfl ?_
  refine lv_iconst (v := 1) hx hb dX7_init_132 (by decide) ?_
  refine lv_iconst (v := 0) hx hb dX7_init_133 (by decide) ?_
  refine nw0_ast (b := h0) (j0 := 15) (ii := 1) (by decide +kernel) hx hb hK hP hS rfl (pt_in_vp ⟨by decide +kernel, by decide +kernel⟩) dX7_init_134 fun H locs hP hS => ?_
  have hP : nw0_P D h0 [.inr (5, [.int 0, .ref (h0 + 1), .int 0, .int 0, .ref (h0 + 2), .ref (h0 + 3), .ref (h0 + 4), .ref (h0 + 5), .int (-1), .ref (h0 + 6), .ref (h0 + 7), .ref (h0 + 8), .ref (h0 + 9), .ref (h0 + 10), .ref (h0 + 11), .ref (h0 + 12), .int 0, .ref (h0 + 13), .ref (h0 + 14), .null, .null]), .inl (cA 1, 140, .inl fun _ => 0), .inl (cA 0, 6, .inl fun _ => 0), .inl (cA 0, 960, .inl fun _ => 0), .inl (cA 2, 10, .inr (.inl fun _ => 0)), .inl (cA 2, 10, .inr (.inl fun _ => 0)), .inl (cA 0, 10, .inl fun _ => 0), .inl (cA 0, 5, .inl fun _ => 0), .inl (cA 0, 120, .inl fun _ => 0), .inl (cA 0, 120, .inl fun _ => 0), .inl (cA 0, 120, .inl fun _ => 0), .inl (cA 0, 120, .inl fun _ => 0), .inl (cA 1, 120, .inl fun _ => 0), .inl (cA 0, 10, .inl fun _ => 0), .inl (cA 0, 100, .inl fun _ => 0), .inl (cA 0, 7, .inl (upd ((upd (fun _ => 0) 0 0)) 1 0))] H := hP
  refine lv_dup hx hb dX7_init_135 rfl ?_
  refine lv_iconst (v := 2) hx hb dX7_init_136 (by decide) ?_
  refine lv_iconst (v := 0) hx hb dX7_init_137 (by decide) ?_
  refine nw0_ast (b := h0) (j0 := 15) (ii := 2) (by decide +kernel) hx hb hK hP hS rfl (pt_in_vp ⟨by decide +kernel, by decide +kernel⟩) dX7_init_138 fun H locs hP hS => ?_
  have hP : nw0_P D h0 [.inr (5, [.int 0, .ref (h0 + 1), .int 0, .int 0, .ref (h0 + 2), .ref (h0 + 3), .ref (h0 + 4), .ref (h0 + 5), .int (-1), .ref (h0 + 6), .ref (h0 + 7), .ref (h0 + 8), .ref (h0 + 9), .ref (h0 + 10), .ref (h0 + 11), .ref (h0 + 12), .int 0, .ref (h0 + 13), .ref (h0 + 14), .null, .null]), .inl (cA 1, 140, .inl fun _ => 0), .inl (cA 0, 6, .inl fun _ => 0), .inl (cA 0, 960, .inl fun _ => 0), .inl (cA 2, 10, .inr (.inl fun _ => 0)), .inl (cA 2, 10, .inr (.inl fun _ => 0)), .inl (cA 0, 10, .inl fun _ => 0), .inl (cA 0, 5, .inl fun _ => 0), .inl (cA 0, 120, .inl fun _ => 0), .inl (cA 0, 120, .inl fun _ => 0), .inl (cA 0, 120, .inl fun _ => 0), .inl (cA 0, 120, .inl fun _ => 0), .inl (cA 1, 120, .inl fun _ => 0), .inl (cA 0, 10, .inl fun _ => 0), .inl (cA 0, 100, .inl fun _ => 0), .inl (cA 0, 7, .inl (upd ((upd ((upd (fun _ => 0) 0 0)) 1 0)) 2 0))] H := hP
  refine lv_dup hx hb dX7_init_139 rfl ?_
  refine lv_iconst (v := 3) hx hb dX7_init_140 (by decide) ?_
  refine lv_iconst (v := (-1)) hx hb dX7_init_141 (by decide) ?_
  refine nw0_ast (b := h0) (j0 := 15) (ii := 3) (by decide +kernel) hx hb hK hP hS rfl (pt_in_vp ⟨by decide +kernel, by decide +kernel⟩) dX7_init_142 fun H locs hP hS => ?_
  have hP : nw0_P D h0 [.inr (5, [.int 0, .ref (h0 + 1), .int 0, .int 0, .ref (h0 + 2), .ref (h0 + 3), .ref (h0 + 4), .ref (h0 + 5), .int (-1), .ref (h0 + 6), .ref (h0 + 7), .ref (h0 + 8), .ref (h0 + 9), .ref (h0 + 10), .ref (h0 + 11), .ref (h0 + 12), .int 0, .ref (h0 + 13), .ref (h0 + 14), .null, .null]), .inl (cA 1, 140, .inl fun _ => 0), .inl (cA 0, 6, .inl fun _ => 0), .inl (cA 0, 960, .inl fun _ => 0), .inl (cA 2, 10, .inr (.inl fun _ => 0)), .inl (cA 2, 10, .inr (.inl fun _ => 0)), .inl (cA 0, 10, .inl fun _ => 0), .inl (cA 0, 5, .inl fun _ => 0), .inl (cA 0, 120, .inl fun _ => 0), .inl (cA 0, 120, .inl fun _ => 0), .inl (cA 0, 120, .inl fun _ => 0), .inl (cA 0, 120, .inl fun _ => 0), .inl (cA 1, 120, .inl fun _ => 0), .inl (cA 0, 10, .inl fun _ => 0), .inl (cA 0, 100, .inl fun _ => 0), .inl (cA 0, 7, .inl (upd ((upd ((upd ((upd (fun _ => 0) 0 0)) 1 0)) 2 0)) 3 (-1)))] H := hP
  refine lv_dup hx hb dX7_init_143 rfl ?_
  refine lv_iconst (v := 4) hx hb dX7_init_144 (by decide) ?_
  refine lv_iconst (v := (-1)) hx hb dX7_init_145 (by decide) ?_
  refine nw0_ast (b := h0) (j0 := 15) (ii := 4) (by decide +kernel) hx hb hK hP hS rfl (pt_in_vp ⟨by decide +kernel, by decide +kernel⟩) dX7_init_146 fun H locs hP hS => ?_
  have hP : nw0_P D h0 [.inr (5, [.int 0, .ref (h0 + 1), .int 0, .int 0, .ref (h0 + 2), .ref (h0 + 3), .ref (h0 + 4), .ref (h0 + 5), .int (-1), .ref (h0 + 6), .ref (h0 + 7), .ref (h0 + 8), .ref (h0 + 9), .ref (h0 + 10), .ref (h0 + 11), .ref (h0 + 12), .int 0, .ref (h0 + 13), .ref (h0 + 14), .null, .null]), .inl (cA 1, 140, .inl fun _ => 0), .inl (cA 0, 6, .inl fun _ => 0), .inl (cA 0, 960, .inl fun _ => 0), .inl (cA 2, 10, .inr (.inl fun _ => 0)), .inl (cA 2, 10, .inr (.inl fun _ => 0)), .inl (cA 0, 10, .inl fun _ => 0), .inl (cA 0, 5, .inl fun _ => 0), .inl (cA 0, 120, .inl fun _ => 0), .inl (cA 0, 120, .inl fun _ => 0), .inl (cA 0, 120, .inl fun _ => 0), .inl (cA 0, 120, .inl fun _ => 0), .inl (cA 1, 120, .inl fun _ => 0), .inl (cA 0, 10, .inl fun _ => 0), .inl (cA 0, 100, .inl fun _ => 0), .inl (cA 0, 7, .inl (upd ((upd ((upd ((upd ((upd (fun _ => 0) 0 0)) 1 0)) 2 0)) 3 (-1))) 4 (-1)))] H := hP
  refine lv_dup hx hb dX7_init_147 rfl ?_
  refine lv_iconst (v := 5) hx hb dX7_init_148 (by decide) ?_
  refine lv_iconst (v := (-1)) hx hb dX7_init_149 (by decide) ?_
  refine nw0_ast (b := h0) (j0 := 15) (ii := 5) (by decide +kernel) hx hb hK hP hS rfl (pt_in_vp ⟨by decide +kernel, by decide +kernel⟩) dX7_init_150 fun H locs hP hS => ?_
  have hP : nw0_P D h0 [.inr (5, [.int 0, .ref (h0 + 1), .int 0, .int 0, .ref (h0 + 2), .ref (h0 + 3), .ref (h0 + 4), .ref (h0 + 5), .int (-1), .ref (h0 + 6), .ref (h0 + 7), .ref (h0 + 8), .ref (h0 + 9), .ref (h0 + 10), .ref (h0 + 11), .ref (h0 + 12), .int 0, .ref (h0 + 13), .ref (h0 + 14), .null, .null]), .inl (cA 1, 140, .inl fun _ => 0), .inl (cA 0, 6, .inl fun _ => 0), .inl (cA 0, 960, .inl fun _ => 0), .inl (cA 2, 10, .inr (.inl fun _ => 0)), .inl (cA 2, 10, .inr (.inl fun _ => 0)), .inl (cA 0, 10, .inl fun _ => 0), .inl (cA 0, 5, .inl fun _ => 0), .inl (cA 0, 120, .inl fun _ => 0), .inl (cA 0, 120, .inl fun _ => 0), .inl (cA 0, 120, .inl fun _ => 0), .inl (cA 0, 120, .inl fun _ => 0), .inl (cA 1, 120, .inl fun _ => 0), .inl (cA 0, 10, .inl fun _ => 0), .inl (cA 0, 100, .inl fun _ => 0), .inl (cA 0, 7, .inl (upd ((upd ((upd ((upd ((upd ((upd (fun _ => 0) 0 0)) 1 0)) 2 0)) 3 (-1))) 4 (-1))) 5 (-1)))] H := hP
  refine lv_dup hx hb dX7_init_151 rfl ?_
  refine lv_bipush (v := 6) hx hb dX7_init_152 (by decide) ?_
  refine lv_iconst (v := (-1)) hx hb dX7_init_154 (by decide) ?_
  refine nw0_ast (b := h0) (j0 := 15) (ii := 6) (by decide +kernel) hx hb hK hP hS rfl (pt_in_vp ⟨by decide +kernel, by decide +kernel⟩) dX7_init_155 fun H locs hP hS => ?_
  have hP : nw0_P D h0 [.inr (5, [.int 0, .ref (h0 + 1), .int 0, .int 0, .ref (h0 + 2), .ref (h0 + 3), .ref (h0 + 4), .ref (h0 + 5), .int (-1), .ref (h0 + 6), .ref (h0 + 7), .ref (h0 + 8), .ref (h0 + 9), .ref (h0 + 10), .ref (h0 + 11), .ref (h0 + 12), .int 0, .ref (h0 + 13), .ref (h0 + 14), .null, .null]), .inl (cA 1, 140, .inl fun _ => 0), .inl (cA 0, 6, .inl fun _ => 0), .inl (cA 0, 960, .inl fun _ => 0), .inl (cA 2, 10, .inr (.inl fun _ => 0)), .inl (cA 2, 10, .inr (.inl fun _ => 0)), .inl (cA 0, 10, .inl fun _ => 0), .inl (cA 0, 5, .inl fun _ => 0), .inl (cA 0, 120, .inl fun _ => 0), .inl (cA 0, 120, .inl fun _ => 0), .inl (cA 0, 120, .inl fun _ => 0), .inl (cA 0, 120, .inl fun _ => 0), .inl (cA 1, 120, .inl fun _ => 0), .inl (cA 0, 10, .inl fun _ => 0), .inl (cA 0, 100, .inl fun _ => 0), .inl (cA 0, 7, .inl (upd ((upd ((upd ((upd ((upd ((upd ((upd (fun _ => 0) 0 0)) 1 0)) 2 0)) 3 (-1))) 4 (-1))) 5 (-1))) 6 (-1)))] H := hP
  refine nw0_putG (v := .ref (h0 + 15)) (b := h0) (j0 := 0) (k := 19) (ci := 5) hx hb hts hown hK hP hS hin rfl rfl (by decide) (pt_wi_ok (i := 683) (by decide +kernel)) rfl rfl (by rw [pt_tyX7 19 (by decide)]; rfl) (by rw [pt_tyX7 19 (by decide)]; rfl) (Nat.le_of_ble_eq_true rfl) dX7_init_156 fun H locs hP hS => ?_
  have hP : nw0_P D h0 [.inr (5, [.int 0, .ref (h0 + 1), .int 0, .int 0, .ref (h0 + 2), .ref (h0 + 3), .ref (h0 + 4), .ref (h0 + 5), .int (-1), .ref (h0 + 6), .ref (h0 + 7), .ref (h0 + 8), .ref (h0 + 9), .ref (h0 + 10), .ref (h0 + 11), .ref (h0 + 12), .int 0, .ref (h0 + 13), .ref (h0 + 14), .ref (h0 + 15), .null]), .inl (cA 1, 140, .inl fun _ => 0), .inl (cA 0, 6, .inl fun _ => 0), .inl (cA 0, 960, .inl fun _ => 0), .inl (cA 2, 10, .inr (.inl fun _ => 0)), .inl (cA 2, 10, .inr (.inl fun _ => 0)), .inl (cA 0, 10, .inl fun _ => 0), .inl (cA 0, 5, .inl fun _ => 0), .inl (cA 0, 120, .inl fun _ => 0), .inl (cA 0, 120, .inl fun _ => 0), .inl (cA 0, 120, .inl fun _ => 0), .inl (cA 0, 120, .inl fun _ => 0), .inl (cA 1, 120, .inl fun _ => 0), .inl (cA 0, 10, .inl fun _ => 0), .inl (cA 0, 100, .inl fun _ => 0), .inl (cA 0, 7, .inl (upd ((upd ((upd ((upd ((upd ((upd ((upd (fun _ => 0) 0 0)) 1 0)) 2 0)) 3 (-1))) 4 (-1))) 5 (-1))) 6 (-1)))] H := hP
  refine lv_aload_n hx hb dX7_init_159 rfl (lv_at hl 0 rfl) ?_
  refine lv_sipush (v := 448) hx hb dX7_init_160 (by decide) ?_
  refine nw0_arr (atype := .int) (t := 0) (nn := 448) (a0 := (448, .inl fun _ => 0)) hx hb hts hK hP hS (pt_wi_ok (i := 113) (by decide +kernel)) rfl (fun _ => vp_cell_i _ _ _) (by decide +kernel) (by decide +kernel) (Nat.le_of_ble_eq_true rfl) (Nat.le_of_ble_eq_true rfl) (Nat.le_of_ble_eq_true rfl) dX7_init_163 fun H hP hS => ?_
  have hP : nw0_P D h0 [.inr (5, [.int 0, .ref (h0 + 1), .int 0, .int 0, .ref (h0 + 2), .ref (h0 + 3), .ref (h0 + 4), .ref (h0 + 5), .int (-1), .ref (h0 + 6), .ref (h0 + 7), .ref (h0 + 8), .ref (h0 + 9), .ref (h0 + 10), .ref (h0 + 11), .ref (h0 + 12), .int 0, .ref (h0 + 13), .ref (h0 + 14), .ref (h0 + 15), .null]), .inl (cA 1, 140, .inl fun _ => 0), .inl (cA 0, 6, .inl fun _ => 0), .inl (cA 0, 960, .inl fun _ => 0), .inl (cA 2, 10, .inr (.inl fun _ => 0)), .inl (cA 2, 10, .inr (.inl fun _ => 0)), .inl (cA 0, 10, .inl fun _ => 0), .inl (cA 0, 5, .inl fun _ => 0), .inl (cA 0, 120, .inl fun _ => 0), .inl (cA 0, 120, .inl fun _ => 0), .inl (cA 0, 120, .inl fun _ => 0), .inl (cA 0, 120, .inl fun _ => 0), .inl (cA 1, 120, .inl fun _ => 0), .inl (cA 0, 10, .inl fun _ => 0), .inl (cA 0, 100, .inl fun _ => 0), .inl (cA 0, 7, .inl (upd ((upd ((upd ((upd ((upd ((upd ((upd (fun _ => 0) 0 0)) 1 0)) 2 0)) 3 (-1))) 4 (-1))) 5 (-1))) 6 (-1))), .inl (cA 0, 448, .inl fun _ => 0)] H := hP
  refine nw0_putG (v := .ref (h0 + 16)) (b := h0) (j0 := 0) (k := 20) (ci := 5) hx hb hts hown hK hP hS hin rfl rfl (by decide) (pt_wi_ok (i := 684) (by decide +kernel)) rfl rfl (by rw [pt_tyX7 20 (by decide)]; rfl) (by rw [pt_tyX7 20 (by decide)]; rfl) (Nat.le_of_ble_eq_true rfl) dX7_init_165 fun H locs hP hS => ?_
  have hP : nw0_P D h0 [.inr (5, [.int 0, .ref (h0 + 1), .int 0, .int 0, .ref (h0 + 2), .ref (h0 + 3), .ref (h0 + 4), .ref (h0 + 5), .int (-1), .ref (h0 + 6), .ref (h0 + 7), .ref (h0 + 8), .ref (h0 + 9), .ref (h0 + 10), .ref (h0 + 11), .ref (h0 + 12), .int 0, .ref (h0 + 13), .ref (h0 + 14), .ref (h0 + 15), .ref (h0 + 16)]), .inl (cA 1, 140, .inl fun _ => 0), .inl (cA 0, 6, .inl fun _ => 0), .inl (cA 0, 960, .inl fun _ => 0), .inl (cA 2, 10, .inr (.inl fun _ => 0)), .inl (cA 2, 10, .inr (.inl fun _ => 0)), .inl (cA 0, 10, .inl fun _ => 0), .inl (cA 0, 5, .inl fun _ => 0), .inl (cA 0, 120, .inl fun _ => 0), .inl (cA 0, 120, .inl fun _ => 0), .inl (cA 0, 120, .inl fun _ => 0), .inl (cA 0, 120, .inl fun _ => 0), .inl (cA 1, 120, .inl fun _ => 0), .inl (cA 0, 10, .inl fun _ => 0), .inl (cA 0, 100, .inl fun _ => 0), .inl (cA 0, 7, .inl (upd ((upd ((upd ((upd ((upd ((upd ((upd (fun _ => 0) 0 0)) 1 0)) 2 0)) 3 (-1))) 4 (-1))) 5 (-1))) 6 (-1))), .inl (cA 0, 448, .inl fun _ => 0)] H := hP
  refine W.widen (k := 16) (n := 2306) (Nat.le_of_ble_eq_true rfl) (Nat.le_of_ble_eq_true rfl) ?_
  exact W.vret hx hb hr (fun t ht hW => ⟨⟨(), rfl, trivial, by dsimp only; rw [ht]; exact hP⟩, hS.F ht⟩) hS.2.2 dX7_init_168
