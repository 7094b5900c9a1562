section PTS2
variable {Y : pt_Y} {n tgt : Nat} {o o' : List pt_O} {pc : Nat} {L : List (Nat × pt_V)} {st : List pt_V} {M : pt_M} {c : Option Prop} {σ' : pt_S}
/-- a field that is a number: not final, of type int, or boolean -/
def pt_pb (k f : Nat) : Bool := match pt_ob k with
  | none => true
  | some z => match vwCl[z.1]? with
    | none => true
    | some q => !(Nat.blt f z.2) || !(Nat.beq (pt_fs k f) 0) || (!(q.2.1 f).2.2.2 && decide (pt_t0 q.2.1 f = if pt_bz k f then .boolean else .int))
set_option maxRecDepth 100000 in
theorem pt_pb_ok : (List.range 8).all (fun k => (List.range 21).all (fun f => pt_pb k f)) = true := by decide +kernel
theorem pt_pb_of {k f ci N : Nat} {C : String} {T : u_T} (h1 : pt_ob k = some (ci, N)) (h2 : vwCl[ci]? = some (C, T, N)) (h3 : f < N) (h0 : pt_fs k f = 0) : (T f).2.2.2 = false ∧ pt_t0 T f = if pt_bz k f then .boolean else .int := by
  have hk : k < 8 := by
    unfold pt_ob at h1
    split at h1 <;> first | decide | cases h1
  have hN : N ≤ 21 := by
    unfold pt_ob at h1
    split at h1 <;> cases h1 <;> decide
  have h := List.all_eq_true.mp (List.all_eq_true.mp pt_pb_ok k (List.mem_range.mpr hk)) f (List.mem_range.mpr (by omega))
  unfold pt_pb at h
  rw [h1] at h
  dsimp only at h
  rw [h2] at h
  dsimp only at h
  rw [h0] at h
  have hb : Nat.blt f N = true := Nat.ble_eq_true_of_le h3
  rw [hb] at h
  simpa using h
theorem pt_pf_ok {i : Nat} (hd : decode Y.2.1 pc = .ok (.putfield i, 3)) (h : pt_pf o pc L M (pt_fl Y.1 i) st = some (c, o', σ')) (hc : ∀ Z, c = some Z → Z) : pt_Go Y (pc, L, st, M) σ' := by
  unfold pt_pf at h
  split at h
  · cases h
  · rename_i k f hf
    split at h
    · split at h
      · cases h
      · rename_i x k' i' st' hk
        rw [Bool.and_eq_true] at hk
        obtain ⟨hk1, hk2⟩ := hk
        split at h
        · cases h
        · rename_i c0 hv
          cases Nat.eq_of_beq_eq_true hk1
          have h0 := Nat.eq_of_beq_eq_true hk2
          cases hbz : pt_bz k f with
          | true =>
            rw [hbz] at h
            cases h
            obtain ⟨hb, hc'⟩ := pt_cj_ok hc
            refine pt_putf hf (pt_vd_ok hv hc') h0 (fun ci C T N h1 h2 => ?_) hd
            obtain ⟨_, _, _, _, e1, e2, e3, -⟩ := pt_fl_ok hf
            cases e1.symm.trans h1
            obtain ⟨w1, w2⟩ := pt_pb_of h1 h2 e3 h0
            rw [hbz] at w2
            rw [w2]
            rcases hb with rfl | rfl
            · exact ⟨w1, rfl, rfl⟩
            · exact ⟨w1, rfl, rfl⟩
          | false =>
            rw [hbz] at h
            cases h
            refine pt_putf hf (pt_vd_ok hv hc) h0 (fun ci C T N h1 h2 => ?_) hd
            obtain ⟨_, _, _, _, e1, e2, e3, -⟩ := pt_fl_ok hf
            cases e1.symm.trans h1
            obtain ⟨w1, w2⟩ := pt_pb_of h1 h2 e3 h0
            rw [hbz] at w2
            rw [w2]
            exact ⟨w1, rfl, rfl⟩
    · split at h
      · rename_i hk
        cases h
        rw [Bool.and_eq_true] at hk
        cases Nat.eq_of_beq_eq_true hk.1
        cases Nat.eq_of_beq_eq_true hk.2
        exact pt_putS hf hd
      · cases h
    · cases h
theorem pt_al_ok {I : Instr} {t : Nat} (hd : decode Y.2.1 pc = .ok (I, 1)) (hI : (t = 0 ∧ I = .iaload) ∨ (t = 1 ∧ I = .baload) ∨ (t = 2 ∧ I = .laload) ∨ (t = 3 ∧ I = .aaload)) (h : pt_al t o pc L M st = some (c, o', σ')) (hc : ∀ Z, c = some Z → Z) : pt_Go Y (pc, L, st, M) σ' := by
  unfold pt_al at h
  split at h
  · rename_i j k i st'
    split at h
    · rename_i t' n' ha
      split at h
      · cases h
      · rename_i ht
        cases Nat.eq_of_beq_eq_true ht
        split at h
        · cases h
        · rename_i c0 hv
          rcases hI with ⟨rfl, rfl⟩ | ⟨rfl, rfl⟩ | ⟨rfl, rfl⟩ | ⟨rfl, rfl⟩
          · cases h
            obtain ⟨hj, hc'⟩ := pt_cj_ok hc
            exact pt_iald ha (pt_vd_ok hv hc') hj hd
          · cases h
            obtain ⟨hj, hc'⟩ := pt_cj_ok hc
            exact pt_bald ha (pt_vd_ok hv hc') hj hd
          · cases h
            obtain ⟨hj, hc'⟩ := pt_cj_ok hc
            exact pt_lald ha (pt_vd_ok hv hc') hj hd
          · cases h
            obtain ⟨hj, hc'⟩ := pt_cj_ok hc
            exact pt_aald ha (pt_vd_ok hv hc') hj hd
    · split at h
      · split at h
        · split at h
          · rename_i q hq
            cases h
            rcases hI with ⟨-, rfl⟩ | ⟨z, -⟩ | ⟨z, -⟩ | ⟨z, -⟩
            · exact pt_xald (n := q.1) (f := q.2) hq (hc _ rfl) hd
            · cases z
            · cases z
            · cases z
          · cases h
        · cases h
      · cases h
  · cases h
theorem pt_len_ok (hd : decode Y.2.1 pc = .ok (.arraylength, 1)) (h : pt_len o pc L M st = some (c, o', σ')) (hc : ∀ Z, c = some Z → Z) : pt_Go Y (pc, L, st, M) σ' := by
  unfold pt_len at h
  split at h
  · split at h
    · rename_i ha
      split at h
      · cases h
      · rename_i ht
        split at h
        · cases h
        · rename_i hv
          cases h
          exact pt_alen ha (Nat.le_of_ble_eq_true ht) (pt_vd_ok hv hc) hd
    · split at h
      · split at h
        · rename_i q hq
          cases h
          exact pt_xlen (n := q.1) (f := q.2) hq hd
        · cases h
      · cases h
  · cases h
theorem pt_as_ok {I : Instr} {t : Nat} (hd : decode Y.2.1 pc = .ok (I, 1)) (hI : (t = 0 ∧ I = .iastore) ∨ (t = 1 ∧ I = .bastore) ∨ (t = 2 ∧ I = .lastore) ∨ (t = 3 ∧ I = .aastore)) (h : pt_as t o pc L M st = some (c, o', σ')) (hc : ∀ Z, c = some Z → Z) : pt_Go Y (pc, L, st, M) σ' := by
  unfold pt_as at h
  split at h
  · split at h
    · rename_i ha
      split at h
      · cases h
      · rename_i ht
        cases Nat.eq_of_beq_eq_true ht
        split at h
        · cases h
        · rename_i hv
          rcases hI with ⟨rfl, rfl⟩ | ⟨rfl, rfl⟩ | ⟨rfl, rfl⟩ | ⟨rfl, rfl⟩
          · cases h
            obtain ⟨hj, hc'⟩ := pt_cj_ok hc
            exact pt_iast ha (pt_vd_ok hv hc') hj hd
          · cases h
            obtain ⟨hj, hc'⟩ := pt_cj_ok hc
            exact pt_bast ha (pt_vd_ok hv hc') hj hd
          · cases h
          · cases h
    · cases h
  · split at h
    · rename_i ha
      split at h
      · rename_i ht
        rw [Bool.and_eq_true] at ht
        cases h
        cases Nat.eq_of_beq_eq_true ht.1
        rcases hI with ⟨z, -⟩ | ⟨z, -⟩ | ⟨-, rfl⟩ | ⟨z, -⟩
        · cases z
        · cases z
        · exact pt_last ha (Nat.eq_of_beq_eq_true ht.2) (hc _ rfl) hd
        · cases z
      · cases h
    · cases h
  · split at h
    · rename_i ht
      cases h
      cases Nat.eq_of_beq_eq_true ht
      rcases hI with ⟨z, -⟩ | ⟨z, -⟩ | ⟨z, -⟩ | ⟨-, rfl⟩
      · cases z
      · cases z
      · cases z
      · exact pt_aast (hc _ rfl).2 (hc _ rfl).1 hd
    · cases h
  · cases h
theorem pt_cal_ok {I : Instr} (hd : decode Y.2.1 pc = .ok (I, 3)) (h : pt_cal Y I o pc L M st = some (c, o', σ')) (hc : ∀ Z, c = some Z → Z) : pt_Go Y (pc, L, st, M) σ' := by
  unfold pt_cal at h
  split at h
  · rename_i n r M' o1
    split at h
    · rename_i hn
      rw [Bool.and_eq_true] at hn
      cases h
      have h1 := hc _ rfl pc L (st.drop n) hd (Nat.le_of_ble_eq_true hn.2)
      rw [List.reverse_reverse, List.take_append_drop] at h1
      exact h1
    · cases h
  · cases h
end PTS2

/-- an instruction's length -/
def pt_ln (I : Instr) : Nat := match I with
  | .iload _ => 2
  | .aload _ => 2
  | .lload _ => 2
  | .istore _ => 2
  | .astore _ => 2
  | .lstore _ => 2
  | .bipush _ => 2
  | .sipush _ => 3
  | .ldc_w _ => 3
  | .ldc2_w _ => 3
  | .goto _ => 3
  | .if_icmp _ _ => 3
  | .ifCond _ _ => 3
  | .ifnull _ => 3
  | .ifnonnull _ => 3
  | .iinc _ _ => 3
  | .getfield _ => 3
  | .putfield _ => 3
  | .getstatic _ => 3
  | .invokevirtual _ => 3
  | .invokestatic _ => 3
  | .invokespecial _ => 3
  | .new _ => 3
  | _ => 1
set_option maxRecDepth 100000 in
theorem pt_kc_ok {cn idx : Nat} {v : Int32} (h : pt_kc cn idx = some v) : Cond.constant (pt_own cn) idx v ∈ pt_tb := by
  unfold pt_kc at h
  split at h
  · split at h
    · cases h; decide +kernel
    · cases h; decide +kernel
    · cases h; decide +kernel
    · cases h
  · cases h
set_option maxRecDepth 100000 in
theorem pt_kl_ok {cn idx : Nat} {v : Int64} (h : pt_kl cn idx = some v) : Cond.constantLong (pt_own cn) idx v ∈ pt_tb := by
  unfold pt_kl at h
  split at h
  · split at h
    · cases h; decide +kernel
    · cases h; decide +kernel
    · cases h
  · cases h
set_option maxRecDepth 100000 in
theorem pt_sk_ok {cn idx k : Nat} (h : pt_sk cn idx = some k) : ∃ nm, pt_sn k = some nm ∧ Cond.fieldLink (pt_own cn) idx "PointTables" nm "[I" ∈ pt_tb := by
  unfold pt_sk at h
  split at h
  · split at h
    · cases h; exact ⟨_, rfl, by decide +kernel⟩
    · cases h; exact ⟨_, rfl, by decide +kernel⟩
    · cases h; exact ⟨_, rfl, by decide +kernel⟩
    · cases h; exact ⟨_, rfl, by decide +kernel⟩
    · cases h; exact ⟨_, rfl, by decide +kernel⟩
    · cases h
  · cases h
