/-! the steps are the machine's -/
def pt_tg (I : Instr) (pc tgt : Nat) : Bool := match I with
  | .goto z => decide ((pc : Int) + z = (tgt : Int))
  | .if_icmp _ z => decide ((pc : Int) + z = (tgt : Int))
  | .ifCond _ z => decide ((pc : Int) + z = (tgt : Int))
  | .ifnull z => decide ((pc : Int) + z = (tgt : Int))
  | .ifnonnull z => decide ((pc : Int) + z = (tgt : Int))
  | _ => true
theorem pt_lvat {ad : Nat → Nat → Nat} {ls : Array Slot} {n i : Nat} {L : List (Nat × pt_V)} {v : pt_V} (h : lv_has ls n (pt_cl ad L)) (hv : pt_lk L i = some v) : ls[i]? = some (.val (pt_cv ad v)) :=
  h.2.2 (i, pt_cv ad v) (List.mem_map.mpr ⟨(i, v), pt_lk_mem hv, rfl⟩)
section PTS
variable {Y : pt_Y} {n tgt : Nat} {o o' : List pt_O} {pc : Nat} {L : List (Nat × pt_V)} {st : List pt_V} {M : pt_M} {c : Option Prop} {σ' : pt_S}
theorem pt_ldi_ok {i : Nat} (hd : decode Y.2.1 pc = .ok (.iload i, 2)) (h : pt_ld o pc L M st 2 i 0 = some (c, o', σ')) : pt_Go Y (pc, L, st, M) σ' := by
  unfold pt_ld at h
  split at h
  · cases h
  · rename_i v hv
    split at h
    · rename_i hk
      cases h
      rcases v with x | y | ⟨k, j⟩
      · intro p l e s m args below meth c D ad cA A cells slots Q hC hA H locs ls g1 g2 g3 g4
        exact lv_iload hC.1 hC.2.1 hd (pt_lvat g4 hv) (hA H locs ls g1 g2 g3 g4)
      · cases hk
      · cases hk
    · cases h
theorem pt_ldin_ok {i : Fin 4} (hd : decode Y.2.1 pc = .ok (.iload_n i, 1)) (h : pt_ld o pc L M st 1 i.val 0 = some (c, o', σ')) : pt_Go Y (pc, L, st, M) σ' := by
  unfold pt_ld at h
  split at h
  · cases h
  · rename_i v hv
    split at h
    · rename_i hk
      cases h
      rcases v with x | y | ⟨k, j⟩
      · intro p l e s m args below meth c D ad cA A cells slots Q hC hA H locs ls g1 g2 g3 g4
        exact lv_iload_n hC.1 hC.2.1 hd rfl (pt_lvat g4 hv) (hA H locs ls g1 g2 g3 g4)
      · cases hk
      · cases hk
    · cases h
theorem pt_lda_ok {i : Nat} (hd : decode Y.2.1 pc = .ok (.aload i, 2)) (h : pt_ld o pc L M st 2 i 2 = some (c, o', σ')) : pt_Go Y (pc, L, st, M) σ' := by
  unfold pt_ld at h
  split at h
  · cases h
  · rename_i v hv
    split at h
    · rename_i hk
      cases h
      rcases v with x | y | ⟨k, j⟩
      · cases hk
      · cases hk
      · intro p l e s m args below meth c D ad cA A cells slots Q hC hA H locs ls g1 g2 g3 g4
        cases k with
        | zero => exact lv_aloadN hC.1 hC.2.1 hd (pt_lvat g4 hv) (hA H locs ls g1 g2 g3 g4)
        | succ k => exact lv_aload hC.1 hC.2.1 hd (pt_lvat g4 hv) (hA H locs ls g1 g2 g3 g4)
    · cases h
theorem pt_ldan_ok {i : Fin 4} (hd : decode Y.2.1 pc = .ok (.aload_n i, 1)) (h : pt_ld o pc L M st 1 i.val 2 = some (c, o', σ')) : pt_Go Y (pc, L, st, M) σ' := by
  unfold pt_ld at h
  split at h
  · cases h
  · rename_i v hv
    split at h
    · rename_i hk
      cases h
      rcases v with x | y | ⟨k, j⟩
      · cases hk
      · cases hk
      · intro p l e s m args below meth c D ad cA A cells slots Q hC hA H locs ls g1 g2 g3 g4
        cases k with
        | zero => exact lv_aload_nN hC.1 hC.2.1 hd rfl (pt_lvat g4 hv) (hA H locs ls g1 g2 g3 g4)
        | succ k => exact lv_aload_n hC.1 hC.2.1 hd rfl (pt_lvat g4 hv) (hA H locs ls g1 g2 g3 g4)
    · cases h
theorem pt_ldl_ok {i : Nat} (hd : decode Y.2.1 pc = .ok (.lload i, 2)) (h : pt_ld o pc L M st 2 i 1 = some (c, o', σ')) : pt_Go Y (pc, L, st, M) σ' := by
  unfold pt_ld at h
  split at h
  · cases h
  · rename_i v hv
    split at h
    · rename_i hk
      cases h
      rcases v with x | y | ⟨k, j⟩
      · cases hk
      · intro p l e s m args below meth c D ad cA A cells slots Q hC hA H locs ls g1 g2 g3 g4
        exact lv_lload hC.1 hC.2.1 hd (pt_lvat g4 hv) (hA H locs ls g1 g2 g3 g4)
      · cases hk
    · cases h
theorem pt_svi_ok {i : Nat} (hd : decode Y.2.1 pc = .ok (.istore i, 2)) (h : pt_sv Y.2.2.1 o pc L M 2 i 0 st = some (c, o', σ')) : pt_Go Y (pc, L, st, M) σ' := by
  unfold pt_sv at h
  split at h
  · cases h
  · rename_i v st'
    split at h
    · rename_i hk
      cases h
      rw [Bool.and_eq_true] at hk
      rcases v with x | y | ⟨k, j⟩
      · intro p l e s m args below meth c D ad cA A cells slots Q hC hA H locs ls g1 g2 g3 g4
        exact lv_istore hC.1 hC.2.1 hd g4 (Nat.le_of_ble_eq_true hk.2) rfl (fun ls' h' => hA H locs ls' g1 g2 g3 (pt_has1 h'))
      · cases hk.1
      · cases hk.1
    · cases h
theorem pt_svin_ok {i : Fin 4} (hd : decode Y.2.1 pc = .ok (.istore_n i, 1)) (h : pt_sv Y.2.2.1 o pc L M 1 i.val 0 st = some (c, o', σ')) : pt_Go Y (pc, L, st, M) σ' := by
  unfold pt_sv at h
  split at h
  · cases h
  · rename_i v st'
    split at h
    · rename_i hk
      cases h
      rw [Bool.and_eq_true] at hk
      rcases v with x | y | ⟨k, j⟩
      · intro p l e s m args below meth c D ad cA A cells slots Q hC hA H locs ls g1 g2 g3 g4
        exact lv_istore_n hC.1 hC.2.1 hd rfl g4 (Nat.le_of_ble_eq_true hk.2) rfl (fun ls' h' => hA H locs ls' g1 g2 g3 (pt_has1 h'))
      · cases hk.1
      · cases hk.1
    · cases h
theorem pt_sva_ok {i : Nat} (hd : decode Y.2.1 pc = .ok (.astore i, 2)) (h : pt_sv Y.2.2.1 o pc L M 2 i 2 st = some (c, o', σ')) : pt_Go Y (pc, L, st, M) σ' := by
  unfold pt_sv at h
  split at h
  · cases h
  · rename_i v st'
    split at h
    · rename_i hk
      cases h
      rw [Bool.and_eq_true] at hk
      rcases v with x | y | ⟨k, j⟩
      · cases hk.1
      · cases hk.1
      · intro p l e s m args below meth c D ad cA A cells slots Q hC hA H locs ls g1 g2 g3 g4
        cases k with
        | zero => exact lv_astoreN hC.1 hC.2.1 hd g4 (Nat.le_of_ble_eq_true hk.2) rfl (fun ls' h' => hA H locs ls' g1 g2 g3 (pt_has1 (v := pt_r 0 j) h'))
        | succ k => exact lv_astore hC.1 hC.2.1 hd g4 (Nat.le_of_ble_eq_true hk.2) rfl (fun ls' h' => hA H locs ls' g1 g2 g3 (pt_has1 (v := pt_r (k + 1) j) h'))
    · cases h
theorem pt_svan_ok {i : Fin 4} (hd : decode Y.2.1 pc = .ok (.astore_n i, 1)) (h : pt_sv Y.2.2.1 o pc L M 1 i.val 2 st = some (c, o', σ')) : pt_Go Y (pc, L, st, M) σ' := by
  unfold pt_sv at h
  split at h
  · cases h
  · rename_i v st'
    split at h
    · rename_i hk
      cases h
      rw [Bool.and_eq_true] at hk
      rcases v with x | y | ⟨k, j⟩
      · cases hk.1
      · cases hk.1
      · intro p l e s m args below meth c D ad cA A cells slots Q hC hA H locs ls g1 g2 g3 g4
        cases k with
        | zero => exact lv_astore_nN hC.1 hC.2.1 hd rfl g4 (Nat.le_of_ble_eq_true hk.2) rfl (fun ls' h' => hA H locs ls' g1 g2 g3 (pt_has1 (v := pt_r 0 j) h'))
        | succ k => exact lv_astore_n hC.1 hC.2.1 hd rfl g4 (Nat.le_of_ble_eq_true hk.2) rfl (fun ls' h' => hA H locs ls' g1 g2 g3 (pt_has1 (v := pt_r (k + 1) j) h'))
    · cases h
theorem pt_s2_in {f : Int32 → Int32 → Int32} {q : Int32 → Option Prop} (h : pt_s2 o pc L M f q st = some (c, o', σ')) : ∃ x y st', st = pt_i y :: pt_i x :: st' ∧ c = q y ∧ σ' = (pc + 1, L, pt_i (f x y) :: st', M) := by
  unfold pt_s2 at h
  split at h
  · cases h
    exact ⟨_, _, _, rfl, rfl, rfl⟩
  · cases h
theorem pt_s1_in {f : Int32 → pt_V} (h : pt_s1 o pc L M f st = some (c, o', σ')) : ∃ x st', st = pt_i x :: st' ∧ σ' = (pc + 1, L, f x :: st', M) := by
  unfold pt_s1 at h
  split at h
  · cases h
    exact ⟨_, _, rfl, rfl⟩
  · cases h
theorem pt_g2_in {f : Int64 → Int64 → pt_V} (h : pt_g2 o pc L M f st = some (c, o', σ')) : ∃ x y st', st = pt_l y :: pt_l x :: st' ∧ σ' = (pc + 1, L, f x y :: st', M) := by
  unfold pt_g2 at h
  split at h
  · cases h
    exact ⟨_, _, _, rfl, rfl⟩
  · cases h
theorem pt_br_in {P N : Prop} (h : pt_br o L M st pc tgt P N = some (c, o', σ')) (hc : ∀ Z, c = some Z → Z) : (P ∧ σ' = (tgt, L, st, M)) ∨ (N ∧ σ' = (pc + 3, L, st, M)) := by
  unfold pt_br at h
  split at h
  · cases h
    exact Or.inl ⟨hc _ rfl, rfl⟩
  · cases h
    exact Or.inr ⟨hc _ rfl, rfl⟩
  · cases h
theorem pt_icmp_ok {q : ClassFile.Cond} {z : Int} {x y : Int32} (hd : decode Y.2.1 pc = .ok (.if_icmp q z, 3)) (ht : (pc : Int) + z = (tgt : Int)) (h : (pt_cm q x y ∧ σ' = (tgt, L, st, M)) ∨ (pt_nc q x y ∧ σ' = (pc + 3, L, st, M))) : pt_Go Y (pc, L, pt_i y :: pt_i x :: st, M) σ' := by
  intro p l e s m args below meth c D ad cA A cells slots Q hC hA H locs ls g1 g2 g3 g4
  cases q <;> rcases h with ⟨hP, rfl⟩ | ⟨hP, rfl⟩
  · exact lv_icmp_eq hC.1 hC.2.1 hd ht (fun _ => hA H locs ls g1 g2 g3 g4) (fun hn => absurd hP hn)
  · exact lv_icmp_eq hC.1 hC.2.1 hd ht (fun hn => absurd hn hP) (fun _ => hA H locs ls g1 g2 g3 g4)
  · exact lv_icmp_ne hC.1 hC.2.1 hd ht (fun _ => hA H locs ls g1 g2 g3 g4) (fun hn => absurd hn hP)
  · exact lv_icmp_ne hC.1 hC.2.1 hd ht (fun hn => absurd hP hn) (fun _ => hA H locs ls g1 g2 g3 g4)
  · exact lv_icmp_lt hC.1 hC.2.1 hd ht (fun _ => hA H locs ls g1 g2 g3 g4) (fun hn => absurd hP hn)
  · exact lv_icmp_lt hC.1 hC.2.1 hd ht (fun hn => absurd hn hP) (fun _ => hA H locs ls g1 g2 g3 g4)
  · exact lv_icmp_ge hC.1 hC.2.1 hd ht (fun _ => hA H locs ls g1 g2 g3 g4) (fun hn => absurd hP hn)
  · exact lv_icmp_ge hC.1 hC.2.1 hd ht (fun hn => absurd hn hP) (fun _ => hA H locs ls g1 g2 g3 g4)
  · exact lv_icmp_gt hC.1 hC.2.1 hd ht (fun _ => hA H locs ls g1 g2 g3 g4) (fun hn => absurd hP hn)
  · exact lv_icmp_gt hC.1 hC.2.1 hd ht (fun hn => absurd hn hP) (fun _ => hA H locs ls g1 g2 g3 g4)
  · exact lv_icmp_le hC.1 hC.2.1 hd ht (fun _ => hA H locs ls g1 g2 g3 g4) (fun hn => absurd hP hn)
  · exact lv_icmp_le hC.1 hC.2.1 hd ht (fun hn => absurd hn hP) (fun _ => hA H locs ls g1 g2 g3 g4)
theorem pt_if_ok {q : ClassFile.Cond} {z : Int} {x : Int32} (hd : decode Y.2.1 pc = .ok (.ifCond q z, 3)) (ht : (pc : Int) + z = (tgt : Int)) (h : (pt_cm q x 0 ∧ σ' = (tgt, L, st, M)) ∨ (pt_nc q x 0 ∧ σ' = (pc + 3, L, st, M))) : pt_Go Y (pc, L, pt_i x :: st, M) σ' := by
  intro p l e s m args below meth c D ad cA A cells slots Q hC hA H locs ls g1 g2 g3 g4
  cases q <;> rcases h with ⟨hP, rfl⟩ | ⟨hP, rfl⟩
  · exact lv_if_eq hC.1 hC.2.1 hd ht (fun _ => hA H locs ls g1 g2 g3 g4) (fun hn => absurd hP hn)
  · exact lv_if_eq hC.1 hC.2.1 hd ht (fun hn => absurd hn hP) (fun _ => hA H locs ls g1 g2 g3 g4)
  · exact lv_if_ne hC.1 hC.2.1 hd ht (fun _ => hA H locs ls g1 g2 g3 g4) (fun hn => absurd hn hP)
  · exact lv_if_ne hC.1 hC.2.1 hd ht (fun hn => absurd hP hn) (fun _ => hA H locs ls g1 g2 g3 g4)
  · exact lv_if_lt hC.1 hC.2.1 hd ht (fun _ => hA H locs ls g1 g2 g3 g4) (fun hn => absurd hP hn)
  · exact lv_if_lt hC.1 hC.2.1 hd ht (fun hn => absurd hn hP) (fun _ => hA H locs ls g1 g2 g3 g4)
  · exact lv_if_ge hC.1 hC.2.1 hd ht (fun _ => hA H locs ls g1 g2 g3 g4) (fun hn => absurd hP hn)
  · exact lv_if_ge hC.1 hC.2.1 hd ht (fun hn => absurd hn hP) (fun _ => hA H locs ls g1 g2 g3 g4)
  · exact lv_if_gt hC.1 hC.2.1 hd ht (fun _ => hA H locs ls g1 g2 g3 g4) (fun hn => absurd hP hn)
  · exact lv_if_gt hC.1 hC.2.1 hd ht (fun hn => absurd hn hP) (fun _ => hA H locs ls g1 g2 g3 g4)
  · exact lv_if_le hC.1 hC.2.1 hd ht (fun _ => hA H locs ls g1 g2 g3 g4) (fun hn => absurd hP hn)
  · exact lv_if_le hC.1 hC.2.1 hd ht (fun hn => absurd hn hP) (fun _ => hA H locs ls g1 g2 g3 g4)
theorem pt_gf_ok {i : Nat} (hd : decode Y.2.1 pc = .ok (.getfield i, 3)) (h : pt_gf o pc L M (pt_fl Y.1 i) st = some (c, o', σ')) (hc : ∀ Z, c = some Z → Z) : pt_Go Y (pc, L, st, M) σ' := by
  unfold pt_gf at h
  split at h
  · cases h
  · rename_i k f hf
    split at h
    · split at h
      · cases h
      · rename_i hk
        split at h
        · cases h
        · rename_i hv
          cases h
          cases Nat.eq_of_beq_eq_true hk
          exact pt_getf hf (pt_vd_ok hv hc) hd
    · cases h
end PTS
