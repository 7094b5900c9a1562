set_option maxHeartbeats 4000000 in
theorem pt_stp_ok {Y : pt_Y} {I : Instr} {n tgt : Nat} {o o' : List pt_O} {σ σ' : pt_S} {c : Option Prop} (h : pt_stp Y I n tgt o σ = some (c, o', σ')) (hc : ∀ Z, c = some Z → Z) (hd : decode Y.2.1 σ.1 = .ok (I, n)) (hn : n = pt_ln I) (ht : pt_tg I σ.1 tgt = true) : pt_Go Y σ σ' := by
  obtain ⟨pc, L, st, M⟩ := σ
  subst hn
  unfold pt_stp at h
  dsimp only at h hd ht
  split at h
  · exact pt_ldi_ok hd h
  · exact pt_ldin_ok hd h
  · exact pt_lda_ok hd h
  · exact pt_ldan_ok hd h
  · exact pt_ldl_ok hd h
  · exact pt_svi_ok hd h
  · exact pt_svin_ok hd h
  · exact pt_sva_ok hd h
  · exact pt_svan_ok hd h
  · split at h
    · split at h
      · rename_i hk
        cases h
        intro p l e s m args below meth c D ad cA A cells slots Q hC hA H locs ls g1 g2 g3 g4
        exact lv_lstore hC.1 hC.2.1 hd g4 (Nat.le_of_ble_eq_true hk) rfl (fun ls' h' => hA H locs ls' g1 g2 g3 (pt_has2 (v := pt_l _) h'))
      · cases h
    · cases h
  · cases h
    intro p l e s m args below meth c D ad cA A cells slots Q hC hA H locs ls g1 g2 g3 g4
    exact lv_iconst hC.1 hC.2.1 hd rfl (hA H locs ls g1 g2 g3 g4)
  · cases h
    intro p l e s m args below meth c D ad cA A cells slots Q hC hA H locs ls g1 g2 g3 g4
    exact lv_bipush hC.1 hC.2.1 hd rfl (hA H locs ls g1 g2 g3 g4)
  · cases h
    intro p l e s m args below meth c D ad cA A cells slots Q hC hA H locs ls g1 g2 g3 g4
    exact lv_sipush hC.1 hC.2.1 hd rfl (hA H locs ls g1 g2 g3 g4)
  · cases h
    intro p l e s m args below meth c D ad cA A cells slots Q hC hA H locs ls g1 g2 g3 g4
    exact lv_lconst hC.1 hC.2.1 hd rfl (hA H locs ls g1 g2 g3 g4)
  · split at h
    · rename_i hk
      cases h
      intro p l e s m args below meth c D ad cA A cells slots Q hC hA H locs ls g1 g2 g3 g4
      exact lv_ldcw hC.1 hC.2.1 hC.2.2.2.2.1 (hC.2.2.2.2.2.1 _ (pt_kc_ok hk)) hd (hA H locs ls g1 g2 g3 g4)
    · cases h
  · split at h
    · rename_i hk
      cases h
      intro p l e s m args below meth c D ad cA A cells slots Q hC hA H locs ls g1 g2 g3 g4
      exact lv_ldc2 hC.1 hC.2.1 hC.2.2.2.2.1 (hC.2.2.2.2.2.1 _ (pt_kl_ok hk)) hd (hA H locs ls g1 g2 g3 g4)
    · cases h
  · cases h
    intro p l e s m args below meth c D ad cA A cells slots Q hC hA H locs ls g1 g2 g3 g4
    exact lv_null hC.1 hC.2.1 hd (hA H locs ls g1 g2 g3 g4)
  · obtain ⟨x, y, st', rfl, -, rfl⟩ := pt_s2_in h
    intro p l e s m args below meth c D ad cA A cells slots Q hC hA H locs ls g1 g2 g3 g4
    exact lv_iadd hC.1 hC.2.1 hd (hA H locs ls g1 g2 g3 g4)
  · obtain ⟨x, y, st', rfl, -, rfl⟩ := pt_s2_in h
    intro p l e s m args below meth c D ad cA A cells slots Q hC hA H locs ls g1 g2 g3 g4
    exact lv_isub hC.1 hC.2.1 hd (hA H locs ls g1 g2 g3 g4)
  · obtain ⟨x, y, st', rfl, -, rfl⟩ := pt_s2_in h
    intro p l e s m args below meth c D ad cA A cells slots Q hC hA H locs ls g1 g2 g3 g4
    exact lv_imul hC.1 hC.2.1 hd (hA H locs ls g1 g2 g3 g4)
  · obtain ⟨x, y, st', rfl, hq, rfl⟩ := pt_s2_in h
    intro p l e s m args below meth c D ad cA A cells slots Q hC hA H locs ls g1 g2 g3 g4
    exact lv_idiv hC.1 hC.2.1 hd (hc _ hq) (hA H locs ls g1 g2 g3 g4)
  · obtain ⟨x, y, st', rfl, hq, rfl⟩ := pt_s2_in h
    intro p l e s m args below meth c D ad cA A cells slots Q hC hA H locs ls g1 g2 g3 g4
    exact lv_irem hC.1 hC.2.1 hd (hc _ hq) (hA H locs ls g1 g2 g3 g4)
  · obtain ⟨x, y, st', rfl, -, rfl⟩ := pt_s2_in h
    intro p l e s m args below meth c D ad cA A cells slots Q hC hA H locs ls g1 g2 g3 g4
    exact lv_iand hC.1 hC.2.1 hd (hA H locs ls g1 g2 g3 g4)
  · obtain ⟨x, y, st', rfl, -, rfl⟩ := pt_s2_in h
    intro p l e s m args below meth c D ad cA A cells slots Q hC hA H locs ls g1 g2 g3 g4
    exact lv_ior hC.1 hC.2.1 hd (hA H locs ls g1 g2 g3 g4)
  · obtain ⟨x, y, st', rfl, -, rfl⟩ := pt_s2_in h
    intro p l e s m args below meth c D ad cA A cells slots Q hC hA H locs ls g1 g2 g3 g4
    exact lv_ixor hC.1 hC.2.1 hd (hA H locs ls g1 g2 g3 g4)
  · obtain ⟨x, y, st', rfl, -, rfl⟩ := pt_s2_in h
    intro p l e s m args below meth c D ad cA A cells slots Q hC hA H locs ls g1 g2 g3 g4
    exact lv_ishl hC.1 hC.2.1 hd (hA H locs ls g1 g2 g3 g4)
  · obtain ⟨x, y, st', rfl, -, rfl⟩ := pt_s2_in h
    intro p l e s m args below meth c D ad cA A cells slots Q hC hA H locs ls g1 g2 g3 g4
    exact lv_ishr hC.1 hC.2.1 hd (hA H locs ls g1 g2 g3 g4)
  · obtain ⟨x, y, st', rfl, -, rfl⟩ := pt_s2_in h
    intro p l e s m args below meth c D ad cA A cells slots Q hC hA H locs ls g1 g2 g3 g4
    exact lv_iushr hC.1 hC.2.1 hd rfl (hA H locs ls g1 g2 g3 g4)
  · obtain ⟨x, st', rfl, rfl⟩ := pt_s1_in h
    intro p l e s m args below meth c D ad cA A cells slots Q hC hA H locs ls g1 g2 g3 g4
    exact lv_ineg hC.1 hC.2.1 hd (hA H locs ls g1 g2 g3 g4)
  · obtain ⟨x, st', rfl, rfl⟩ := pt_s1_in h
    intro p l e s m args below meth c D ad cA A cells slots Q hC hA H locs ls g1 g2 g3 g4
    exact lv_i2b hC.1 hC.2.1 hd rfl (hA H locs ls g1 g2 g3 g4)
  · obtain ⟨x, st', rfl, rfl⟩ := pt_s1_in h
    intro p l e s m args below meth c D ad cA A cells slots Q hC hA H locs ls g1 g2 g3 g4
    exact lv_i2s hC.1 hC.2.1 hd rfl (hA H locs ls g1 g2 g3 g4)
  · obtain ⟨x, st', rfl, rfl⟩ := pt_s1_in h
    intro p l e s m args below meth c D ad cA A cells slots Q hC hA H locs ls g1 g2 g3 g4
    exact lv_i2l hC.1 hC.2.1 hd rfl (hA H locs ls g1 g2 g3 g4)
  · obtain ⟨x, y, st', rfl, rfl⟩ := pt_g2_in h
    intro p l e s m args below meth c D ad cA A cells slots Q hC hA H locs ls g1 g2 g3 g4
    exact lv_lsub hC.1 hC.2.1 hd (hA H locs ls g1 g2 g3 g4)
  · obtain ⟨x, y, st', rfl, rfl⟩ := pt_g2_in h
    intro p l e s m args below meth c D ad cA A cells slots Q hC hA H locs ls g1 g2 g3 g4
    exact lv_lmul hC.1 hC.2.1 hd (hA H locs ls g1 g2 g3 g4)
  · obtain ⟨x, y, st', rfl, rfl⟩ := pt_g2_in h
    intro p l e s m args below meth c D ad cA A cells slots Q hC hA H locs ls g1 g2 g3 g4
    exact W.lcmp hC.1 hC.2.1 hd (hA H locs ls g1 g2 g3 g4)
  · cases h
    intro p l e s m args below meth c D ad cA A cells slots Q hC hA H locs ls g1 g2 g3 g4
    exact lv_goto hC.1 hC.2.1 hd (of_decide_eq_true ht) (hA H locs ls g1 g2 g3 g4)
  · split at h
    · exact pt_icmp_ok hd (of_decide_eq_true ht) (pt_br_in h hc)
    · cases h
  · split at h
    · exact pt_if_ok hd (of_decide_eq_true ht) (pt_br_in h hc)
    · cases h
  · split at h
    · cases h
      intro p l e s m args below meth c D ad cA A cells slots Q hC hA H locs ls g1 g2 g3 g4
      exact lv_ifnullN hC.1 hC.2.1 hd (of_decide_eq_true ht) (hA H locs ls g1 g2 g3 g4)
    · cases h
      intro p l e s m args below meth c D ad cA A cells slots Q hC hA H locs ls g1 g2 g3 g4
      exact lv_ifnull hC.1 hC.2.1 hd (hA H locs ls g1 g2 g3 g4)
    · cases h
  · split at h
    · cases h
      intro p l e s m args below meth c D ad cA A cells slots Q hC hA H locs ls g1 g2 g3 g4
      exact lv_ifnonnullN hC.1 hC.2.1 hd (hA H locs ls g1 g2 g3 g4)
    · cases h
      intro p l e s m args below meth c D ad cA A cells slots Q hC hA H locs ls g1 g2 g3 g4
      exact lv_ifnonnull hC.1 hC.2.1 hd (of_decide_eq_true ht) (hA H locs ls g1 g2 g3 g4)
    · cases h
  · split at h
    · rename_i hlk
      split at h
      · rename_i hk
        cases h
        intro p l e s m args below meth c D ad cA A cells slots Q hC hA H locs ls g1 g2 g3 g4
        obtain ⟨kq, hkq⟩ := List.getElem?_of_mem (List.mem_map.mpr ⟨_, pt_lk_mem hlk, rfl⟩ : _ ∈ pt_cl ad L)
        exact lv_iinc hC.1 hC.2.1 hd g4 (k := kq) hkq rfl (Nat.le_of_ble_eq_true hk) rfl (fun ls' h' => hA H locs ls' g1 g2 g3 (pt_has1 (v := pt_i _) h'))
      · cases h
    · cases h
  · split at h
    · split at h
      · rename_i hv
        cases h
        intro p l e s m args below meth c D ad cA A cells slots Q hC hA H locs ls g1 g2 g3 g4
        exact lv_dup hC.1 hC.2.1 hd (by rw [pt_cat, hv]; rfl) (hA H locs ls g1 g2 g3 g4)
      · cases h
    · cases h
  · split at h
    · split at h
      · rename_i hv
        cases h
        rw [Bool.or_eq_false_iff] at hv
        intro p l e s m args below meth c D ad cA A cells slots Q hC hA H locs ls g1 g2 g3 g4
        exact lv_dup2_11 hC.1 hC.2.1 hd (by rw [pt_cat, hv.1]; rfl) (by rw [pt_cat, hv.2]; rfl) (hA H locs ls g1 g2 g3 g4)
      · cases h
    · cases h
  · exact pt_gf_ok hd h hc
  · exact pt_pf_ok hd h hc
  · split at h
    · rename_i k hk
      cases h
      intro p l e s m args below meth c D ad cA A cells slots Q hC hA H locs ls g1 g2 g3 g4
      obtain ⟨nm, hnm, hw⟩ := pt_sk_ok hk
      obtain ⟨k, rfl⟩ : ∃ n, k = n + 1 := by
        apply pt_k1
        rintro rfl
        cases hnm
      exact va_gets hC.1 hC.2.1 (g2.2 _ _ hnm) g3 hC.2.2.2.2.1 (hC.2.2.2.2.2.1 _ hw) (fun _ z => z) hd (hA H locs ls g1 g2 g3 g4)
    · cases h
  · exact pt_al_ok hd (Or.inl ⟨rfl, rfl⟩) h hc
  · exact pt_al_ok hd (Or.inr (Or.inl ⟨rfl, rfl⟩)) h hc
  · exact pt_al_ok hd (Or.inr (Or.inr (Or.inl ⟨rfl, rfl⟩))) h hc
  · exact pt_al_ok hd (Or.inr (Or.inr (Or.inr ⟨rfl, rfl⟩))) h hc
  · exact pt_as_ok hd (Or.inl ⟨rfl, rfl⟩) h hc
  · exact pt_as_ok hd (Or.inr (Or.inl ⟨rfl, rfl⟩)) h hc
  · exact pt_as_ok hd (Or.inr (Or.inr (Or.inl ⟨rfl, rfl⟩))) h hc
  · exact pt_as_ok hd (Or.inr (Or.inr (Or.inr ⟨rfl, rfl⟩))) h hc
  · exact pt_len_ok hd h hc
  · exact pt_cal_ok hd h hc
  · exact pt_cal_ok hd h hc
  · cases h
/-- a method's instructions, by sixteens: place, instruction, length, target -/
abbrev pt_B : Type := List (List (Nat × Instr × Nat × Nat))
def pt_b1 : List (Nat × Instr × Nat × Nat) → Nat → Option (Instr × Nat × Nat)
  | [], _ => none
  | q :: t, i => match Nat.beq q.1 i with
    | true => some q.2
    | false => pt_b1 t i
def pt_bn : pt_B → Nat → List (Nat × Instr × Nat × Nat)
  | [], _ => []
  | q :: _, 0 => q
  | _ :: t, n + 1 => pt_bn t n
def pt_okI (b : ByteArray) (q : Nat × Instr × Nat × Nat) : Bool := match decode b q.1 with
  | .ok z => decide (z = (q.2.1, q.2.2.1)) && Nat.beq q.2.2.1 (pt_ln q.2.1) && pt_tg q.2.1 q.1 q.2.2.2
  | .error _ => false
def pt_ok (b : ByteArray) (t : pt_B) : Bool := t.all fun r => r.all (pt_okI b)
theorem pt_b1_mem : ∀ {l : List (Nat × Instr × Nat × Nat)} {i : Nat} {v : Instr × Nat × Nat}, pt_b1 l i = some v → (i, v) ∈ l
  | [], _, _, h => by cases h
  | q :: t, i, v, h => by
    unfold pt_b1 at h
    split at h
    · rename_i hq
      cases h
      have : q.1 = i := Nat.eq_of_beq_eq_true hq
      subst this
      exact List.mem_cons_self
    · exact List.mem_cons_of_mem _ (pt_b1_mem h)
theorem pt_bn_all {P : Nat × Instr × Nat × Nat → Bool} : ∀ {t : pt_B} {n : Nat}, (t.all fun r => r.all P) = true → ∀ q ∈ pt_bn t n, P q = true
  | [], n, _, q, h => by cases n <;> cases h
  | r :: t, 0, ha, q, h => by
    rw [List.all_cons, Bool.and_eq_true] at ha
    exact List.all_eq_true.mp ha.1 q h
  | r :: t, n + 1, ha, q, h => by
    rw [List.all_cons, Bool.and_eq_true] at ha
    exact pt_bn_all (n := n) ha.2 q h
def pt_run (Y : pt_Y) (t : pt_B) : Nat → List pt_O → pt_S → Option (Prop × pt_S)
  | 0, _, σ => some (True, σ)
  | k + 1, o, σ => match pt_b1 (pt_bn t (σ.1 / 16)) σ.1 with
    | none => none
    | some q => match pt_stp Y q.1 q.2.1 q.2.2 o σ with
      | none => none
      | some r => match pt_run Y t k r.2.1 r.2.2 with
        | none => none
        | some z => some (match r.1 with
          | none => z.1
          | some P => P ∧ z.1, z.2)
theorem pt_run_ok {Y : pt_Y} {t : pt_B} (hok : pt_ok Y.2.1 t = true) : ∀ (k : Nat) (o : List pt_O) {σ τ : pt_S} {P : Prop}, pt_run Y t k o σ = some (P, τ) → P → pt_Go Y σ τ
  | 0, o, σ, τ, P, h, hP => by
    unfold pt_run at h
    cases h
    exact pt_Go.rf
  | k + 1, o, σ, τ, P, h, hP => by
    unfold pt_run at h
    split at h
    · cases h
    · rename_i q hq
      split at h
      · cases h
      · rename_i r hr
        split at h
        · cases h
        · rename_i z hz
          cases h
          have hm := pt_bn_all hok _ (pt_b1_mem hq)
          unfold pt_okI at hm
          obtain ⟨I, n, tg⟩ := q
          obtain ⟨c, o', σ'⟩ := r
          obtain ⟨P', τ'⟩ := z
          split at hm
          · rename_i z hdz
            rw [Bool.and_eq_true, Bool.and_eq_true] at hm
            obtain ⟨⟨h1, h2⟩, h3⟩ := hm
            have e1 := of_decide_eq_true h1
            rw [e1] at hdz
            dsimp only at hr hz hP hdz h2 h3
            cases c with
            | none => exact (pt_stp_ok hr (fun Z z => by cases z) hdz (Nat.eq_of_beq_eq_true h2) h3).tr (pt_run_ok hok k o' hz hP)
            | some P0 => exact (pt_stp_ok hr (fun Z z => by cases z; exact hP.1) hdz (Nat.eq_of_beq_eq_true h2) h3).tr (pt_run_ok hok k o' hz hP.2)
          · cases hm
