/-! the classes as the tables have them -/
theorem ar_K {args : Array Value} {s : State} {ty : FieldType} (h : (Cond.arrayClass ty).before args s = true) : ∃ c, ArrOfT s c ty ∧ s.vm.findClass ("[" ++ ty.toString) = some c := by
  obtain ⟨c, k, comp, h1, h2, h3⟩ := Cond.arrayClass_spec h
  exact ⟨c, fun n z => ⟨fun k h => (by cases h), k, h2, comp, h3⟩, h1⟩
theorem law_D {args : Array Value} {s : State} (hts : ∀ w ∈ pt_tb, w.before args s = true) (hao : va_AO "PointTables$Table" s) : ∃ (D : va_G) (cA : Nat → ClassId), va_K D vwCl (nw0_T cA) s := by
  obtain ⟨c0, i0, k0⟩ := u_known (T := TX0) (N := 1) (n := 1) hts (pt_us' (ci := 0) rfl) (hts _ (pt_wi_ok (i := 130) (by decide +kernel)))
  obtain ⟨c1, i1, k1⟩ := u_known (T := TX3) (N := 4) (n := 4) hts (pt_us' (ci := 1) rfl) (hts _ (pt_wi_ok (i := 140) (by decide +kernel)))
  obtain ⟨c2, i2, k2⟩ := u_known (T := TX4) (N := 6) (n := 6) hts (pt_us' (ci := 2) rfl) (hts _ (pt_wi_ok (i := 78) (by decide +kernel)))
  obtain ⟨c3, i3, k3⟩ := u_known (T := TX5) (N := 2) (n := 2) hts (pt_us' (ci := 3) rfl) (hts _ (pt_wi_ok (i := 115) (by decide +kernel)))
  obtain ⟨c4, i4, k4⟩ := u_known (T := TX6) (N := 12) (n := 12) hts (pt_us' (ci := 4) rfl) (hts _ (pt_wi_ok (i := 69) (by decide +kernel)))
  obtain ⟨c5, i5, k5⟩ := u_known (T := TX7) (N := 21) (n := 21) hts (pt_us' (ci := 5) rfl) (hts _ (pt_wi_ok (i := 659) (by decide +kernel)))
  obtain ⟨a0, r0, f0⟩ := ar_K (ty := .int) (hts _ (pt_wi_ok (i := 113) (by decide +kernel)))
  obtain ⟨a1, r1, f1⟩ := ar_K (ty := .byte) (hts _ (pt_wi_ok (i := 644) (by decide +kernel)))
  obtain ⟨a2, r2, f2⟩ := ar_K (ty := .long) (hts _ (pt_wi_ok (i := 728) (by decide +kernel)))
  obtain ⟨comp, a3, k9, g1, -, g2, g3, g4⟩ := Cond.arrayOver_spec hao
  refine ⟨(fun c => match c with | 0 => c0 | 1 => c1 | 2 => c2 | 3 => c3 | 4 => c4 | _ => c5, fun c => match c with | 0 => i0 | 1 => i1 | 2 => i2 | 3 => i3 | 4 => i4 | _ => i5), fun t => match t with | 0 => a0 | 1 => a1 | 2 => a2 | _ => a3, fun c q hq => ?_, fun k q hk => ?_⟩
  · match c, hq with
    | 0, hq => cases hq; exact k0
    | 1, hq => cases hq; exact k1
    | 2, hq => cases hq; exact k2
    | 3, hq => cases hq; exact k3
    | 4, hq => cases hq; exact k4
    | 5, hq => cases hq; exact k5
    | n + 6, hq => cases hq
  · match k, hk with
    | 0, hk => cases hk; exact ⟨r0, f0⟩
    | 1, hk => cases hk; exact ⟨r1, f1⟩
    | 2, hk => cases hk; exact ⟨r2, f2⟩
    | 3, hk => cases hk; exact ⟨fun n z => ⟨fun k h => (by cases h), k9, g2, comp, g3⟩, k9, comp, g2, g3, g1, g4⟩
    | n + 4, hk => cases hk
theorem of0_inj : ((List.range 51).all fun k => (List.range 7).all fun i => (List.range 51).all fun k' => (List.range 7).all fun i' => !(decide (i < pt_ct k) && ((pt_ob k).isSome || (pt_ak k).isSome)) || (!(decide (i' < pt_ct k') && ((pt_ob k').isSome || (pt_ak k').isSome)) || (!(Nat.beq (of0 k i) (of0 k' i')) || (Nat.beq k k' && Nat.beq i i')))) = true := by decide +kernel
theorem dm_lt {k i : Nat} (h : pt_dm k i) : k < 51 ∧ i < 7 ∧ (decide (i < pt_ct k) && ((pt_ob k).isSome || (pt_ak k).isSome)) = true := by
  obtain ⟨h1, h2⟩ := h
  refine ⟨?_, ?_, ?_⟩
  · rcases Nat.lt_or_ge k 51 with z | z
    · exact z
    · rw [ob_hi z, ak_hi z] at h2
      exact absurd rfl (h2.elim id id)
  · have : pt_ct k ≤ 7 := by
      unfold pt_ct
      split <;> decide
    omega
  · rw [Bool.and_eq_true, Bool.or_eq_true]
    refine ⟨decide_eq_true h1, h2.imp (fun z => ?_) fun z => ?_⟩
    · exact Option.isSome_iff_ne_none.mpr z
    · exact Option.isSome_iff_ne_none.mpr z
theorem ad0_inj {b h0 : Nat} {a5 : Nat → Nat} : ∀ k i k' i', pt_dm k i → pt_dm k' i' → ad0 b h0 a5 k i = ad0 b h0 a5 k' i' → k = k' ∧ i = i' := by
  intro k i k' i' h h' e
  obtain ⟨a1, a2, a3⟩ := dm_lt h
  obtain ⟨b1, b2, b3⟩ := dm_lt h'
  have e1 : ∀ {k i}, k < 51 → ad0 b h0 a5 k i = h0 + of0 k i := fun {k i} hk => by
    unfold ad0
    rw [if_neg (by omega), if_neg (by omega)]
  rw [e1 a1, e1 b1] at e
  have z := pt_all (pt_all (pt_all (pt_all of0_inj a1) a2) b1) b2
  rw [a3, b3, Bool.or_eq_true, Bool.or_eq_true, Bool.or_eq_true, Bool.and_eq_true] at z
  rcases z with z | z | z | z
  · cases z
  · cases z
  · rw [Nat.add_left_cancel e] at z
    have : Nat.beq (of0 k' i') (of0 k' i') = true := Nat.beq_refl _
    rw [this] at z
    cases z
  · exact ⟨Nat.eq_of_beq_eq_true z.1, Nat.eq_of_beq_eq_true z.2⟩
