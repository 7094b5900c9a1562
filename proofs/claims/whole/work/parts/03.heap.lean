/-! reading and writing the memory: what it does to the heap's picture -/
theorem pt_one {D : va_G} {q : Nat × va_E} {H : Heap} (h : va_at D vwCl q H) : va_P D vwCl [q] H := by
  intro k z hz
  cases k with
  | zero => cases hz; exact h
  | succ k => cases hz
theorem pt_Hd.at {D : va_G} {ad : Nat → Nat → Nat} {cA : Nat → ClassId} {M : pt_M} {H : Heap} (h : pt_Hd D ad cA M H) {k i : Nat} {e : va_E} (hi : i < pt_ct k) (he : pt_ce ad cA M k i = some e) : va_P D vwCl [(ad k i, e)] H := pt_one (h k i e hi he)
theorem pt_dm_of {ad : Nat → Nat → Nat} {cA : Nat → ClassId} {M : pt_M} {k i : Nat} {e : va_E} (hi : i < pt_ct k) (he : pt_ce ad cA M k i = some e) : pt_dm k i := by
  refine ⟨hi, ?_⟩
  unfold pt_ce at he
  cases h : pt_ob k with
  | some q => exact Or.inl (by simp)
  | none =>
    rw [h] at he
    cases h2 : pt_ak k with
    | some q => exact Or.inr (by simp)
    | none => rw [h2] at he; cases he
/-- a cell is written: the heap holds the memory in which that cell alone is another -/
theorem pt_Hd.put {D : va_G} {ad : Nat → Nat → Nat} {cA : Nat → ClassId} {M M' : pt_M} {H H1 : Heap} {s : State} (hW : pt_Wd D ad cA s) (h : pt_Hd D ad cA M H) {k i : Nat} {e : va_E} (hd : pt_dm k i) (he : pt_ce ad cA M' k i = some e) (h1 : va_at D vwCl (ad k i, e) H1) (hq : ∀ q, q ≠ ad k i → H1[q]? = H[q]?)
    (ho : ∀ k' i', i' < pt_ct k' → ¬ (k' = k ∧ i' = i) → pt_ce ad cA M' k' i' = pt_ce ad cA M k' i') : pt_Hd D ad cA M' H1 := by
  intro k' i' e' hi' he'
  by_cases hk : k' = k ∧ i' = i
  · obtain ⟨rfl, rfl⟩ := hk
    rw [he] at he'
    cases he'
    exact h1
  · rw [ho k' i' hi' hk] at he'
    have hd' := pt_dm_of hi' he'
    refine (h k' i' e' hi' he').kept (hq _ fun z => hk ?_)
    exact hW.2.1 k' i' k i hd' hd z
theorem pt_fv_wF {M : pt_M} {k f i k' f' i' : Nat} {v : Int32} (h : ¬ (k' = k ∧ i' = i)) : pt_fv (pt_wF M k f i v) k' f' i' = pt_fv M k' f' i' := by
  unfold pt_fv
  split
  · rename_i h0
    have : pt_F (pt_wF M k f i v) k' f' i' = pt_F M k' f' i' := if_neg fun z => h ⟨z.1, z.2.2⟩
    rw [this]
  · rfl
  · rfl
theorem pt_ce_wF {ad : Nat → Nat → Nat} {cA : Nat → ClassId} {M : pt_M} {k f i k' i' : Nat} {v : Int32} (h : ¬ (k' = k ∧ i' = i)) : pt_ce ad cA (pt_wF M k f i v) k' i' = pt_ce ad cA M k' i' := by
  unfold pt_ce
  cases pt_ob k' with
  | some q => simp only [pt_fv_wF h]
  | none => rfl
theorem pt_ce_wA {ad : Nat → Nat → Nat} {cA : Nat → ClassId} {M : pt_M} {k i k' i' : Nat} {g : Nat → Int32} (h : ¬ (k' = k ∧ i' = i)) : pt_ce ad cA (pt_wA M k i g) k' i' = pt_ce ad cA M k' i' := by
  unfold pt_ce
  cases pt_ob k' with
  | some q => rfl
  | none =>
    have : pt_A (pt_wA M k i g) k' i' = pt_A M k' i' := if_neg h
    rw [this]
    rfl
theorem pt_A_wA {M : pt_M} {k i : Nat} {g : Nat → Int32} : pt_A (pt_wA M k i g) k i = g := if_pos ⟨rfl, rfl⟩
theorem pt_G_wG {M : pt_M} {k : Nat} {g : Nat → Int64} : pt_G (pt_wG M k g) k = g := if_pos rfl
theorem pt_ce_wG {ad : Nat → Nat → Nat} {cA : Nat → ClassId} {M : pt_M} {k k' i' : Nat} {g : Nat → Int64} (h : ¬ k' = k) : pt_ce ad cA (pt_wG M k g) k' i' = pt_ce ad cA M k' i' := by
  unfold pt_ce
  cases pt_ob k' with
  | some q => rfl
  | none =>
    have : pt_G (pt_wG M k g) k' = pt_G M k' := if_neg h
    rw [this]
    rfl
/-- the arrays' classes -/
theorem pt_Wd.ar {D : va_G} {ad : Nat → Nat → Nat} {cA : Nat → ClassId} {s : State} (h : pt_Wd D ad cA s) : va_K D vwCl [(cA 0, .int), (cA 1, .byte), (cA 2, .long), (cA 3, .object "PointTables$Table")] s := h.1
def pt_in (i : Int32) (n : Nat) : Prop := 0 ≤ i.toInt ∧ i.toInt < n
theorem pt_in_vp {i : Int32} {n : Nat} (h : pt_in i n) : vp_in i n := vp_in_iff.mpr h
def pt_nt (i : Int32) : Nat := i.toNatClampNeg
/-- the arrays of ints and bytes have that cell -/
theorem pt_ce_a {ad : Nat → Nat → Nat} {cA : Nat → ClassId} {M : pt_M} {k i t n : Nat} (h0 : pt_ob k = none) (ha : pt_ak k = some (t, n)) (ht : t < 2) : pt_ce ad cA M k i = some (.inl (cA t, n, .inl (pt_A M k i))) := by
  unfold pt_ce
  rw [h0, ha]
  match t, ht with
  | 0, _ => rfl
  | 1, _ => rfl
theorem pt_ce_l {ad : Nat → Nat → Nat} {cA : Nat → ClassId} {M : pt_M} {k i n : Nat} (h0 : pt_ob k = none) (ha : pt_ak k = some (2, n)) : pt_ce ad cA M k i = some (.inl (cA 2, n, .inr (.inl (pt_G M k)))) := by
  unfold pt_ce
  rw [h0, ha]
  rfl
theorem pt_ce_q {ad : Nat → Nat → Nat} {cA : Nat → ClassId} {M : pt_M} {k i n : Nat} (h0 : pt_ob k = none) (ha : pt_ak k = some (3, n)) : pt_ce ad cA M k i = some (.inl (cA 3, n, .inr (.inr (.inr (.inr fun p => some (ad 3 (pt_R M (p + 1)))))))) := by
  unfold pt_ce
  rw [h0, ha]
  rfl
theorem pt_ce_o {ad : Nat → Nat → Nat} {cA : Nat → ClassId} {M : pt_M} {k i ci n : Nat} (h0 : pt_ob k = some (ci, n)) : pt_ce ad cA M k i = some (.inr (ci, (List.range n).map fun f => pt_cv ad (pt_fv M k f i))) := by
  unfold pt_ce
  rw [h0]
theorem pt_ob_ak : ∀ {k : Nat} {q : Nat × Nat}, pt_ak k = some q → pt_ob k = none := by
  intro k q h
  unfold pt_ak at h
  split at h <;> first | rfl | cases h

theorem pt_gd {l : List Nat} (h : ∀ x ∈ l, x ≠ 1) (f : Nat) : l.getD f 0 ≠ 1 := by
  rw [List.getD_eq_getElem?_getD]
  cases hf : l[f]? with
  | none => exact fun z => by cases z
  | some x => exact h x (List.mem_of_getElem? hf)
theorem pt_fs1 {k f : Nat} (h : pt_fs k f = 1) : k = 2 := by
  unfold pt_fs at h
  split at h
  · rfl
  · exact absurd h (pt_gd (by decide) f)
  · exact absurd h (pt_gd (by decide) f)
  · exact absurd h (pt_gd (by decide) f)
  · exact absurd h (pt_gd (by decide) f)
  · exact absurd h (pt_gd (by decide) f)
  · cases h
