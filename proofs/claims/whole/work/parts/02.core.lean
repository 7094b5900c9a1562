/-- the tables' words that stay -/
def pt_tb : List Cond := lw_tbl.filter goodWord
theorem pt_tb_of {w : Cond} (h : w ∈ lw_tbl) (g : goodWord w = true) : w ∈ pt_tb := List.mem_filter.mpr ⟨h, g⟩
/-! THE ABSTRACT MACHINE: values whose references are (kind, number); a memory of plain functions; what a state of it says of the machine's -/
abbrev pt_V : Type := Int32 ⊕ (Int64 ⊕ (Nat × Nat))
abbrev pt_i (x : Int32) : pt_V := Sum.inl x
abbrev pt_l (x : Int64) : pt_V := Sum.inr (Sum.inl x)
abbrev pt_r (k i : Nat) : pt_V := Sum.inr (Sum.inr (k, i))
abbrev pt_n : pt_V := Sum.inr (Sum.inr (0, 0))
/-- fields F kind field number; arrays A kind number place; longs; the tables in the slots and the spare; the script -/
abbrev pt_M : Type := (Nat → Nat → Nat → Int32) × (Nat → Nat → Nat → Int32) × (Nat → Nat → Int64) × (Nat → Nat) × Nat × (Nat → Int32)
abbrev pt_S : Type := Nat × List (Nat × pt_V) × List pt_V × pt_M
def pt_F (M : pt_M) : Nat → Nat → Nat → Int32 := M.1
def pt_A (M : pt_M) : Nat → Nat → Nat → Int32 := M.2.1
def pt_G (M : pt_M) : Nat → Nat → Int64 := M.2.2.1
def pt_R (M : pt_M) : Nat → Nat := M.2.2.2.1
def pt_L (M : pt_M) : Nat := M.2.2.2.2.1
def pt_X (M : pt_M) : Nat → Int32 := M.2.2.2.2.2
def pt_wF (M : pt_M) (k f i : Nat) (v : Int32) : pt_M := (fun k' f' i' => if k' = k ∧ f' = f ∧ i' = i then v else M.1 k' f' i', M.2)
/-- a whole array's new contents -/
def pt_wA (M : pt_M) (k i : Nat) (g : Nat → Int32) : pt_M := (M.1, fun k' i' => if k' = k ∧ i' = i then g else M.2.1 k' i', M.2.2)
def pt_wG (M : pt_M) (k : Nat) (g : Nat → Int64) : pt_M := (M.1, M.2.1, fun k' => if k' = k then g else M.2.2.1 k', M.2.2.2)
def pt_wR (M : pt_M) (p v : Nat) : pt_M := (M.1, M.2.1, M.2.2.1, fun q => if q = p then v else M.2.2.2.1 q, M.2.2.2.2)
def pt_cv (ad : Nat → Nat → Nat) : pt_V → Value
  | .inl x => .int x
  | .inr (.inl y) => .long y
  | .inr (.inr (0, _)) => .null
  | .inr (.inr (k + 1, i)) => .ref (ad (k + 1) i)
def pt_cl (ad : Nat → Nat → Nat) (l : List (Nat × pt_V)) : List (Nat × Value) := l.map fun q => (q.1, pt_cv ad q.2)
/-- the objects: class number among vwCl, how many fields -/
def pt_ob (k : Nat) : Option (Nat × Nat) := match k with
  | 2 => some (4, 12)
  | 3 => some (2, 6)
  | 4 => some (3, 2)
  | 5 => some (0, 1)
  | 6 => some (1, 4)
  | 7 => some (5, 21)
  | _ => none
/-- what a field is: 0 a number, 1 the spare, else a fixed reference to that kind -/
def pt_fs (k f : Nat) : Nat := match k with
  | 2 => [10, 1, 4, 5, 6, 20, 0, 0, 21, 22, 23, 24].getD f 0
  | 3 => [0, 11, 0, 0, 12, 13].getD f 0
  | 4 => [14, 0].getD f 0
  | 5 => [15].getD f 0
  | 6 => [16, 17, 18, 19].getD f 0
  | 7 => [0, 30, 0, 0, 31, 32, 33, 34, 0, 35, 36, 37, 38, 39, 40, 41, 0, 42, 43, 44, 45].getD f 0
  | _ => 0
def pt_fv (M : pt_M) (k f i : Nat) : pt_V := match pt_fs k f with
  | 0 => pt_i (pt_F M k f i)
  | 1 => pt_r 3 (pt_R M 0)
  | n + 2 => pt_r (n + 2) i
/-- the arrays: of ints 0, bytes 1, longs 2, tables 3; their lengths -/
def pt_ak (k : Nat) : Option (Nat × Nat) := match k with
  | 10 => some (3, 6)
  | 11 => some (0, 100)
  | 12 => some (0, 120)
  | 13 => some (0, 120)
  | 14 => some (0, 140)
  | 15 => some (0, 10)
  | 16 => some (0, 45)
  | 17 => some (0, 10)
  | 18 => some (0, 10)
  | 19 => some (0, 100)
  | 20 => some (0, 120)
  | 21 => some (0, 10)
  | 22 => some (0, 10)
  | 23 => some (0, 10)
  | 24 => some (0, 120)
  | 30 => some (1, 140)
  | 31 => some (0, 6)
  | 32 => some (0, 960)
  | 33 => some (2, 10)
  | 34 => some (2, 10)
  | 35 => some (0, 10)
  | 36 => some (0, 5)
  | 37 => some (0, 120)
  | 38 => some (0, 120)
  | 39 => some (0, 120)
  | 40 => some (0, 120)
  | 41 => some (1, 120)
  | 42 => some (0, 10)
  | 43 => some (0, 100)
  | 44 => some (0, 7)
  | 45 => some (0, 448)
  | 50 => some (2, 1)
  | _ => none
/-- how many of a kind -/
def pt_ct (k : Nat) : Nat := match k with
  | 3 => 7
  | 11 => 7
  | 12 => 7
  | 13 => 7
  | _ => 1
def pt_dm (k i : Nat) : Prop := i < pt_ct k ∧ (pt_ob k ≠ none ∨ pt_ak k ≠ none)
def pt_ce (ad : Nat → Nat → Nat) (cA : Nat → ClassId) (M : pt_M) (k i : Nat) : Option va_E := match pt_ob k with
  | some q => some (.inr (q.1, (List.range q.2).map fun f => pt_cv ad (pt_fv M k f i)))
  | none => match pt_ak k with
    | none => none
    | some (2, n) => some (.inl (cA 2, n, .inr (.inl (pt_G M k))))
    | some (3, n) => some (.inl (cA 3, n, .inr (.inr (.inr (.inr fun p => some (ad 3 (pt_R M (p + 1))))))))
    | some (t, n) => some (.inl (cA t, n, .inl (pt_A M k i)))
/-- the heap holds the memory -/
def pt_Hd (D : va_G) (ad : Nat → Nat → Nat) (cA : Nat → ClassId) (M : pt_M) (H : Heap) : Prop := ∀ (k i : Nat) (e : va_E), i < pt_ct k → pt_ce ad cA M k i = some e → va_at D vwCl (ad k i, e) H
def pt_ty (t : Nat) : FieldType := match t with
  | 0 => .int
  | 1 => .byte
  | 2 => .long
  | _ => .object "PointTables$Table"
/-- private methods of the outer class -/
def pt_nw (s : State) : Prop := va_Nw (.methodLinkNest RX0 31 yX6_turnsOf "PointTables") s ∧ va_Nw (.methodLinkNest RX3 30 yX6_swapsOf "PointTables") s
/-- what the tables say, and that the addresses are apart -/
def pt_Wd (D : va_G) (ad : Nat → Nat → Nat) (cA : Nat → ClassId) (s : State) : Prop :=
  va_K D vwCl [(cA 0, .int), (cA 1, .byte), (cA 2, .long), (cA 3, .object "PointTables$Table")] s ∧ (∀ k i k' i', pt_dm k i → pt_dm k' i' → ad k i = ad k' i' → k = k' ∧ i = i') ∧ pt_nw s
/-- an array of ints that is only read; its length as the machine tells it -/
def px_X (b L : Nat) (xs : Nat → Int32) (U : State) (H : Heap) : Prop := ∃ scr : Cell, H[b]? = some scr ∧ U.isArrayOf scr .int ∧ scr.vm ≠ .unknown ∧ L ≤ scr.slots.size ∧ scr.slots.size.toInt32 = Int32.ofNat L ∧ ∀ j : Nat, j < L → scr.slots[j]? = some (.int (xs j))
theorem px_X.kept {b L : Nat} {xs : Nat → Int32} {U : State} {H H1 : Heap} (h : px_X b L xs U H) (hq : H1[b]? = H[b]?) : px_X b L xs U H1 := by
  obtain ⟨scr, h1, h2⟩ := h
  exact ⟨scr, by rw [hq]; exact h1, h2⟩
theorem px_X.moved {b L : Nat} {xs : Nat → Int32} {u U : State} {H : Heap} (hvm : u.vm.Alike U.vm) (h : px_X b L xs u H) : px_X b L xs U H := by
  obtain ⟨scr, h1, h2, h3⟩ := h
  exact ⟨scr, h1, State.isArrayOf_alike hvm h2, h3⟩
theorem px_of {b L : Nat} {xs : Nat → Int32} {U : State} {H : Heap} (h : va_X b L xs U H) : px_X b L xs U H := by
  obtain ⟨scr, h1, h2, h3, h4, h5⟩ := h
  exact ⟨scr, h1, h2, h3, Nat.le_of_eq h4.symm, by rw [h4], h5⟩
theorem px_T {b L : Nat} {f : Nat → Value} {xs : Nat → Int32} {A : Nat → Prop} {U : State} {H : Heap} (h : va_T .int b L f A U H) (hf : ∀ j, j < L → f j = .int (xs j)) : px_X b L xs U H := by
  obtain ⟨scr, h1, h2, h3, h4, h5, h6, -⟩ := h
  exact ⟨scr, h1, h2, h3, h4, h5, fun j hj => by rw [h6 j hj, hf j hj]⟩
section PXM
variable {p : Program} {l : Launch} {e : Env} {R : Room} {s : State} {m : MethodId} {args : Array Value} {below : List Frame} {meth : Method} {c : Code} {H H0 : Heap} {locs : List Loc} {cells slots : Nat} {Q : State → Prop}
variable {cc : ByteArray} {pc : Nat} {ls : Array Slot} {rest : List Value} {A : Nat → Prop}
theorem px_sld (hexec : p.tables.exec = Jvm.exec) (hb : c.code = cc) {b L : Nat} {xs : Nat → Int32} (hX : px_X b L xs s H0) (hbl : b < H0.size) (hbA : ¬ A b) (hS : va_S A H0 H locs) {i : Int32} (hin : vp_in i L) (hdg : decode cc pc = .ok (.iaload, 1))
    (kk : W p l e R s m args below meth c H locs cells slots Q (F0 m (pc + 1) ls (.int (xs i.toNatClampNeg) :: rest))) : W p l e R s m args below meth c H locs cells slots Q (F0 m pc ls (.int i :: .ref b :: rest)) := by
  obtain ⟨scr, h1, h2, h3, h4, h6, h5⟩ := hX
  have hlt : i.toNatClampNeg < L := Nat.not_le.mp fun q => hin (Or.inr q)
  exact W.iald (v := .int (xs i.toNatClampNeg)) hexec hb (by rw [hS.2.1 b hbl hbA]; exact h1) h2 h3 (fun z => hin (z.imp id fun q => Nat.le_trans h4 q)) (h5 _ hlt) rfl rfl hdg kk
theorem px_slen (hexec : p.tables.exec = Jvm.exec) (hb : c.code = cc) {b L : Nat} {xs : Nat → Int32} (hX : px_X b L xs s H0) (hbl : b < H0.size) (hbA : ¬ A b) (hS : va_S A H0 H locs) (hdg : decode cc pc = .ok (.arraylength, 1))
    (kk : W p l e R s m args below meth c H locs cells slots Q (F0 m (pc + 1) ls (.int (Int32.ofNat L) :: rest))) : W p l e R s m args below meth c H locs cells slots Q (F0 m pc ls (.ref b :: rest)) := by
  obtain ⟨scr, h1, h2, h3, h4, h6, h5⟩ := hX
  exact W.alen (n := Int32.ofNat L) hexec hb (by rw [hS.2.1 b hbl hbA]; exact h1) h2 h6 rfl rfl hdg kk
end PXM
/-- arrays that are only read: the script, the class's constants -/
def pt_ro (M : pt_M) (k : Nat) : Option (Nat × (Nat → Int32)) := match k with
  | 51 => some (pt_L M, pt_X M)
  | 60 => some (0, fun _ => 0)
  | 61 => some (1, fun _ => 0)
  | 62 => some (2, fun j => [0, 1].getD j 0)
  | 63 => some (3, fun j => [0, 1, 7].getD j 0)
  | 64 => some (16, fun j => [0, 1, 3, 7, 15, 23, 31, 63, 76, 183, 191, 254, 255, 510, 531, 947].getD j 0)
  | _ => none
def pt_sn (k : Nat) : Option String := match k with
  | 60 => some "NO_KINDS"
  | 61 => some "KINDS_OF_3"
  | 62 => some "KINDS_OF_4"
  | 63 => some "KINDS_OF_5"
  | 64 => some "KINDS_OF_6"
  | _ => none
def pt_Ro (ad : Nat → Nat → Nat) (A : Nat → Prop) (M : pt_M) (s : State) : Prop :=
  (∀ k q, pt_ro M k = some q → px_X (ad k 0) q.1 q.2 s s.heap ∧ ¬ A (ad k 0)) ∧ ∀ k nm, pt_sn k = some nm → va_Z "PointTables" nm "[I" (.ref (ad k 0)) A s s.heap
/-- a method: its class, code, locals, type, room -/
abbrev pt_Y : Type := Nat × ByteArray × Nat × Option FieldType × Room
def pt_own (n : Nat) : String := [RX6, RX4, RX5, RX0, RX3, RX1, RX2, RX7, RL, RJ6, RJ9, RJ7].getD n ""
def pt_Cx (Y : pt_Y) (p : Program) (s : State) (m : MethodId) (args : Array Value) (meth : Method) (c : Code) (D : va_G) (ad : Nat → Nat → Nat) (cA : Nat → ClassId) (A : Nat → Prop) (cells slots : Nat) : Prop :=
  p.tables.exec = Jvm.exec ∧ c.code = Y.2.1 ∧ meth.sig.returnType = Y.2.2.2.1 ∧ c.maxLocals = Y.2.2.1 ∧ s.vm.findClass (pt_own Y.1) = some m.cls ∧ (∀ w ∈ pt_tb, w.before args s = true) ∧ (meth.locks = false ∧ cells ≤ Y.2.2.2.2.cells ∧ slots ≤ Y.2.2.2.2.slots) ∧ pt_Wd D ad cA s ∧ ∀ k i, pt_dm k i → A (ad k i)
def pt_At (Y : pt_Y) (p : Program) (l : Launch) (e : Env) (s : State) (m : MethodId) (args : Array Value) (below : List Frame) (meth : Method) (c : Code) (D : va_G) (ad : Nat → Nat → Nat) (cA : Nat → ClassId) (A : Nat → Prop) (cells slots : Nat) (Q : State → Prop) (σ : pt_S) : Prop :=
  ∀ (H : Heap) (locs : List Loc) (ls : Array Slot), pt_Hd D ad cA σ.2.2.2 H → pt_Ro ad A σ.2.2.2 s → va_S A s.heap H locs → lv_has ls Y.2.2.1 (pt_cl ad σ.2.1) →
    W p l e Y.2.2.2.2 s m args below meth c H locs cells slots Q (F0 m σ.1 ls (σ.2.2.1.map (pt_cv ad)))
/-- from one state the machine comes to the other -/
def pt_Go (Y : pt_Y) (σ τ : pt_S) : Prop :=
  ∀ (p : Program) (l : Launch) (e : Env) (s : State) (m : MethodId) (args : Array Value) (below : List Frame) (meth : Method) (c : Code) (D : va_G) (ad : Nat → Nat → Nat) (cA : Nat → ClassId) (A : Nat → Prop) (cells slots : Nat) (Q : State → Prop),
    pt_Cx Y p s m args meth c D ad cA A cells slots → pt_At Y p l e s m args below meth c D ad cA A cells slots Q τ → pt_At Y p l e s m args below meth c D ad cA A cells slots Q σ
theorem pt_Go.rf {Y : pt_Y} {σ : pt_S} : pt_Go Y σ σ := fun _ _ _ _ _ _ _ _ _ _ _ _ _ _ _ _ _ h => h
theorem pt_Go.tr {Y : pt_Y} {σ τ υ : pt_S} (h : pt_Go Y σ τ) (k : pt_Go Y τ υ) : pt_Go Y σ υ := fun p l e s m args below meth c D ad cA A cells slots Q C h1 => h p l e s m args below meth c D ad cA A cells slots Q C (k p l e s m args below meth c D ad cA A cells slots Q C h1)
theorem pt_Go.to {Y : pt_Y} {σ τ υ : pt_S} (h : pt_Go Y σ τ) (k : τ = υ) : pt_Go Y σ υ := k ▸ h
theorem pt_Go.fr {Y : pt_Y} {σ τ υ : pt_S} (h : pt_Go Y σ τ) (k : υ = σ) : pt_Go Y υ τ := k ▸ h
theorem pt_has_sub {ls : Array Slot} {n : Nat} {l l' : List (Nat × Value)} (h : lv_has ls n l) (hs : ∀ q ∈ l', q ∈ l) : lv_has ls n l' := ⟨h.1, h.2.1, fun q hq => h.2.2 q (hs q hq)⟩
/-- fewer locals are told -/
theorem pt_drop {Y : pt_Y} {pc : Nat} {l l' : List (Nat × pt_V)} {st : List pt_V} {M : pt_M} (hs : ∀ q ∈ l', q ∈ l) : pt_Go Y (pc, l, st, M) (pc, l', st, M) := by
  intro p l0 e s m args below meth c D ad cA A cells slots Q C h H locs ls h1 h2 h3 h4
  refine h H locs ls h1 h2 h3 (pt_has_sub h4 ?_)
  intro q hq
  obtain ⟨z, hz, rfl⟩ := List.mem_map.mp hq
  exact List.mem_map.mpr ⟨z, hs z hz, rfl⟩
def pt_lk : List (Nat × pt_V) → Nat → Option pt_V
  | [], _ => none
  | q :: t, i => match Nat.beq q.1 i with
    | true => some q.2
    | false => pt_lk t i
theorem pt_lk_mem : ∀ {l : List (Nat × pt_V)} {i : Nat} {v : pt_V}, pt_lk l i = some v → (i, v) ∈ l
  | [], _, _, h => by cases h
  | q :: t, i, v, h => by
    unfold pt_lk at h
    split at h
    · rename_i hq
      cases h
      have : q.1 = i := Nat.eq_of_beq_eq_true hq
      subst this
      exact List.mem_cons_self
    · exact List.mem_cons_of_mem _ (pt_lk_mem h)
def pt_isL : pt_V → Bool
  | .inr (.inl _) => true
  | _ => false
theorem pt_cat (ad : Nat → Nat → Nat) (v : pt_V) : (pt_cv ad v).category = if pt_isL v then 2 else 1 := by
  rcases v with x | y | ⟨k, i⟩
  · rfl
  · rfl
  · cases k <;> rfl
/-- a new value of one slot at i: in its place, or behind the others -/
def pt_st1 : List (Nat × pt_V) → Nat → pt_V → List (Nat × pt_V)
  | [], i, v => [(i, v)]
  | q :: t, i, v => match Nat.beq q.1 i with
    | true => (i, v) :: t.filter (fun z => !(Nat.beq z.1 i) && !(Nat.beq (z.1 + 1) i && pt_isL z.2))
    | false => match Nat.beq (q.1 + 1) i && pt_isL q.2 with
      | true => pt_st1 t i v
      | false => q :: pt_st1 t i v
theorem pt_st1_mem {i : Nat} {v : pt_V} : ∀ {l : List (Nat × pt_V)} {z : Nat × pt_V}, z ∈ pt_st1 l i v → z = (i, v) ∨ (z ∈ l ∧ Nat.beq z.1 i = false ∧ (Nat.beq (z.1 + 1) i && pt_isL z.2) = false)
  | [], z, h => by
    unfold pt_st1 at h
    exact Or.inl (List.mem_singleton.mp h)
  | q :: t, z, h => by
    unfold pt_st1 at h
    split at h
    · rcases List.mem_cons.mp h with h | h
      · exact Or.inl h
      · obtain ⟨h1, h2⟩ := List.mem_filter.mp h
        simp only [Bool.and_eq_true, Bool.not_eq_true'] at h2
        exact Or.inr ⟨List.mem_cons_of_mem _ h1, h2.1, h2.2⟩
    · rename_i hq
      split at h
      · rcases pt_st1_mem h with h | h
        · exact Or.inl h
        · exact Or.inr ⟨List.mem_cons_of_mem _ h.1, h.2⟩
      · rename_i hq2
        rcases List.mem_cons.mp h with h | h
        · subst h
          exact Or.inr ⟨List.mem_cons_self, hq, hq2⟩
        · rcases pt_st1_mem h with h | h
          · exact Or.inl h
          · exact Or.inr ⟨List.mem_cons_of_mem _ h.1, h.2⟩
def pt_st2 (l : List (Nat × pt_V)) (i : Nat) (v : pt_V) : List (Nat × pt_V) := l.filter (fun z => !(Nat.beq z.1 i) && (!(Nat.beq z.1 (i + 1)) && !(Nat.beq (z.1 + 1) i && pt_isL z.2))) ++ [(i, v)]
theorem pt_beq (a b : Nat) : Nat.beq a b = (a == b) := by
  rw [Bool.eq_iff_iff]
  simp [Nat.beq_eq]
theorem pt_has1 {ad : Nat → Nat → Nat} {ls : Array Slot} {n i : Nat} {l : List (Nat × pt_V)} {v : pt_V} (h : lv_has ls n ((i, pt_cv ad v) :: (pt_cl ad l).filter (fun q => !(q.1 == i) && !(q.1 + 1 == i && q.2.category == 2)))) : lv_has ls n (pt_cl ad (pt_st1 l i v)) := by
  refine pt_has_sub h ?_
  intro q hq
  obtain ⟨z, hz, rfl⟩ := List.mem_map.mp hq
  rcases pt_st1_mem hz with rfl | ⟨h1, h2, h3⟩
  · exact List.mem_cons_self
  · refine List.mem_cons_of_mem _ (List.mem_filter.mpr ⟨List.mem_map.mpr ⟨z, h1, rfl⟩, ?_⟩)
    rw [pt_beq] at h2 h3
    have hc := pt_cat ad z.2
    cases hL : pt_isL z.2 <;> simp_all
theorem pt_has2 {ad : Nat → Nat → Nat} {ls : Array Slot} {n i : Nat} {l : List (Nat × pt_V)} {v : pt_V} (h : lv_has ls n ((i, pt_cv ad v) :: (pt_cl ad l).filter (fun q => !(q.1 == i) && (!(q.1 == i + 1) && !(q.1 + 1 == i && q.2.category == 2))))) : lv_has ls n (pt_cl ad (pt_st2 l i v)) := by
  refine pt_has_sub h ?_
  intro q hq
  obtain ⟨z, hz, rfl⟩ := List.mem_map.mp hq
  rcases List.mem_append.mp hz with hz | hz
  · obtain ⟨h1, h2⟩ := List.mem_filter.mp hz
    refine List.mem_cons_of_mem _ (List.mem_filter.mpr ⟨List.mem_map.mpr ⟨z, h1, rfl⟩, ?_⟩)
    have hc := pt_cat ad z.2
    simp only [pt_beq] at h2
    cases hL : pt_isL z.2 <;> simp_all
  · rw [List.mem_singleton.mp hz]
    exact List.mem_cons_self
