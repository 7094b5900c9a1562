/-! making the objects -/
/-- cells made since b, in their order -/
def nw0_P (D : va_G) (b : Nat) (E : List va_E) (H : Heap) : Prop := H.size = b + E.length ∧ ∀ (j : Nat) (e : va_E), E[j]? = some e → va_at D vwCl (b + j, e) H
def nw0_T (cA : Nat → ClassId) : List (ClassId × FieldType) := [(cA 0, .int), (cA 1, .byte), (cA 2, .long), (cA 3, .object "PointTables$Table")]
def nw0_A (b : Nat) : Nat → Prop := fun q => b ≤ q
theorem nw0_push {D : va_G} {b : Nat} {E : List va_E} {H H1 : Heap} {e : va_E} (h : nw0_P D b E H) (hs : H1.size = H.size + 1) (ho : ∀ q, q < H.size → H1[q]? = H[q]?) (he : va_at D vwCl (b + E.length, e) H1) : nw0_P D b (E ++ [e]) H1 := by
  refine ⟨by rw [hs, h.1, List.length_append]; rfl, fun j e' hj => ?_⟩
  by_cases hl : j < E.length
  · rw [List.getElem?_append_left hl] at hj
    exact (h.2 j e' hj).kept (ho _ (by rw [h.1]; exact Nat.add_lt_add_left hl b))
  · rw [List.getElem?_append_right (by omega)] at hj
    have hz : j - E.length < 1 := (List.getElem?_eq_some_iff.mp hj).1
    rw [show j - E.length = 0 by omega] at hj
    cases hj
    rw [show j = E.length by omega]
    exact he
theorem nw0_set {D : va_G} {b j0 : Nat} {E : List va_E} {H H1 : Heap} {e : va_E} (h : nw0_P D b E H) (hs : H1.size = H.size) (ho : ∀ q, q ≠ b + j0 → H1[q]? = H[q]?) (he : va_at D vwCl (b + j0, e) H1) : nw0_P D b (E.set j0 e) H1 := by
  refine ⟨by rw [hs, h.1, List.length_set], fun j e' hj => ?_⟩
  rw [List.getElem?_set] at hj
  by_cases c : j0 = j
  · subst c
    rw [if_pos rfl] at hj
    split at hj
    · cases hj
      exact he
    · cases hj
  · rw [if_neg c] at hj
    exact (h.2 j e' hj).kept (ho _ (by omega))
theorem nw0_app {D : va_G} {b : Nat} {E F : List va_E} {H H1 : Heap} (h : nw0_P D b E H) (hF : nw0_P D (b + E.length) F H1) (ho : ∀ q, q < b + E.length → H1[q]? = H[q]?) : nw0_P D b (E ++ F) H1 := by
  refine ⟨by rw [hF.1, List.length_append]; omega, fun j e' hj => ?_⟩
  by_cases hl : j < E.length
  · rw [List.getElem?_append_left hl] at hj
    exact (h.2 j e' hj).kept (ho _ (by omega))
  · rw [List.getElem?_append_right (by omega)] at hj
    have := hF.2 _ _ hj
    rw [show b + E.length + (j - E.length) = b + j by omega] at this
    exact this
section CNM
variable {p : Program} {l : Launch} {e : Env} {R : Room} {s : State} {m : MethodId} {args : Array Value} {below : List Frame} {meth : Method} {c : Code} {H : Heap} {locs : List Loc} {cells slots : Nat} {Q : State → Prop}
variable {cc : ByteArray} {pc : Nat} {ls : Array Slot} {rest : List Value} {D : va_G} {cA : Nat → ClassId} {A : Nat → Prop}
/-- a final field is written, in a constructor; all other cells stay -/
theorem nw0_putF {a : Nat} (hexec : p.tables.exec = Jvm.exec) (hb : c.code = cc) {own : String} {ci index : Nat} {C : String} {T : u_T} {N : Nat} (hts : ∀ w ∈ pt_tb, w.before args s = true) (hown : s.vm.findClass own = some m.cls) (hK : va_K D vwCl (nw0_T cA) s) (hS0 : va_S A s.heap H locs) {fs : List Value} (he : va_at D vwCl (a, .inr (ci, fs)) H) (hc : vwCl[ci]? = some (C, T, N)) (k : Nat) (hk : k < N) (hlink : Cond.fieldLink own index (T k).1 (T k).2.1 (T k).2.2.1 ∈ pt_tb) (hfin : (T k).2.2.2 = true) (hin2 : meth.name = "<init>") (hdecl : (T k).1 = own) {v : Value} (hn : narrow (pt_t0 T k) v = v) (hfit : fits (pt_t0 T k) v = true) (hl : k < fs.length) (hAa : A a)
    (hdg : decode cc pc = .ok (.putfield index, 3)) (kk : ∀ (H1 : Heap) (locs1 : List Loc), va_at D vwCl (a, .inr (ci, fs.set k v)) H1 → H1.size = H.size → (∀ q, q ≠ a → H1[q]? = H[q]?) → va_S A s.heap H1 locs1 → W p l e R s m args below meth c H1 locs1 cells slots Q (F0 m (pc + 3) ls rest)) : W p l e R s m args below meth c H locs cells slots Q (F0 m pc ls (v :: .ref a :: rest)) := by
  have hin := pt_us' hc
  obtain ⟨hty, hnm⟩ := pt_tn hc
  have hap := va_apart (own := own) hts hin (pt_t0 T) hty hnm hK hc
  obtain ⟨r, h1, cell, q1, q2, q3, q4⟩ := he
  have hr : r = (C, T, N) := Option.some.inj (h1.symm.trans hc)
  subst hr
  obtain ⟨hS, hfc, kC, hkC, hkind⟩ := hK.1 ci _ hc
  obtain ⟨cf, kf, fi, f, hi, hsl⟩ := hS k hk
  have hlay := hts _ (hin _ (u_in_lay hk))
  unfold u_lay at hlay
  rw [if_pos hfin] at hlay
  have hst := (u_facts hfc hkC (u_lays hts hin hk) hi).1
  have hcf : m.cls = cf := by
    obtain ⟨_, _, c', _, _, _, -, -, hf', -, -, -, hown2, -⟩ := Cond.laysFinal_spec hlay
    have e1 : c' = cf := by have := hi.symm.trans hf'; simp at this; exact this.1.symm
    rw [hdecl] at hown2
    rw [← e1]; exact Option.some.inj (hown.symm.trans hown2)
  have h6 := u_fits hfc hkC hkind (Or.inr hlay) hi (hty k hk) hn hfit
  refine W.putFinK hexec hb hown (hts _ hlink) hi hst hcf hin2 (by rw [q2]; exact h6) q1 q3 (by rw [hsl]; exact k2_hasslot (q4 k hk)) rfl rfl hdg fun H' e1 e2 e3 => ?_
  rw [hsl] at e1 ⊢
  exact kk H' _ ⟨_, hc, t_OB.to (V := updV (vp_V fs) k v) ⟨_, e1, q2, q3, t_set q4 hap hk v⟩ (fun j _ => vp_updV_set hl v j)⟩ e2 e3 (hS0.put e2 e3 hAa)
theorem nw0_sz {H1 : Heap} {a : Nat} (h : ∀ q : Nat, q ≠ a → H1[q]? = H[q]?) (h1 : a < H.size) (h2 : a < H1.size) : H1.size = H.size := by
  rcases Nat.lt_trichotomy H1.size H.size with z | z | z
  · have := h H1.size (by omega)
    rw [Array.getElem?_eq_none (Nat.le_refl _), Array.getElem?_eq_getElem z] at this
    cases this
  · exact z
  · have := h H.size (by omega)
    rw [Array.getElem?_eq_none (Nat.le_refl _), Array.getElem?_eq_getElem z] at this
    cases this
/-- a number is written into a field of the cell j0 -/
theorem nw0_put {b j0 ci index k N : Nat} {E : List va_E} {fs : List Value} {own C : String} {T : u_T} {v : Value} (hexec : p.tables.exec = Jvm.exec) (hb : c.code = cc) (hts : ∀ w ∈ pt_tb, w.before args s = true) (hown : s.vm.findClass own = some m.cls) (hK : va_K D vwCl (nw0_T cA) s) (hP : nw0_P D b E H) (hS : va_S (nw0_A b) s.heap H locs) (he : E[j0]? = some (.inr (ci, fs))) (hc : vwCl[ci]? = some (C, T, N)) (hk : k < N) (hlink : Cond.fieldLink own index (T k).1 (T k).2.1 (T k).2.2.1 ∈ pt_tb) (hfin : (T k).2.2.2 = false) (hn : narrow (pt_t0 T k) v = v) (hfit : fits (pt_t0 T k) v = true) (hl : k < fs.length) (hdg : decode cc pc = .ok (.putfield index, 3))
    (kk : ∀ (H1 : Heap) (locs1 : List Loc), nw0_P D b (E.set j0 (.inr (ci, fs.set k v))) H1 → va_S (nw0_A b) s.heap H1 locs1 → W p l e R s m args below meth c H1 locs1 cells slots Q (F0 m (pc + 3) ls rest)) : W p l e R s m args below meth c H locs cells slots Q (F0 m pc ls (v :: .ref (b + j0) :: rest)) := by
  have h0 := hP.2 j0 _ he
  refine pt_putW hexec hb hts hown hK hS h0 hc k hk hlink hfin hn hfit hl (Nat.le_add_right b j0) hdg fun H1 locs1 e1 e2 e3 => ?_
  exact kk H1 locs1 (nw0_set hP (nw0_sz e2 h0.lt e1.lt) e2 e1) e3
/-- .. a final field, in a constructor -/
theorem nw0_putG {b j0 ci index k N : Nat} {E : List va_E} {fs : List Value} {own C : String} {T : u_T} {v : Value} (hexec : p.tables.exec = Jvm.exec) (hb : c.code = cc) (hts : ∀ w ∈ pt_tb, w.before args s = true) (hown : s.vm.findClass own = some m.cls) (hK : va_K D vwCl (nw0_T cA) s) (hP : nw0_P D b E H) (hS : va_S (nw0_A b) s.heap H locs) (hin2 : meth.name = "<init>") (he : E[j0]? = some (.inr (ci, fs))) (hc : vwCl[ci]? = some (C, T, N)) (hk : k < N) (hlink : Cond.fieldLink own index (T k).1 (T k).2.1 (T k).2.2.1 ∈ pt_tb) (hfin : (T k).2.2.2 = true) (hdecl : (T k).1 = own) (hn : narrow (pt_t0 T k) v = v) (hfit : fits (pt_t0 T k) v = true) (hl : k < fs.length) (hdg : decode cc pc = .ok (.putfield index, 3))
    (kk : ∀ (H1 : Heap) (locs1 : List Loc), nw0_P D b (E.set j0 (.inr (ci, fs.set k v))) H1 → va_S (nw0_A b) s.heap H1 locs1 → W p l e R s m args below meth c H1 locs1 cells slots Q (F0 m (pc + 3) ls rest)) : W p l e R s m args below meth c H locs cells slots Q (F0 m pc ls (v :: .ref (b + j0) :: rest)) := by
  have h0 := hP.2 j0 _ he
  refine nw0_putF hexec hb hts hown hK hS h0 hc k hk hlink hfin hin2 hdecl hn hfit hl (Nat.le_add_right b j0) hdg fun H1 locs1 e1 e2 e3 e4 => ?_
  exact kk H1 locs1 (nw0_set hP e2 e3 e1) e4
/-- a new array -/
theorem nw0_arr {b nn t : Nat} {E : List va_E} {atype : ArrayType} {n : Int32} {a0 : vp_A} (hexec : p.tables.exec = Jvm.exec) (hb : c.code = cc) (hts : ∀ w ∈ pt_tb, w.before args s = true) (hK : va_K D vwCl (nw0_T cA) s) (hP : nw0_P D b E H) (hS : va_S (nw0_A b) s.heap H locs) (harr : Cond.arrayClass (newarray.typeOf atype) ∈ pt_tb) (ht : (nw0_T cA)[t]? = some (cA t, newarray.typeOf atype)) (ha : ∀ cA : ClassId, vp_cell cA a0 = arrV cA nn (fun _ => defaultValue (newarray.typeOf atype))) (hn : ¬ n < 0) (hN : n.toNatClampNeg = nn) (hbytes : nn * componentBytes (newarray.typeOf atype) ≤ 536870912) (hcells : cells + 1 ≤ R.cells) (hslots : slots + nn ≤ R.slots) (hdg : decode cc pc = .ok (.newarray atype, 2))
    (kk : ∀ (H1 : Heap), nw0_P D b (E ++ [.inl (cA t, a0)]) H1 → va_S (nw0_A b) s.heap H1 locs → W p l e R s m args below meth c H1 locs (cells + 1) (slots + nn) Q (F0 m (pc + 2) ls (.ref (b + E.length) :: rest))) : W p l e R s m args below meth c H locs cells slots Q (F0 m pc ls (.int n :: rest)) := by
  refine va_newaK hexec hb (hts _ harr) rfl hdg rfl hn hN hbytes hcells hslots hP.1 fun H1 cB e1 z1 o1 hAr hNm => ?_
  have hcB : cB = cA t := by
    have h9 := (hK.2 t _ ht).2
    cases atype <;> exact Option.some.inj (hNm.symm.trans h9)
  subst hcB
  refine kk H1 (nw0_push hP (by rw [z1, hP.1]) (fun q hq => o1 q (by rw [← hP.1]; exact hq)) ?_) ⟨Nat.le_trans hS.1 (by rw [z1, hP.1]; exact Nat.le_succ _), fun x h1 h2 => (o1 x (by rw [← hP.1]; exact Nat.lt_of_lt_of_le h1 hS.1)).trans (hS.2.1 x h1 h2), hS.2.2⟩
  show H1[b + E.length]? = some (vp_cell _ _)
  rw [ha]
  exact e1
/-- a new object, not yet made -/
theorem nw0_obj {b ci index N : Nat} {E : List va_E} {fs : List Value} {own C : String} {T : u_T} (hexec : p.tables.exec = Jvm.exec) (hb : c.code = cc) (hts : ∀ w ∈ pt_tb, w.before args s = true) (hown : s.vm.findClass own = some m.cls) (hK : va_K D vwCl (nw0_T cA) s) (hP : nw0_P D b E H) (hS : va_S (nw0_A b) s.heap H locs) (hc : vwCl[ci]? = some (C, T, N)) (hcl : Cond.classLink own index C ∈ pt_tb) (hinst : Cond.instantiable C N ∈ pt_tb) (hini : Cond.initialized C ∈ pt_tb) (hfs : ∀ j, j < N → defaultValue (pt_t0 T j) = vp_V fs j) (hcells : cells + 1 ≤ R.cells) (hslots : slots + N ≤ R.slots) (hdg : decode cc pc = .ok (.new index, 3))
    (kk : ∀ (H1 : Heap), nw0_P D b (E ++ [.inr (ci, fs)]) H1 → nw0_P D (b + E.length) [.inr (ci, fs)] H1 → va_S (nw0_A b) s.heap H1 locs → (∀ q, q < b + E.length → H1[q]? = H[q]?) → W p l e R s m args below meth c H1 locs (cells + 1) (slots + N) Q (F0 m (pc + 3) ls (.ref (b + E.length) :: rest))) : W p l e R s m args below meth c H locs cells slots Q (F0 m pc ls rest) := by
  have hKn := hK.1 ci _ hc
  obtain ⟨hty, hnm⟩ := pt_tn hc
  refine W.newcK hexec hb hown (hts _ hcl) (hts _ hinst) (hts _ hini) rfl hdg hcells hslots hKn.2.1 hP.1 fun H1 kC hkC e1 z1 o1 => ?_
  have h0 : va_at D vwCl (b + E.length, .inr (ci, fs)) H1 := ⟨_, hc, (u_born (pt_t0 T) hts (pt_us' hc) hKn hkC e1 hty).to hfs⟩
  refine kk H1 (nw0_push hP (by rw [z1, hP.1]) (fun q hq => o1 q (by rw [← hP.1]; exact hq)) h0) ⟨z1, fun j e' hj => ?_⟩ ⟨Nat.le_trans hS.1 (by rw [z1, hP.1]; exact Nat.le_succ _), fun x h1 h2 => (o1 x (by rw [← hP.1]; exact Nat.lt_of_lt_of_le h1 hS.1)).trans (hS.2.1 x h1 h2), hS.2.2⟩ o1
  have hz : j < 1 := (List.getElem?_eq_some_iff.mp hj).1
  rw [show j = 0 by omega] at hj ⊢
  cases hj
  exact h0
end CNM
/-- what a constructor without arguments does -/
def nw0_Pc (D : va_G) (cA : Nat → ClassId) (X : State → Prop) (h0 ci : Nat) (fs0 : List Value) : Array Value → State → Prop := va_Pc [.ref h0] (fun U => nw0_P D h0 [.inr (ci, fs0)] U.heap ∧ va_K D vwCl (nw0_T cA) U ∧ X U)
def nw0_C (l : Launch) (D : va_G) (cA : Nat → ClassId) (X : State → Prop) (y : MethodName) (bts : ByteArray) (n : Nat) (rm : Room) (ci : Nat) (fs0 : List Value) (mc ms : Nat) (out : Nat → List va_E) : Prop := ∀ h0, Met l y (Cond.code y bts n none :: pt_tb) rm (nw0_Pc D cA X h0 ci fs0) (va_Qv (fun _ : Unit => True) (fun _ t => nw0_P D h0 (out h0) t.heap) (nw0_A h0)) mc ms (nw0_A h0)
section CNC
variable {p : Program} {l : Launch} {e : Env} {R : Room} {s : State} {m : MethodId} {args : Array Value} {below : List Frame} {meth : Method} {c : Code} {H : Heap} {locs : List Loc} {cells slots : Nat} {Q : State → Prop}
variable {cc : ByteArray} {pc : Nat} {ls : Array Slot} {rest : List Value} {D : va_G} {cA : Nat → ClassId}
/-- the call of a constructor behind 'new' and 'dup' -/
theorem nw0_call {X : State → Prop} {b nL idx ci n mc ms : Nat} {E : List va_E} {fs0 : List Value} {own : String} {y : MethodName} {bts : ByteArray} {rm : Room} {out : Nat → List va_E} (S : CallFix p m c cc nL s args pt_tb own) (hM : nw0_C l D cA X y bts n rm ci fs0 mc ms out)
    (hrun : ∀ {g : JFrame}, PreS s H (nw0_Pc D cA X (b + E.length) ci fs0) (.ref (b + E.length) :: []) → g.method = m → g.locals.size = nL → g.stack = [].reverse ++ .ref (b + E.length) :: (.ref (b + E.length) :: rest) → 2 * g.monitorRoom + ((.ref (b + E.length) :: rest).map fun v => v.category).sum ≤ 8 → decode cc g.pc = .ok (.invokespecial idx, 3) → va_Run p l e R s m args below meth c H locs cells slots mc ms g (.ref (b + E.length) :: rest) (va_Qv (fun _ : Unit => True) (fun _ t => nw0_P D (b + E.length) (out (b + E.length)) t.heap) (nw0_A (b + E.length)) (Value.ref (b + E.length) :: []).toArray) (nw0_A (b + E.length)))
    (hK : va_K D vwCl (nw0_T cA) s) (hX : X s) (hXw : ∀ U : State, s.WarmedH U.vm → X s → X U) (hXc : ∀ (U : State) g mk a, X U → X (U.calling g mk a)) (hP : nw0_P D b (E ++ [.inr (ci, fs0)]) H) (hP0 : nw0_P D (b + E.length) [.inr (ci, fs0)] H) (hS : va_S (nw0_A b) s.heap H locs) (hls : ls.size = nL) (hroom : (rest.map fun v => v.category).sum ≤ 7) (hdg : decode cc pc = .ok (.invokespecial idx, 3))
    (kk : ∀ (H1 : Heap) (locs1 : List Loc), nw0_P D b (E ++ out (b + E.length)) H1 → va_S (nw0_A b) s.heap H1 locs1 → W p l e R s m args below meth c H1 locs1 (cells + mc) (slots + ms) Q (F0 m (pc + 3) ls (.ref (b + E.length) :: rest))) : W p l e R s m args below meth c H locs cells slots Q (F0 m pc ls (.ref (b + E.length) :: .ref (b + E.length) :: rest)) := by
  have hA : ∀ q, nw0_A (b + E.length) q → nw0_A b q := fun q h => Nat.le_trans (Nat.le_add_right b _) h
  refine va_callv (hrun ⟨fun a U g mk q => ?_, fun U hU hW => ⟨rfl, by rw [hU]; exact hP0, va_K.moved hW.alike hK, hXw U hW hX⟩⟩ rfl hls rfl (lv_room (by simp only [List.map_cons, List.sum_cons]; show 1 + _ ≤ 8; omega)) hdg) hS (fun q _ h => hA q h) hA fun u t H1 locs1 ht hvm _ hB hz1 hk1 hS1 => ?_
  · obtain ⟨q0, q1, q2, q3⟩ := q
    exact ⟨q0, q1, va_K.moved (u := U) (U := U.calling g mk a) (Vm.Alike.refl U.vm) q2, hXc U g mk a q3⟩
  · rw [ht] at hB
    refine kk H1 locs1 ?_ hS1
    have hE : nw0_P D b (E ++ [.inr (ci, fs0)]) H := hP
    refine ⟨by rw [hB.1, List.length_append]; omega, fun j e' hj => ?_⟩
    by_cases hl : j < E.length
    · rw [List.getElem?_append_left hl] at hj
      have h1 := hE.2 j e' (by rw [List.getElem?_append_left hl]; exact hj)
      exact h1.kept (hk1 _ (by rw [hE.1, List.length_append]; show b + j < b + (E.length + 1); omega) (fun z => by have : b + E.length ≤ b + j := z; omega))
    · rw [List.getElem?_append_right (by omega)] at hj
      have := hB.2 _ _ hj
      rw [show b + E.length + (j - E.length) = b + j by omega] at this
      exact this
end CNC
section CNR
variable {p : Program} {l : Launch} {e : Env} {R : Room} {s : State} {m : MethodId} {args : Array Value} {below : List Frame} {meth : Method} {c : Code} {H : Heap} {locs : List Loc} {cells slots : Nat} {Q : State → Prop}
variable {cc : ByteArray} {pc : Nat} {ls : Array Slot} {rest : List Value} {D : va_G} {cA : Nat → ClassId}
theorem nw0_ast {b j0 n ii : Nat} {E : List va_E} {f : Nat → Int32} {i x : Int32} (hi : i.toNatClampNeg = ii) (hexec : p.tables.exec = Jvm.exec) (hb : c.code = cc) (hK : va_K D vwCl (nw0_T cA) s) (hP : nw0_P D b E H) (hS : va_S (nw0_A b) s.heap H locs) (he : E[j0]? = some (.inl (cA 0, n, .inl f))) (hin : vp_in i n) (hdg : decode cc pc = .ok (.iastore, 1))
    (kk : ∀ (H1 : Heap) (locs1 : List Loc), nw0_P D b (E.set j0 (.inl (cA 0, n, .inl (upd f ii x)))) H1 → va_S (nw0_A b) s.heap H1 locs1 → W p l e R s m args below meth c H1 locs1 cells slots Q (F0 m (pc + 1) ls rest)) : W p l e R s m args below meth c H locs cells slots Q (F0 m pc ls (.int x :: .int i :: .ref (b + j0) :: rest)) := by
  have h0 := hP.2 j0 _ he
  subst hi
  refine pt_iastW hexec hb hK hS 0 h0 rfl hin (Nat.le_add_right b j0) hdg fun H1 locs1 e1 e2 e3 => ?_
  exact kk H1 locs1 (nw0_set hP (nw0_sz e2 h0.lt e1.lt) e2 e1) e3
theorem nw0_get {b j0 f ci index N : Nat} {E : List va_E} {fs : List Value} {own C : String} {T : u_T} {v : Value} (hexec : p.tables.exec = Jvm.exec) (hb : c.code = cc) (hts : ∀ w ∈ pt_tb, w.before args s = true) (hown : s.vm.findClass own = some m.cls) (hK : va_K D vwCl (nw0_T cA) s) (hP : nw0_P D b E H) (he : E[j0]? = some (.inr (ci, fs))) (hc : vwCl[ci]? = some (C, T, N)) (hk : f < N) (hlink : Cond.fieldLink own index (T f).1 (T f).2.1 (T f).2.2.1 ∈ pt_tb) (hv : fs[f]? = some v) (hdg : decode cc pc = .ok (.getfield index, 3))
    (kk : W p l e R s m args below meth c H locs cells slots Q (F0 m (pc + 3) ls (v :: rest))) : W p l e R s m args below meth c H locs cells slots Q (F0 m pc ls (.ref (b + j0) :: rest)) :=
  va_get hexec hb hts (pt_us' hc) hown hK (pt_one (hP.2 j0 _ he)) 0 rfl hc f hk (hts _ hlink) (fun _ z => z) hv hdg kk
theorem nw0_astq {b j0 jv ci n ii : Nat} {E : List va_E} {vs : List Value} {f : Nat → Option Nat} {i : Int32} (hi : i.toNatClampNeg = ii) (hexec : p.tables.exec = Jvm.exec) (hb : c.code = cc) (hK : va_K D vwCl (nw0_T cA) s) (hP : nw0_P D b E H) (hS : va_S (nw0_A b) s.heap H locs) (he : E[j0]? = some (.inl (cA 3, n, .inr (.inr (.inr (.inr f)))))) (hv : E[jv]? = some (.inr (ci, vs))) (hc : vwCl[ci]? = some (RX4, TX4, 6)) (hin : vp_in i n) (hdg : decode cc pc = .ok (.aastore, 1))
    (kk : ∀ (H1 : Heap) (locs1 : List Loc), nw0_P D b (E.set j0 (.inl (cA 3, n, .inr (.inr (.inr (.inr (va_up f ii (some (b + jv))))))))) H1 → va_S (nw0_A b) s.heap H1 locs1 → W p l e R s m args below meth c H1 locs1 cells slots Q (F0 m (pc + 1) ls rest)) : W p l e R s m args below meth c H locs cells slots Q (F0 m pc ls (.ref (b + jv) :: .int i :: .ref (b + j0) :: rest)) := by
  have h0 := hP.2 j0 _ he
  subst hi
  refine pt_aastW (r := (RX4, TX4, 6)) hexec hb hK hS 3 ci h0 rfl (hP.2 jv _ hv) hc hin (Nat.le_add_right b j0) hdg fun H1 locs1 e1 e2 e3 => ?_
  exact kk H1 locs1 (nw0_set hP (nw0_sz e2 h0.lt e1.lt) e2 e1) e3
theorem nw0_arrq {b nn index : Nat} {E : List va_E} {own : String} {n : Int32} (hexec : p.tables.exec = Jvm.exec) (hb : c.code = cc) (hts : ∀ w ∈ pt_tb, w.before args s = true) (hown : s.vm.findClass own = some m.cls) (hcl : Cond.classLink own index "PointTables$Table" ∈ pt_tb) (hao : va_AO "PointTables$Table" s) (hK : va_K D vwCl (nw0_T cA) s) (hP : nw0_P D b E H) (hS : va_S (nw0_A b) s.heap H locs) (hn : ¬ n < 0) (hN : n.toNatClampNeg = nn) (hbytes : nn * 4 ≤ 536870912) (hcells : cells + 1 ≤ R.cells) (hslots : slots + nn ≤ R.slots) (hdg : decode cc pc = .ok (.anewarray index, 3))
    (kk : ∀ (H1 : Heap), nw0_P D b (E ++ [.inl (cA 3, nn, .inr (.inr (.inr (.inr fun _ => none))))]) H1 → va_S (nw0_A b) s.heap H1 locs → W p l e R s m args below meth c H1 locs (cells + 1) (slots + nn) Q (F0 m (pc + 3) ls (.ref (b + E.length) :: rest))) : W p l e R s m args below meth c H locs cells slots Q (F0 m pc ls (.int n :: rest)) := by
  subst hN
  refine W.anew hexec hb hown (hts _ hcl) (va_AO.use hao) rfl hdg rfl hn hbytes hcells hslots fun cB kA comp f1 f2 f3 f4 => ?_
  have hcB : cB = cA 3 := by
    obtain ⟨_, _, -, -, -, h4⟩ := (hK.2 3 _ rfl).2
    exact Option.some.inj (f1.symm.trans h4)
  subst hcB
  generalize hH1 : H.push ({ cls := cA 3, slots := Array.replicate n.toNatClampNeg .null, vm := .none } : Cell) = H1
  have z1 : H1.size = H.size + 1 := by rw [← hH1, Array.size_push]
  have e1 : H1[H.size]? = some (arrV (cA 3) n.toNatClampNeg (fun _ => .null)) := by rw [← hH1, Array.getElem?_push_size, ← arrV_new]
  have o1 : ∀ q : Nat, q < H.size → H1[q]? = H[q]? := fun q hq => by rw [← hH1, Array.getElem?_push, if_neg (Nat.ne_of_lt hq)]
  have h9 := kk H1 (nw0_push hP z1 o1 (by rw [← hP.1]; exact e1)) ⟨Nat.le_trans hS.1 (by omega), fun x h1 h2 => (o1 x (Nat.lt_of_lt_of_le h1 hS.1)).trans (hS.2.1 x h1 h2), hS.2.2⟩
  rw [← hP.1] at h9
  exact h9
end CNR
