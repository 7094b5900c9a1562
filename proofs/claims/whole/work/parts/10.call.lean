/-! a method does what is said of it: 'pt_Does'; calling it -/
def pt_Ad (ad : Nat → Nat → Nat) : Nat → Prop := fun q => ∃ k i, pt_dm k i ∧ q = ad k i
def pt_Pc (D : va_G) (ad : Nat → Nat → Nat) (cA : Nat → ClassId) (M : pt_M) (vs : List pt_V) : Array Value → State → Prop := fun a U => a = (vs.map (pt_cv ad)).toArray ∧ pt_Hd D ad cA M U.heap ∧ pt_Wd D ad cA U ∧ pt_Ro ad (pt_Ad ad) M U
def pt_Qc (D : va_G) (ad : Nat → Nat → Nat) (cA : Nat → ClassId) (r : Option pt_V) (M' : pt_M) : Array Value → State → Outcome → State → Prop := fun _ st oc t => oc = .returned (r.map (pt_cv ad)) ∧ pt_Hd D ad cA M' t.heap ∧ va_F (pt_Ad ad) st t
def pt_Does (y : MethodName) (Y : pt_Y) (vs : List pt_V) (M : pt_M) (r : Option pt_V) (M' : pt_M) : Prop :=
  M'.2.2.2.2 = M.2.2.2.2 ∧ ∀ (l : Launch) (D : va_G) (ad : Nat → Nat → Nat) (cA : Nat → ClassId), Met l y (Cond.code y Y.2.1 Y.2.2.1 Y.2.2.2.1 :: pt_tb) Y.2.2.2.2 (pt_Pc D ad cA M vs) (pt_Qc D ad cA r M') 0 0 (pt_Ad ad)
def pt_en : Nat → List pt_V → List (Nat × pt_V)
  | _, [] => []
  | i, v :: vs => (i, v) :: pt_en (match pt_isL v with
    | true => i + 2
    | false => i + 1) vs
theorem pt_en_ok (ad : Nat → Nat → Nat) : ∀ (vs : List pt_V) (i : Nat), pt_cl ad (pt_en i vs) = lv_args i (vs.map (pt_cv ad))
  | [], _ => rfl
  | v :: vs, i => by
    show (i, pt_cv ad v) :: pt_cl ad (pt_en _ vs) = (i, pt_cv ad v) :: lv_args _ (vs.map (pt_cv ad))
    rw [pt_en_ok ad vs, pt_cat]
    cases pt_isL v <;> rfl
theorem pt_sl_len (ad : Nat → Nat → Nat) : ∀ vs : List pt_V, (lg_sl (vs.map (pt_cv ad))).length = (vs.map pt_w).sum
  | [] => rfl
  | v :: vs => by
    have ih := pt_sl_len ad vs
    unfold lg_sl at ih ⊢
    rw [List.map_cons, List.flatMap_cons, List.length_append, ih, List.map_cons, List.sum_cons, pt_cat]
    unfold pt_w
    cases pt_isL v <;> rfl
theorem pt_F0 {ad : Nat → Nat → Nat} {r : Option pt_V} {st : List pt_V} : (r.toList ++ st).map (pt_cv ad) = (r.map (pt_cv ad)).toList ++ st.map (pt_cv ad) := by
  cases r <;> simp
/-- the ends of a method -/
theorem pt_does {y : MethodName} {Y : pt_Y} {vs : List pt_V} {M M' : pt_M} {r : Option pt_V} (hy : plainFor y = true) (hown : y.cls = pt_own Y.1) (hvs : (vs.map pt_w).sum ≤ Y.2.2.1) (hX : M'.2.2.2.2 = M.2.2.2.2)
    (h : ∀ (p : Program) (l : Launch) (e : Env) (s : State) (m : MethodId) (args : Array Value) (below : List Frame) (meth : Method) (c : Code) (D : va_G) (ad : Nat → Nat → Nat) (cA : Nat → ClassId), pt_Cx Y p s m args meth c D ad cA (pt_Ad ad) 0 0 →
      pt_At Y p l e s m args below meth c D ad cA (pt_Ad ad) 0 0 (MQ below (pt_Qc D ad cA r M') args s 0 0 (pt_Ad ad)) (0, pt_en 0 vs, [], M)) : pt_Does y Y vs M r M' := by
  refine ⟨hX, fun l D ad cA => ?_⟩
  refine MetFree.of_bodySF (code := Y.2.1) (maxLocals := Y.2.2.1) (ret := Y.2.2.2.1) hy ?_ ?_
  · intro args s m h hn
    obtain ⟨meth, c, h1, h2, h3, h4, h5, h6, -, -⟩ := Cond.code_spec hn (atoms_spec (ws := Cond.code y Y.2.1 Y.2.2.1 Y.2.2.2.1 :: pt_tb) h _ List.mem_cons_self)
    exact ⟨meth, c, h1, h2, h3, h4, h5, h6⟩
  · intro p e s m args below meth c s₁ B hml hP _
    obtain ⟨rfl, hH, hW, hR⟩ := hP
    have hts := atoms_spec (ws := Cond.code y Y.2.1 Y.2.2.1 Y.2.2.2.1 :: pt_tb) B.pre
    have hh0 : s₁.heap = s.heap := by rw [B.state]; rfl
    have hcx : pt_Cx Y p s m (vs.map (pt_cv ad)).toArray meth c D ad cA (pt_Ad ad) 0 0 := ⟨B.exec, B.bytes, B.returns, hml, by rw [← hown]; exact findClass_of_methodNamed B.named, fun w hw => hts w (List.mem_cons_of_mem _ hw), ⟨B.notSynchronized, Nat.zero_le _, Nat.zero_le _⟩, hW, fun k i hd => ⟨k, i, hd, rfl⟩⟩
    have hl := lv_entry (vs.map (pt_cv ad)) (n := Y.2.2.1) (by rw [pt_sl_len]; exact hvs)
    rw [← pt_en_ok] at hl
    have K := h p l e s m (vs.map (pt_cv ad)).toArray below meth c D ad cA hcx s.heap [] _ hH hR va_S.rf hl
    obtain ⟨t, a1, o, b1, b2, b3⟩ := K s₁ hh0 (Stand.of_body B)
    refine ⟨t, o, ?_, b1, b2, ⟨b3.1, b3.2⟩⟩
    rw [lg_entry_eq]
    exact a1
theorem pt_reti {Y : pt_Y} {p : Program} {l : Launch} {e : Env} {s : State} {m : MethodId} {args : Array Value} {below : List Frame} {meth : Method} {c : Code} {D : va_G} {ad : Nat → Nat → Nat} {cA : Nat → ClassId} {pc : Nat} {L : List (Nat × pt_V)} {x : Int32} {M' : pt_M} {ty : FieldType} (hr : Y.2.2.2.1 = some ty) (hn : narrow ty (.int x) = .int x) (hd : decode Y.2.1 pc = .ok (.ireturn, 1)) (hC : pt_Cx Y p s m args meth c D ad cA (pt_Ad ad) 0 0) :
    pt_At Y p l e s m args below meth c D ad cA (pt_Ad ad) 0 0 (MQ below (pt_Qc D ad cA (some (pt_i x)) M') args s 0 0 (pt_Ad ad)) (pc, L, [pt_i x], M') := by
  intro H locs ls g1 g2 g3 g4
  obtain ⟨hx, hb, hrt, hml, hown, hts, hlk, hW, hAd⟩ := hC
  exact W.zret hx hb (hrt.trans hr) hn (fun t ht hW => ⟨rfl, by rw [ht]; exact g1, g3.F ht⟩) g3.2.2 hd hlk.1
theorem pt_retr {Y : pt_Y} {p : Program} {l : Launch} {e : Env} {s : State} {m : MethodId} {args : Array Value} {below : List Frame} {meth : Method} {c : Code} {D : va_G} {ad : Nat → Nat → Nat} {cA : Nat → ClassId} {pc : Nat} {L : List (Nat × pt_V)} {k i : Nat} {M' : pt_M} {ty : FieldType} (hr : Y.2.2.2.1 = some ty) (hn : (∃ n, ty = .object n) ∨ ∃ t, ty = .array t) (hd : decode Y.2.1 pc = .ok (.areturn, 1)) (hC : pt_Cx Y p s m args meth c D ad cA (pt_Ad ad) 0 0) :
    pt_At Y p l e s m args below meth c D ad cA (pt_Ad ad) 0 0 (MQ below (pt_Qc D ad cA (some (pt_r k i)) M') args s 0 0 (pt_Ad ad)) (pc, L, [pt_r k i], M') := by
  intro H locs ls g1 g2 g3 g4
  obtain ⟨hx, hb, hrt, hml, hown, hts, hlk, hW, hAd⟩ := hC
  exact W.aret hx hb (hrt.trans hr) hn (by cases k; exact Or.inl rfl; exact Or.inr ⟨_, rfl⟩) (fun t ht hW => ⟨rfl, by rw [ht]; exact g1, g3.F ht⟩) g3.2.2 hd hlk.1
theorem pt_retv {Y : pt_Y} {p : Program} {l : Launch} {e : Env} {s : State} {m : MethodId} {args : Array Value} {below : List Frame} {meth : Method} {c : Code} {D : va_G} {ad : Nat → Nat → Nat} {cA : Nat → ClassId} {pc : Nat} {L : List (Nat × pt_V)} {M' : pt_M} (hr : Y.2.2.2.1 = none) (hd : decode Y.2.1 pc = .ok (.return_, 1)) (hC : pt_Cx Y p s m args meth c D ad cA (pt_Ad ad) 0 0) :
    pt_At Y p l e s m args below meth c D ad cA (pt_Ad ad) 0 0 (MQ below (pt_Qc D ad cA none M') args s 0 0 (pt_Ad ad)) (pc, L, [], M') := by
  intro H locs ls g1 g2 g3 g4
  obtain ⟨hx, hb, hrt, hml, hown, hts, hlk, hW, hAd⟩ := hC
  exact W.vret hx hb (hrt.trans hr) (fun t ht hW => ⟨rfl, by rw [ht]; exact g1, g3.F ht⟩) g3.2.2 hd hlk.1
/-- the method comes to its return: what it answers, the memory behind it -/
def pt_rk (Y : pt_Y) (t : pt_B) (pc : Nat) (r : Option pt_V) : Prop := ∃ q, pt_b1 (pt_bn t (pc / 16)) pc = some q ∧ match r with
  | none => q.1 = .return_ ∧ Y.2.2.2.1 = none
  | some (.inl x) => q.1 = .ireturn ∧ ∃ ty, Y.2.2.2.1 = some ty ∧ narrow ty (.int x) = .int x
  | some (.inr (.inl _)) => False
  | some (.inr (.inr _)) => q.1 = .areturn ∧ ∃ ty, Y.2.2.2.1 = some ty ∧ ((∃ n, ty = .object n) ∨ ∃ t, ty = .array t)
theorem pt_dec {b : ByteArray} {t : pt_B} (hok : pt_ok b t = true) {pc : Nat} {q : Instr × Nat × Nat} (h : pt_b1 (pt_bn t (pc / 16)) pc = some q) : decode b pc = .ok (q.1, pt_ln q.1) := by
  have hm := pt_bn_all hok _ (pt_b1_mem h)
  unfold pt_okI at hm
  split at hm
  · rename_i z hdz
    rw [Bool.and_eq_true, Bool.and_eq_true] at hm
    obtain ⟨⟨h1, h2⟩, h3⟩ := hm
    have e1 := of_decide_eq_true h1
    rw [e1] at hdz
    rw [hdz, Nat.eq_of_beq_eq_true h2]
  · cases hm
theorem pt_does_go {y : MethodName} {Y : pt_Y} {t : pt_B} (hok : pt_ok Y.2.1 t = true) (hy : (plainFor y && decide (y.cls = pt_own Y.1)) = true) {vs : List pt_V} {M M' : pt_M} {r : Option pt_V} {pc : Nat} {L : List (Nat × pt_V)} (hvs : (vs.map pt_w).sum ≤ Y.2.2.1) (hX : M'.2.2.2.2 = M.2.2.2.2) (hr : pt_rk Y t pc r) (h : pt_Go Y (0, pt_en 0 vs, [], M) (pc, L, r.toList, M')) : pt_Does y Y vs M r M' := by
  rw [Bool.and_eq_true] at hy
  refine pt_does hy.1 (of_decide_eq_true hy.2) hvs hX fun p l e s m args below meth c D ad cA hC => h p l e s m args below meth c D ad cA (pt_Ad ad) 0 0 _ hC ?_
  obtain ⟨q, hq, hr⟩ := hr
  have hd := pt_dec hok hq
  match r, hr with
  | none, hr => rw [hr.1] at hd; exact pt_retv hr.2 hd hC
  | some (.inl x), hr =>
    obtain ⟨h1, ty, h2, h3⟩ := hr
    rw [h1] at hd
    exact pt_reti h2 h3 hd hC
  | some (.inr (.inr (k, i))), hr =>
    obtain ⟨h1, ty, h2, h3⟩ := hr
    rw [h1] at hd
    exact pt_retr h2 h3 hd hC
/-! calling -/
theorem pt_Wd.moved {D : va_G} {ad : Nat → Nat → Nat} {cA : Nat → ClassId} {s U : State} (h : s.vm.Alike U.vm) (hn : pt_nw U) (hW : pt_Wd D ad cA s) : pt_Wd D ad cA U := ⟨va_K.moved h hW.1, hW.2.1, hn⟩
theorem pt_nw.warm {s U : State} (h : s.WarmedH U.vm) (hn : pt_nw s) : pt_nw U := ⟨va_Nw.warmM h hn.1, va_Nw.warmM h hn.2⟩
theorem pt_Ro.moved {ad : Nat → Nat → Nat} {A B : Nat → Prop} {M : pt_M} {s U : State} {locs : List Loc} (h : s.vm.Alike U.vm) (hS : va_S A s.heap U.heap locs) (hAB : ∀ q, B q → A q) (hR : pt_Ro ad A M s) : pt_Ro ad B M U := by
  refine ⟨fun k q hq => ?_, fun k nm hn => ?_⟩
  · obtain ⟨h1, h2⟩ := hR.1 k q hq
    have hlt : ad k 0 < s.heap.size := by
      obtain ⟨scr, g1, -⟩ := h1
      exact (Array.getElem?_eq_some_iff.mp g1).1
    exact ⟨(h1.kept (hS.2.1 _ hlt h2)).moved h, fun z => h2 (hAB _ z)⟩
  · exact (((hR.2 k nm hn).kept (fun a h1 h2 => hS.2.1 a h1 h2)).moved h).narrow hAB
theorem pt_blind {D : va_G} {ad : Nat → Nat → Nat} {cA : Nat → ClassId} {M : pt_M} {vs : List pt_V} : FrameBlind (pt_Pc D ad cA M vs) := by
  intro a U g mk h
  obtain ⟨h1, h2, h3, h4⟩ := h
  exact ⟨h1, h2, pt_Wd.moved (s := U) (U := U.calling g mk a) (Vm.Alike.refl U.vm) ⟨va_Nw.same rfl rfl h3.2.2.1, va_Nw.same rfl rfl h3.2.2.2⟩ h3, pt_Ro.moved (s := U) (U := U.calling g mk a) (A := pt_Ad ad) (locs := []) (Vm.Alike.refl U.vm) va_S.rf (fun _ z => z) h4⟩
theorem pt_goodw {y : MethodName} {b : ByteArray} {n : Nat} {r : Option FieldType} (h : Cond.code y b n r ∈ pt_tb) : GoodIn pt_tb (Cond.code y b n r :: pt_tb) := by
  intro w hw
  have hm : w ∈ pt_tb := by
    rcases List.mem_cons.mp hw with rfl | hw
    · exact h
    · exact hw
  exact ⟨hm, good_of_word (List.mem_filter.mp hm).2⟩
theorem pt_goes {Y : pt_Y} {pc : Nat} {L : List (Nat × pt_V)} {st st0 : List pt_V} {M M' : pt_M} {r : Option pt_V} {p : Program} {l : Launch} {e : Env} {s : State} {m : MethodId} {args : Array Value} {below : List Frame} {meth : Method} {c : Code} {D : va_G} {ad : Nat → Nat → Nat} {cA : Nat → ClassId} {A : Nat → Prop} {cells slots : Nat} {Q : State → Prop} {H : Heap} {locs : List Loc} {ls : Array Slot} {a : Array Value}
    (hX : M'.2.2.2.2 = M.2.2.2.2) (hAd : ∀ q, pt_Ad ad q → A q)
    (hr : va_Run p l e Y.2.2.2.2 s m args below meth c H locs cells slots 0 0 (F0 m pc ls (st0.map (pt_cv ad))) (st.map (pt_cv ad)) (pt_Qc D ad cA r M' a) (pt_Ad ad))
    (hA : pt_At Y p l e s m args below meth c D ad cA A cells slots Q (pc + 3, L, r.toList ++ st, M')) (g2 : pt_Ro ad A M s) (g3 : va_S A s.heap H locs) (g4 : lv_has ls Y.2.2.1 (pt_cl ad L)) :
    W p l e Y.2.2.2.2 s m args below meth c H locs cells slots Q (F0 m pc ls (st0.map (pt_cv ad))) := by
  intro T hT X
  obtain ⟨v, st₀, t, T', Lc, h0, X', hL, e1, e2, ⟨hv, hH', hz, hk⟩, stp⟩ := hr T hT X
  cases hv
  rw [h0] at hz hk
  have hro : pt_Ro ad A M' s := by
    refine ⟨fun k q hq => g2.1 k q ?_, g2.2⟩
    rw [← hq]
    unfold pt_ro pt_L pt_X
    rw [hX]
  have h3 : va_S A s.heap T'.heap (locs ++ Lc) := by
    refine ⟨Nat.le_trans g3.1 (by rw [e1]; exact hz), fun q h1 h2 => ?_, fun q hq => ?_⟩
    · rw [e1, hk q (Nat.lt_of_lt_of_le h1 g3.1) (fun z => h2 (hAd q z))]
      exact g3.2.1 q h1 h2
    · rcases List.mem_append.mp hq with h | h
      · exact g3.2.2 q h
      · exact hAd _ (hL q h)
  have K := hA T'.heap (locs ++ Lc) ls (by rw [e1]; exact hH') hro h3 g4
  dsimp only at K
  rw [pt_F0] at K
  obtain ⟨t2, a1, b1⟩ := K T' rfl X'
  exact ⟨t2, stp t2 a1, b1⟩

/-- a word of the tables, by its place -/
def pt_wi (i : Nat) (w : Cond) : Bool := (match lw_tbl[i]? with
  | some z => decide (z = w)
  | none => false) && goodWord w
theorem pt_wi_ok {i : Nat} {w : Cond} (h : pt_wi i w = true) : w ∈ pt_tb := by
  unfold pt_wi at h
  rw [Bool.and_eq_true] at h
  obtain ⟨h1, h2⟩ := h
  split at h1
  · rename_i z hz
    cases of_decide_eq_true h1
    exact pt_tb_of (List.mem_of_getElem? hz) h2
  · cases h1
/-- a method's words: initialised, its code -/
def pt_ckM (y : MethodName) (Y : pt_Y) (n i1 i2 : Nat) : Bool :=
  pt_wi i1 (Cond.initialized y.cls) && (pt_wi i2 (Cond.code y Y.2.1 Y.2.2.1 Y.2.2.2.1) && (decide (y.cls ≠ "java/lang/invoke/MethodHandle" ∧ y.cls ≠ "java/lang/invoke/VarHandle") && (decide ((parseMethodDescriptor y.desc).map (fun d => d.parameters.length) = some n) && (Nat.beq Y.2.2.2.2.cells 0 && Nat.beq Y.2.2.2.2.slots 0))))
def pt_ckR (Y Yc : pt_Y) : Bool := Nat.ble (Yc.2.2.2.2.frames + 1) Y.2.2.2.2.frames && Nat.ble (8 + (Yc.2.2.1 + 11) + Yc.2.2.2.2.locals) Y.2.2.2.2.locals
theorem pt_ckB_ok {Y : pt_Y} {y : MethodName} {Yc : pt_Y} {n i1 i2 : Nat} (h : pt_ckM y Yc n i1 i2 = true) (hr : pt_ckR Y Yc = true) : Cond.initialized y.cls ∈ pt_tb ∧ Cond.code y Yc.2.1 Yc.2.2.1 Yc.2.2.2.1 ∈ pt_tb ∧ (y.cls ≠ "java/lang/invoke/MethodHandle" ∧ y.cls ≠ "java/lang/invoke/VarHandle" ∧ (parseMethodDescriptor y.desc).map (fun d => d.parameters.length) = some n) ∧ Yc.2.2.2.2.cells = 0 ∧ Yc.2.2.2.2.slots = 0 ∧ Yc.2.2.2.2.frames + 1 ≤ Y.2.2.2.2.frames ∧ 8 + (Yc.2.2.1 + 11) + Yc.2.2.2.2.locals ≤ Y.2.2.2.2.locals := by
  unfold pt_ckM at h
  unfold pt_ckR at hr
  simp only [Bool.and_eq_true, decide_eq_true_eq] at h hr
  obtain ⟨h1, h2, h3, h4, h5, h6⟩ := h
  exact ⟨pt_wi_ok h1, pt_wi_ok h2, ⟨h3.1, h3.2, h4⟩, Nat.eq_of_beq_eq_true h5, Nat.eq_of_beq_eq_true h6, Nat.le_of_ble_eq_true hr.1, Nat.le_of_ble_eq_true hr.2⟩
theorem pt_rm {ad : Nat → Nat → Nat} {m : MethodId} {pc : Nat} {ls : Array Slot} {rest : List Value} : ∀ {st : List pt_V}, (st.map pt_w).sum ≤ 8 → 2 * (F0 m pc ls rest).monitorRoom + ((st.map (pt_cv ad)).map fun v => v.category).sum ≤ 8 := by
  intro st h
  apply lv_room
  have : ((st.map (pt_cv ad)).map fun v => v.category) = st.map pt_w := by
    rw [List.map_map]
    apply List.map_congr_left
    intro v _
    show (pt_cv ad v).category = pt_w v
    rw [pt_cat]
    unfold pt_w
    cases pt_isL v <;> rfl
  rw [this]
  exact h
def pt_ckS (Y : pt_Y) (idx : Nat) (y : MethodName) (Yc : pt_Y) (i3 i4 : Nat) : Bool := pt_wi i3 (Cond.methodLink (pt_own Y.1) idx y) && (pt_wi i4 (Cond.static y) && pt_ckR Y Yc)
theorem pt_callS {Y Yc : pt_Y} {idx n i1 i2 i3 i4 : Nat} {y : MethodName} {vs : List pt_V} {M M' : pt_M} {r : Option pt_V} (hk : pt_ckS Y idx y Yc i3 i4 = true) (hm : pt_ckM y Yc n i1 i2 = true) (hn : vs.length = n) (hD : pt_Does y Yc vs M r M') : pt_Cal Y (.invokestatic idx) vs M r M' := by
  unfold pt_ckS at hk
  simp only [Bool.and_eq_true] at hk
  obtain ⟨k1, k2, hk⟩ := hk
  have k1 := pt_wi_ok k1
  have k2 := pt_wi_ok k2
  obtain ⟨k3, k4, k5, k6, k7, k8, k9⟩ := pt_ckB_ok hm hk
  intro pc L st hd hst p l e s m args below meth c D ad cA A cells slots Q hC hA H locs ls g1 g2 g3 g4
  obtain ⟨hx, hb, hr, hml, hown, hts, hlk, hW, hAd⟩ := hC
  have hAB : ∀ q, pt_Ad ad q → A q := by
    rintro q ⟨k, i, h1, rfl⟩
    exact hAd k i h1
  have hcw : CallB Y.2.2.2.2 s args (pt_own Y.1) idx y Yc.2.1 Yc.2.2.1 Yc.2.2.2.1 (Cond.code y Yc.2.1 Yc.2.2.1 Yc.2.2.2.1 :: pt_tb) Yc.2.2.2.2 0 0 n := callB_of n hts (pt_goodw k4) rfl k6 k7 (hts _ k3) (hts _ k1) k5 ⟨k8, k9⟩
  refine pt_goes (a := (vs.map (pt_cv ad)).toArray) hD.1 hAB ?_ hA g2 g3 g4
  exact va_runS (As := vs.map (pt_cv ad)) (rest := st.map (pt_cv ad)) ⟨hx, hb, hml, hown, hts⟩ (hD.2 l D ad cA) ⟨hcw, hts _ k2⟩ ⟨pt_blind, fun U hU hWm => ⟨rfl, by rw [hU]; exact g1, hW.moved hWm.alike (hW.2.2.warm hWm), pt_Ro.moved hWm.alike (by rw [hU]; exact g3) hAB g2⟩⟩ rfl (by rw [List.length_map]; exact hn) g4.1 (by show (vs.reverse ++ st).map _ = _; rw [List.map_append, List.map_reverse]) (pt_rm hst) hd ⟨hlk.2.1, hlk.2.2⟩
def pt_ckN (Y : pt_Y) (y : MethodName) (Yc : pt_Y) (i4 : Nat) : Bool := pt_wi i4 (Cond.static y) && pt_ckR Y Yc
theorem pt_callN {Y Yc : pt_Y} {idx n i1 i2 i4 : Nat} {y : MethodName} {h : String} {vs : List pt_V} {M M' : pt_M} {r : Option pt_V} (hl : ∀ s, pt_nw s → va_Nw (.methodLinkNest (pt_own Y.1) idx y h) s) (hk : pt_ckN Y y Yc i4 = true) (hm : pt_ckM y Yc n i1 i2 = true) (hn : vs.length = n) (hD : pt_Does y Yc vs M r M') : pt_Cal Y (.invokestatic idx) vs M r M' := by
  unfold pt_ckN at hk
  simp only [Bool.and_eq_true] at hk
  obtain ⟨k2, hk⟩ := hk
  have k2 := pt_wi_ok k2
  obtain ⟨k3, k4, k5, k6, k7, k8, k9⟩ := pt_ckB_ok hm hk
  intro pc L st hd hst p l e s m args below meth c D ad cA A cells slots Q hC hA H locs ls g1 g2 g3 g4
  obtain ⟨hx, hb, hr, hml, hown, hts, hlk, hW, hAd⟩ := hC
  have hAB : ∀ q, pt_Ad ad q → A q := by
    rintro q ⟨k, i, h1, rfl⟩
    exact hAd k i h1
  have hcw : va_CN Y.2.2.2.2 s args (pt_own Y.1) idx y h Yc.2.1 Yc.2.2.1 Yc.2.2.2.1 (Cond.code y Yc.2.1 Yc.2.2.1 Yc.2.2.2.1 :: pt_tb) Yc.2.2.2.2 0 0 n := va_cnB n hts (pt_goodw k4) rfl k6 k7 (hl s hW.2.2) (hts _ k3) k5 ⟨k8, k9⟩
  refine pt_goes (a := (vs.map (pt_cv ad)).toArray) hD.1 hAB ?_ hA g2 g3 g4
  exact va_runSN (As := vs.map (pt_cv ad)) (rest := st.map (pt_cv ad)) ⟨hx, hb, hml, hown, hts⟩ (hD.2 l D ad cA) ⟨hcw, hts _ k2, trivial⟩ ⟨pt_blind, fun U hU hWm => ⟨rfl, by rw [hU]; exact g1, hW.moved hWm.alike (hW.2.2.warm hWm), pt_Ro.moved hWm.alike (by rw [hU]; exact g3) hAB g2⟩⟩ rfl (by rw [List.length_map]; exact hn) g4.1 (by show (vs.reverse ++ st).map _ = _; rw [List.map_append, List.map_reverse]) (pt_rm hst) hd ⟨hlk.2.1, hlk.2.2⟩
def pt_cn (k : Nat) : String := match pt_ob k with
  | none => ""
  | some z => match vwCl[z.1]? with
    | none => ""
    | some q => q.1
def pt_ckV (Y : pt_Y) (idx k : Nat) (y : MethodName) (Yc : pt_Y) (i3 i4 i5 : Nat) : Bool := pt_wi i3 (Cond.methodLink (pt_own Y.1) idx y) && (pt_wi i4 (Cond.instanceMethod y) && (pt_wi i5 (Cond.selects (pt_cn k) y y) && pt_ckR Y Yc))
theorem pt_recv {D : va_G} {ad : Nat → Nat → Nat} {cA : Nat → ClassId} {M : pt_M} {H : Heap} {s : State} {k i : Nat} (hW : pt_Wd D ad cA s) (g1 : pt_Hd D ad cA M H) (hk : (pt_ob k).isSome = true) (hi : i < pt_ct k) : ∃ cell : Cell, H[ad k i]? = some cell ∧ cell.vm.isStatics = false ∧ s.vm.findClass (pt_cn k) = some cell.cls := by
  cases ho : pt_ob k with
  | none => rw [ho] at hk; cases hk
  | some z =>
    obtain ⟨ci, N⟩ := z
    have hP := g1.at hi (pt_ce_o (ad := ad) (cA := cA) (M := M) (i := i) ho)
    have hq : ∃ q, vwCl[ci]? = some q := by
      unfold pt_ob at ho
      split at ho <;> cases ho <;> exact ⟨_, rfl⟩
    obtain ⟨q, hq⟩ := hq
    have h := va_recv hW.1 hP hq (q0 := 0) rfl
    unfold pt_cn
    rw [ho]
    dsimp only
    rw [hq]
    exact h
theorem pt_callV {Y Yc : pt_Y} {idx n k i i1 i2 i3 i4 i5 : Nat} {y : MethodName} {vs : List pt_V} {M M' : pt_M} {r : Option pt_V} (hk : pt_ckV Y idx k y Yc i3 i4 i5 = true) (hm : pt_ckM y Yc n i1 i2 = true) (ho : (pt_ob k).isSome = true) (hi : i < pt_ct k) (hn : vs.length = n) (hD : pt_Does y Yc (pt_r k i :: vs) M r M') : pt_Cal Y (.invokevirtual idx) (pt_r k i :: vs) M r M' := by
  unfold pt_ckV at hk
  simp only [Bool.and_eq_true] at hk
  obtain ⟨k1, k2, k22, hk⟩ := hk
  have k1 := pt_wi_ok k1
  have k2 := pt_wi_ok k2
  have k22 := pt_wi_ok k22
  obtain ⟨k3, k4, k5, k6, k7, k8, k9⟩ := pt_ckB_ok hm hk
  intro pc L st hd hst p l e s m args below meth c D ad cA A cells slots Q hC hA H locs ls g1 g2 g3 g4
  obtain ⟨hx, hb, hr, hml, hown, hts, hlk, hW, hAd⟩ := hC
  have hAB : ∀ q, pt_Ad ad q → A q := by
    rintro q ⟨k, i, h1, rfl⟩
    exact hAd k i h1
  have hcw : CallB Y.2.2.2.2 s args (pt_own Y.1) idx y Yc.2.1 Yc.2.2.1 Yc.2.2.2.1 (Cond.code y Yc.2.1 Yc.2.2.1 Yc.2.2.2.1 :: pt_tb) Yc.2.2.2.2 0 0 n := callB_of n hts (pt_goodw k4) rfl k6 k7 (hts _ k3) (hts _ k1) k5 ⟨k8, k9⟩
  have hrv := pt_recv hW g1 ho hi
  refine pt_goes (a := ((pt_r k i :: vs).map (pt_cv ad)).toArray) hD.1 hAB ?_ hA g2 g3 g4
  have hM := hD.2 l D ad cA
  obtain ⟨k, rfl⟩ : ∃ n, k = n + 1 := by
    apply pt_k1
    rintro rfl
    cases ho
  exact va_runV (As := vs.map (pt_cv ad)) (rest := st.map (pt_cv ad)) (b := ad (k + 1) i) ⟨hx, hb, hml, hown, hts⟩ hM ⟨hcw, hts _ k2, hts _ k22⟩ ⟨pt_blind, hrv, fun U hU hWm => ⟨rfl, by rw [hU]; exact g1, hW.moved hWm.alike (hW.2.2.warm hWm), pt_Ro.moved hWm.alike (by rw [hU]; exact g3) hAB g2⟩⟩ rfl (by rw [List.length_map]; exact hn) g4.1 (by show ((pt_r (k + 1) i :: vs).reverse ++ st).map _ = _; rw [List.reverse_cons, List.append_assoc, List.map_append, List.map_reverse]; rfl) (pt_rm hst) hd ⟨hlk.2.1, hlk.2.2⟩
