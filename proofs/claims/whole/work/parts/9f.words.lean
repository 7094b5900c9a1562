/-! the words of the class's throws -/
def th_Y0 : String := "java/lang/RuntimeException"
def th_Y1 : String := "java/lang/Exception"
def th_V : List Cond := th_at RX6 181 th_N 13 prog_18_method_4_code th_Y0 [th_Y1]
/-- the words that a warmer world doesn't simply keep -/
def th_B : List Cond := [.castable th_N th_N, .declares (Bundle.initS th_Y0), .declares (Bundle.initS th_Y1), .declares (Bundle.initS Bundle.tN)]
/-- where they stand in the tables -/
def th_pl : List Nat := [63, 601, 610, 612, 615, 617, 602, 603, 74, 75, 604, 609, 613, 633, 591, 634, 593, 635, 595, 605, 607, 597, 629, 630, 632, 597, 620, 621, 622, 623, 0, 623, 624, 625, 626, 0, 626, 627, 628, 629, 0, 619, 580, 0, 588, 589, 590, 592, 594, 596, 600, 599, 598]
def th_ck : List Cond → List Nat → Bool
  | [], _ => true
  | _ :: _, [] => false
  | w :: ws, i :: is => (pt_wi i w || decide (w ∈ th_B)) && th_ck ws is
theorem th_ck_ok : ∀ (ws : List Cond) (is : List Nat), th_ck ws is = true → ∀ w ∈ ws, w ∈ pt_tb ∨ w ∈ th_B
  | [], _, _, w, hw => nomatch hw
  | _ :: _, [], h, _, _ => nomatch h
  | v :: ws, i :: is, h, w, hw => by
    unfold th_ck at h
    rw [Bool.and_eq_true, Bool.or_eq_true] at h
    rcases List.mem_cons.mp hw with rfl | hw
    · exact h.1.imp pt_wi_ok of_decide_eq_true
    · exact th_ck_ok ws is h.2 w hw
set_option maxRecDepth 100000 in
theorem th_V_ok : th_ck th_V th_pl = true := by decide +kernel
set_option maxRecDepth 100000 in
theorem th_V_ot : (Cond.classLink RX6 177 th_N :: Cond.initialized th_N :: th_V).all vx_ot = true := by decide +kernel
theorem th_w1 : Cond.classLink RX6 177 th_N ∈ pt_tb := pt_wi_ok (i := 579) (by decide +kernel)
theorem th_w2 : Cond.initialized th_N ∈ pt_tb := pt_wi_ok (i := 66) (by decide +kernel)
theorem th_w3 : Cond.classLink RL 13 th_N ∈ pt_tb := pt_wi_ok (i := 574) (by decide +kernel)
/-- the three texts, Throwable's two statics, the four words -/
def thw_F (sa : Nat → Nat) (A : Nat → Prop) (U : State) : Prop := (vk_R RX6 179 "no lawful table" (sa 0) U ∧ vk_R RX6 184 "no such point of the rim" (sa 1) U ∧ vk_R RX6 239 "no such byte of OUT" (sa 2) U) ∧ (vx_Zq Bundle.tN "UNASSIGNED_STACK" Bundle.steD A U U.heap ∧ vx_Zq Bundle.tN "SUPPRESSED_SENTINEL" Bundle.listD A U U.heap) ∧ va_Nw (.castable th_N th_N) U ∧ va_Nw (.declares (Bundle.initS th_Y0)) U ∧ va_Nw (.declares (Bundle.initS th_Y1)) U ∧ va_Nw (.declares (Bundle.initS Bundle.tN)) U
theorem thw_F.moved {sa : Nat → Nat} {A B : Nat → Prop} {s U : State} (hW : s.WarmedH U.vm) (hS : ∀ a : Nat, a < s.heap.size → ¬ A a → U.heap[a]? = s.heap[a]?) (hAB : ∀ q, B q → A q) (h : thw_F sa A s) : thw_F sa B U := by
  obtain ⟨⟨a1, a2, a3⟩, ⟨b1, b2⟩, c1, c2, c3, c4⟩ := h
  exact ⟨⟨a1.warm hW, a2.warm hW, a3.warm hW⟩, ⟨((b1.kept hS).moved hW.alike).narrow hAB, ((b2.kept hS).moved hW.alike).narrow hAB⟩, c1.warmC hW, c2.warmD hW, c3.warmD hW, c4.warmD hW⟩
theorem thw_F.words {sa : Nat → Nat} {A : Nat → Prop} {s : State} {args : Array Value} (h : thw_F sa A s) (ht : ∀ w ∈ pt_tb, w.before args s = true) : ∀ w ∈ th_V, w.before args s = true := by
  intro w hw
  rcases th_ck_ok _ _ th_V_ok w hw with h1 | h2
  · exact ht w h1
  · obtain ⟨-, -, c1, c2, c3, c4⟩ := h
    simp only [th_B, List.mem_cons, List.not_mem_nil, or_false] at h2
    rcases h2 with rfl | rfl | rfl | rfl
    · exact va_Nw.use rfl c1
    · exact va_Nw.use rfl c2
    · exact va_Nw.use rfl c3
    · exact va_Nw.use rfl c4
