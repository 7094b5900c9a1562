/-! LAWS: sets in their order; fours and fives in whatever order -/
theorem fs_list {α : Type} {f : Nat → Option α} : ∀ d i, fs_F d i f = (List.range' i d).findSome? f
  | 0, i => rfl
  | d + 1, i => by
    rw [List.range'_succ, List.findSome?_cons]
    unfold fs_F
    cases f i with
    | some v => rfl
    | none => exact fs_list d (i + 1)
theorem fs_cong {α : Type} {f g : Nat → Option α} : ∀ {d i : Nat}, (∀ j, i ≤ j → j < i + d → f j = g j) → fs_F d i f = fs_F d i g
  | 0, i, _ => rfl
  | d + 1, i, h => by
    unfold fs_F
    rw [h i (Nat.le_refl i) (by omega), fs_cong (d := d) (i := i + 1) fun j h1 h2 => h j (by omega) (by omega)]
theorem fd_app {α β : Type} {f : α → Option β} : ∀ l l' : List α, (l ++ l').findSome? f = (match l.findSome? f with | some v => some v | none => l'.findSome? f)
  | [], l' => rfl
  | a :: l, l' => by
    rw [List.cons_append, List.findSome?_cons, List.findSome?_cons]
    cases f a with
    | some v => rfl
    | none => exact fd_app l l'
theorem fd_flat {α β γ : Type} {f : β → Option γ} {g : α → List β} : ∀ l : List α, (l.flatMap g).findSome? f = l.findSome? fun a => (g a).findSome? f
  | [] => rfl
  | a :: l => by
    rw [List.flatMap_cons, fd_app, List.findSome?_cons, fd_flat l]
    cases (g a).findSome? f <;> rfl
theorem fd_map {α β γ : Type} {f : β → Option γ} {g : α → β} : ∀ l : List α, (l.map g).findSome? f = l.findSome? fun a => f (g a)
  | [] => rfl
  | a :: l => by
    rw [List.map_cons, List.findSome?_cons, List.findSome?_cons, fd_map l]
theorem fd_pick {r : Nat → Nat} {c b : Nat → Bool} : ∀ l : List Nat, (l.findSome? fun t => if c t && b (r t) then some t else none).map r = ((l.filter c).map r).findSome? fun m => if b m then some m else none
  | [] => rfl
  | t :: l => by
    rw [List.findSome?_cons, List.filter_cons]
    cases hc : c t
    · exact fd_pick l
    · show _ = ((t :: l.filter c).map r).findSome? _
      rw [List.map_cons, List.findSome?_cons]
      cases hb : b (r t)
      · exact fd_pick l
      · rfl
theorem fd_mem {α : Type} {m : α → Nat} {b : Nat → Bool} {p : α → Bool} : ∀ l : List α, (∀ q, q ∈ l → b (m q) = p q) → (l.findSome? fun q => if p q then some (m q) else none) = (l.map m).findSome? fun x => if b x then some x else none
  | [], _ => rfl
  | t :: l, h => by
    rw [List.map_cons, List.findSome?_cons, List.findSome?_cons, fd_mem l fun q hq => h q (List.mem_cons_of_mem _ hq), h t List.mem_cons_self]
/-- the sets of four, of five, in their order -/
def l4_L (n : Nat) : List (Nat × Nat × Nat × Nat) := (List.range' 0 (n - 0)).flatMap fun a => (List.range' (a + 1) (n - (a + 1))).flatMap fun b => (List.range' (b + 1) (n - (b + 1))).flatMap fun c => (List.range' (c + 1) (n - (c + 1))).map fun d => (a, b, c, d)
def l5_L (n : Nat) : List (Nat × Nat × Nat × Nat × Nat) := (List.range' 0 (n - 0)).flatMap fun a => (List.range' (a + 1) (n - (a + 1))).flatMap fun b => (List.range' (b + 1) (n - (b + 1))).flatMap fun c => (List.range' (c + 1) (n - (c + 1))).flatMap fun d => (List.range' (d + 1) (n - (d + 1))).map fun e => (a, b, c, d, e)
def m4_F (q : Nat × Nat × Nat × Nat) : Nat := 2 ^ q.1 ||| 2 ^ q.2.1 ||| 2 ^ q.2.2.1 ||| 2 ^ q.2.2.2
def m5_F (q : Nat × Nat × Nat × Nat × Nat) : Nat := 2 ^ q.1 ||| 2 ^ q.2.1 ||| 2 ^ q.2.2.1 ||| 2 ^ q.2.2.2.1 ||| 2 ^ q.2.2.2.2
theorem f4_list {n : Nat} {B : Nat → Nat → Nat → Bool} : f4_F n B = (l4_L n).findSome? fun q => if b4_F B q.1 q.2.1 q.2.2.1 q.2.2.2 then some (m4_F q) else none := by
  unfold f4_F l4_L
  simp only [fs_list, fd_flat, fd_map]
  rfl
theorem f5_list {n : Nat} {B : Nat → Nat → Nat → Bool} : f5_F n B = (l5_L n).findSome? fun q => if b5_F B q.1 q.2.1 q.2.2.1 q.2.2.2.1 q.2.2.2.2 then some (m5_F q) else none := by
  unfold f5_F l5_L
  simp only [fs_list, fd_flat, fd_map]
  rfl
theorem mem_r' {s d x : Nat} (h : x ∈ List.range' s d) : s ≤ x ∧ x < s + d := by
  obtain ⟨i, h1, h2⟩ := List.mem_range'.mp h
  omega
theorem l4_mem {n : Nat} {q : Nat × Nat × Nat × Nat} (h : q ∈ l4_L n) : q.1 < q.2.1 ∧ q.2.1 < q.2.2.1 ∧ q.2.2.1 < q.2.2.2 ∧ q.2.2.2 < n := by
  obtain ⟨a, ha, h⟩ := List.mem_flatMap.mp h
  obtain ⟨b, hb, h⟩ := List.mem_flatMap.mp h
  obtain ⟨c, hc, h⟩ := List.mem_flatMap.mp h
  obtain ⟨d, hd, rfl⟩ := List.mem_map.mp h
  have ha := mem_r' ha
  have hb := mem_r' hb
  have hc := mem_r' hc
  have hd := mem_r' hd
  dsimp only
  omega
theorem l5_mem {n : Nat} {q : Nat × Nat × Nat × Nat × Nat} (h : q ∈ l5_L n) : q.1 < q.2.1 ∧ q.2.1 < q.2.2.1 ∧ q.2.2.1 < q.2.2.2.1 ∧ q.2.2.2.1 < q.2.2.2.2 ∧ q.2.2.2.2 < n := by
  obtain ⟨a, ha, h⟩ := List.mem_flatMap.mp h
  obtain ⟨b, hb, h⟩ := List.mem_flatMap.mp h
  obtain ⟨c, hc, h⟩ := List.mem_flatMap.mp h
  obtain ⟨d, hd, h⟩ := List.mem_flatMap.mp h
  obtain ⟨e, he, rfl⟩ := List.mem_map.mp h
  have ha := mem_r' ha
  have hb := mem_r' hb
  have hc := mem_r' hc
  have hd := mem_r' hd
  have he := mem_r' he
  dsimp only
  omega
/-- the model's way through the sets: the numbers from above, their bits turned round -/
def rv_F (n x : Nat) : Nat := pb_s n fun k => x.testBit (n - 1 - k)
def wn_F (n w : Nat) (b : Nat → Bool) : Option Nat := fs_F (2 ^ n - 1 - 0) 0 fun t => if decide (pc_F (2 ^ n - 1 - t) = w) && b (rv_F n (2 ^ n - 1 - t)) then some t else none
set_option maxRecDepth 100000 in
theorem l4_tab : ((List.range 11).all fun n => decide (((List.range' 0 (2 ^ n - 1 - 0)).filter fun t => decide (pc_F (2 ^ n - 1 - t) = 4)).map (fun t => rv_F n (2 ^ n - 1 - t)) = (l4_L n).map m4_F)) = true := by decide +kernel
set_option maxRecDepth 100000 in
theorem l5_tab : ((List.range 11).all fun n => decide (((List.range' 0 (2 ^ n - 1 - 0)).filter fun t => decide (pc_F (2 ^ n - 1 - t) = 5)).map (fun t => rv_F n (2 ^ n - 1 - t)) = (l5_L n).map m5_F)) = true := by decide +kernel
theorem wn_4 {n : Nat} {B : Nat → Nat → Nat → Bool} {bk : Nat → Bool} (hn : n ≤ 10) (h : ∀ q, q ∈ l4_L n → bk (m4_F q) = b4_F B q.1 q.2.1 q.2.2.1 q.2.2.2) : (wn_F n 4 bk).map (fun t => rv_F n (2 ^ n - 1 - t)) = f4_F n B := by
  unfold wn_F
  rw [fs_list, fd_pick (r := fun t => rv_F n (2 ^ n - 1 - t)) (c := fun t => decide (pc_F (2 ^ n - 1 - t) = 4)) (b := bk), of_decide_eq_true (pt_all l4_tab (i := n) (by omega)), f4_list, fd_mem (l4_L n) h]
theorem wn_5 {n : Nat} {B : Nat → Nat → Nat → Bool} {bk : Nat → Bool} (hn : n ≤ 10) (h : ∀ q, q ∈ l5_L n → bk (m5_F q) = b5_F B q.1 q.2.1 q.2.2.1 q.2.2.2.1 q.2.2.2.2) : (wn_F n 5 bk).map (fun t => rv_F n (2 ^ n - 1 - t)) = f5_F n B := by
  unfold wn_F
  rw [fs_list, fd_pick (r := fun t => rv_F n (2 ^ n - 1 - t)) (c := fun t => decide (pc_F (2 ^ n - 1 - t) = 5)) (b := bk), of_decide_eq_true (pt_all l5_tab (i := n) (by omega)), f5_list, fd_mem (l5_L n) h]
/-- any order of w points -/
def bs_F (w : Nat) (Q : Nat → Nat → Nat → Nat → Bool) : Option Unit := fs_F (w - 0) 0 fun a => fs_F (w - 0) 0 fun b => fs_F (w - 0) 0 fun c => if decide (a = b) || (decide (b = c) || decide (a = c)) then none else fs_F (w - 0) 0 fun d => if decide (d = a) || (decide (d = b) || decide (d = c)) then none else if Q a b c d then some () else none
theorem bs_cong {w : Nat} {Q Q' : Nat → Nat → Nat → Nat → Bool} (h : ∀ a b c d, a < w → b < w → c < w → d < w → a ≠ b → b ≠ c → a ≠ c → d ≠ a → d ≠ b → d ≠ c → Q a b c d = Q' a b c d) : bs_F w Q = bs_F w Q' := by
  unfold bs_F
  refine fs_cong fun a _ ha => fs_cong fun b _ hb => fs_cong fun c _ hc => ?_
  by_cases h1 : a = b
  · rw [decide_eq_true h1]
    rfl
  by_cases h2 : b = c
  · rw [decide_eq_true h2, Bool.true_or, Bool.or_true]
    rfl
  by_cases h3 : a = c
  · rw [decide_eq_true h3, Bool.or_true, Bool.or_true]
    rfl
  rw [decide_eq_false h1, decide_eq_false h2, decide_eq_false h3]
  refine fs_cong fun d _ hd => ?_
  by_cases h4 : d = a
  · rw [decide_eq_true h4]
    rfl
  by_cases h5 : d = b
  · rw [decide_eq_true h5, Bool.true_or, Bool.or_true]
    rfl
  by_cases h6 : d = c
  · rw [decide_eq_true h6, Bool.or_true, Bool.or_true]
    rfl
  rw [decide_eq_false h4, decide_eq_false h5, decide_eq_false h6, h a b c d (by omega) (by omega) (by omega) (by omega) h1 h2 h3 h4 h5 h6]
def q4_F (B : Nat → Nat → Nat → Bool) (a b c d : Nat) : Bool := B a b d && (B b c d && (B c a d && !B a b c))
/-- few points: their turns as bits -/
def xm_F (mk : Nat) : Nat → Nat → Nat → Bool := pb_x fun i j k => mk.testBit (th_F i j k)
set_option maxRecDepth 100000 in
theorem t4_tab : ((List.range 16).all fun mk => decide ((bs_F 4 fun a b c d => q4_F (xm_F mk) a b c d).isSome = b4_F (xm_F mk) 0 1 2 3)) = true := by decide +kernel
theorem px_sy {n i j k : Nat} {C : Nat → Nat → Nat → Bool} (hs : sy_P n C) (hi : i < n) (hj : j < n) (hk : k < n) (h1 : i ≠ j) (h2 : j ≠ k) (h3 : i ≠ k) : C i j k = pb_x C i j k := by
  unfold pb_x
  have a1 := hs i j k hi hj hk h1 h2 h3
  have a2 := hs j i k hj hi hk (fun z => h1 z.symm) h3 h2
  have a3 := hs k i j hk hi hj (fun z => h3 z.symm) h1 (fun z => h2 z.symm)
  have a4 := hs k j i hk hj hi (fun z => h2 z.symm) (fun z => h1 z.symm) (fun z => h3 z.symm)
  split
  · split
    · rfl
    · split
      · rw [a2.2, ← a2.1]
      · rw [← a3.1]
  · split
    · exact a2.2
    · split
      · exact a1.1.symm
      · rw [a2.2, a4.1]
theorem px_cong {n i j k : Nat} {s s' : Nat → Nat → Nat → Bool} (h : ∀ x y z, x < y → y < z → z < n → s x y z = s' x y z) (hi : i < n) (hj : j < n) (hk : k < n) (h1 : i ≠ j) (h2 : j ≠ k) (h3 : i ≠ k) : pb_x s i j k = pb_x s' i j k := by
  unfold pb_x
  split
  · split
    · exact h _ _ _ (by omega) (by omega) (by omega)
    · split
      · rw [h i k j (by omega) (by omega) (by omega)]
      · exact h _ _ _ (by omega) (by omega) (by omega)
  · split
    · rw [h j i k (by omega) (by omega) (by omega)]
    · split
      · exact h _ _ _ (by omega) (by omega) (by omega)
      · rw [h k j i (by omega) (by omega) (by omega)]
def mk_F (w : Nat) (C : Nat → Nat → Nat → Bool) : Nat := pb_s w fun q => C (ti_F q).1 (ti_F q).2.1 (ti_F q).2.2
theorem mk_x {n w i j k : Nat} {C : Nat → Nat → Nat → Bool} (hs : sy_P n C) (hw : ∀ x y z, x < y → y < z → z < n → th_F x y z < w) (hn : n ≤ 10) (hi : i < n) (hj : j < n) (hk : k < n) (h1 : i ≠ j) (h2 : j ≠ k) (h3 : i ≠ k) : C i j k = xm_F (mk_F w C) i j k := by
  rw [px_sy hs hi hj hk h1 h2 h3]
  refine px_cong (n := n) (fun x y z a b c => ?_) hi hj hk h1 h2 h3
  unfold mk_F
  rw [pb_bit, (th_all a b (show z < 10 by omega)).2.2]
  rw [decide_eq_true (hw x y z a b c)]
  rfl
set_option maxRecDepth 100000 in
theorem w4_tab : ((List.range 4).all fun z => (List.range z).all fun y => (List.range y).all fun x => decide (th_F x y z < 4)) = true := by decide +kernel
set_option maxRecDepth 100000 in
theorem w5_tab : ((List.range 5).all fun z => (List.range z).all fun y => (List.range y).all fun x => decide (th_F x y z < 10)) = true := by decide +kernel
theorem w4_ok (x y z : Nat) (h1 : x < y) (h2 : y < z) (h3 : z < 4) : th_F x y z < 4 := of_decide_eq_true (pt_all (pt_all (pt_all w4_tab h3) h2) h1)
theorem w5_ok (x y z : Nat) (h1 : x < y) (h2 : y < z) (h3 : z < 5) : th_F x y z < 10 := of_decide_eq_true (pt_all (pt_all (pt_all w5_tab h3) h2) h1)
/-- points by their numbers among a few -/
theorem sy_g {n w : Nat} {B : Nat → Nat → Nat → Bool} {g : Nat → Nat} (hs : sy_P n B) (hg : ∀ q, q < w → g q < n) (hj : ∀ p q, p < w → q < w → g p = g q → p = q) : sy_P w fun i j k => B (g i) (g j) (g k) := fun i j k hi hj' hk h1 h2 h3 => hs (g i) (g j) (g k) (hg i hi) (hg j hj') (hg k hk) (fun z => h1 (hj i j hi hj' z)) (fun z => h2 (hj j k hj' hk z)) (fun z => h3 (hj i k hi hk z))
theorem bs_4 {n : Nat} {B : Nat → Nat → Nat → Bool} {g : Nat → Nat} (hs : sy_P n B) (hg : ∀ q, q < 4 → g q < n) (hj : ∀ p q, p < 4 → q < 4 → g p = g q → p = q) : (bs_F 4 fun a b c d => q4_F B (g a) (g b) (g c) (g d)).isSome = b4_F B (g 0) (g 1) (g 2) (g 3) := by
  have hC := sy_g hs hg hj
  have e : ∀ i j k, i < 4 → j < 4 → k < 4 → i ≠ j → j ≠ k → i ≠ k → B (g i) (g j) (g k) = xm_F (mk_F 4 fun i j k => B (g i) (g j) (g k)) i j k := fun i j k hi hj hk h1 h2 h3 => mk_x hC w4_ok (by decide) hi hj hk h1 h2 h3
  have hlt : mk_F 4 (fun i j k => B (g i) (g j) (g k)) < 16 := pb_lt _ 4
  have t := of_decide_eq_true (pt_all t4_tab hlt)
  generalize mk_F 4 (fun i j k => B (g i) (g j) (g k)) = mk at *
  have e1 : (bs_F 4 fun a b c d => q4_F B (g a) (g b) (g c) (g d)) = bs_F 4 fun a b c d => q4_F (xm_F mk) a b c d := bs_cong fun a b c d ha hb hc hd h1 h2 h3 h4 h5 h6 => by
    unfold q4_F
    rw [e a b d ha hb hd h1 (fun z => h5 z.symm) (fun z => h4 z.symm), e b c d hb hc hd h2 (fun z => h6 z.symm) (fun z => h5 z.symm), e c a d hc ha hd (fun z => h3 z.symm) (fun z => h4 z.symm) (fun z => h6 z.symm), e a b c ha hb hc h1 h2 h3]
  rw [e1, t]
  unfold b4_F
  rw [e 0 1 3 (by decide) (by decide) (by decide) (by decide) (by decide) (by decide), e 0 1 2 (by decide) (by decide) (by decide) (by decide) (by decide) (by decide), e 0 2 3 (by decide) (by decide) (by decide) (by decide) (by decide) (by decide), e 1 2 3 (by decide) (by decide) (by decide) (by decide) (by decide) (by decide)]
