/-! the abstract machine's steps, as a function of the instruction; o: which way a branch goes, what a call gives -/
abbrev pt_O : Type := Bool ⊕ (Nat × Option pt_V × pt_M)
abbrev pt_T : Type := Option Prop × List pt_O × pt_S
def pt_w (v : pt_V) : Nat := match pt_isL v with
  | true => 2
  | false => 1
/-- a call that the machine does: from the arguments on the stack to the answer there -/
def pt_Cal (Y : pt_Y) (I : Instr) (vs : List pt_V) (M : pt_M) (r : Option pt_V) (M' : pt_M) : Prop :=
  ∀ pc L st, decode Y.2.1 pc = .ok (I, 3) → (st.map pt_w).sum ≤ 8 → pt_Go Y (pc, L, vs.reverse ++ st, M) (pc + 3, L, r.toList ++ st, M')
def pt_vd (k i : Nat) : Option (Option Prop) := match pt_ct k with
  | 7 => some (some (i < 7))
  | _ => match i with
    | 0 => some none
    | _ => none
theorem pt_vd_ok {k i : Nat} {c : Option Prop} (h : pt_vd k i = some c) (hc : ∀ P, c = some P → P) : i < pt_ct k := by
  unfold pt_vd at h
  split at h
  · rename_i h7
    cases h
    rw [h7]
    exact hc _ rfl
  · split at h
    · unfold pt_ct
      split <;> decide
    · cases h
def pt_cj (P : Prop) (c : Option Prop) : Option Prop := match c with
  | none => some P
  | some P' => some (P ∧ P')
theorem pt_cj_ok {P : Prop} {c : Option Prop} (h : ∀ Z, pt_cj P c = some Z → Z) : P ∧ ∀ Z, c = some Z → Z := by
  unfold pt_cj at h
  cases c with
  | none => exact ⟨h _ rfl, fun Z z => by cases z⟩
  | some P' => exact ⟨(h _ rfl).1, fun Z z => by cases z; exact (h _ rfl).2⟩
def pt_kc (cn idx : Nat) : Option Int32 := match cn with
  | 9 => match idx with
    | 265 => some 1431655765
    | 266 => some 858993459
    | 267 => some 252645135
    | _ => none
  | _ => none
def pt_kl (cn idx : Nat) : Option Int64 := match cn with
  | 7 => match idx with
    | 95 => some (-10000)
    | 97 => some 10000
    | _ => none
  | _ => none
def pt_sk (cn idx : Nat) : Option Nat := match cn with
  | 0 => match idx with
    | 260 => some 61
    | 263 => some 62
    | 266 => some 63
    | 269 => some 64
    | 272 => some 60
    | _ => none
  | _ => none
def pt_cm (q : ClassFile.Cond) (x y : Int32) : Prop := match q with
  | .eq => x = y
  | .ne => ¬ x = y
  | .lt => x < y
  | .ge => y ≤ x
  | .gt => y < x
  | .le => x ≤ y
def pt_nc (q : ClassFile.Cond) (x y : Int32) : Prop := match q with
  | .eq => ¬ x = y
  | .ne => x = y
  | .lt => ¬ x < y
  | .ge => ¬ y ≤ x
  | .gt => ¬ y < x
  | .le => ¬ x ≤ y
def pt_s2 (o : List pt_O) (pc : Nat) (L : List (Nat × pt_V)) (M : pt_M) (f : Int32 → Int32 → Int32) (c : Int32 → Option Prop) (st : List pt_V) : Option pt_T := match st with
  | .inl y :: .inl x :: st => some (c y, o, (pc + 1, L, .inl (f x y) :: st, M))
  | _ => none
def pt_s1 (o : List pt_O) (pc : Nat) (L : List (Nat × pt_V)) (M : pt_M) (f : Int32 → pt_V) (st : List pt_V) : Option pt_T := match st with
  | .inl x :: st => some (none, o, (pc + 1, L, f x :: st, M))
  | _ => none
def pt_g2 (o : List pt_O) (pc : Nat) (L : List (Nat × pt_V)) (M : pt_M) (f : Int64 → Int64 → pt_V) (st : List pt_V) : Option pt_T := match st with
  | .inr (.inl y) :: .inr (.inl x) :: st => some (none, o, (pc + 1, L, f x y :: st, M))
  | _ => none
/-- 0 a number, 1 a long, 2 a reference -/
def pt_kd (v : pt_V) : Nat := match v with
  | .inl _ => 0
  | .inr (.inl _) => 1
  | .inr (.inr _) => 2
def pt_ld (o : List pt_O) (pc : Nat) (L : List (Nat × pt_V)) (M : pt_M) (st : List pt_V) (n i kd : Nat) : Option pt_T := match pt_lk L i with
  | none => none
  | some v => match Nat.beq (pt_kd v) kd with
    | true => some (none, o, (pc + n, L, v :: st, M))
    | false => none
def pt_sv (mx : Nat) (o : List pt_O) (pc : Nat) (L : List (Nat × pt_V)) (M : pt_M) (n i kd : Nat) (st : List pt_V) : Option pt_T := match st with
  | [] => none
  | v :: st => match Nat.beq (pt_kd v) kd && Nat.blt i mx with
    | true => some (none, o, (pc + n, pt_st1 L i v, st, M))
    | false => none
def pt_br (o : List pt_O) (L : List (Nat × pt_V)) (M : pt_M) (st : List pt_V) (pc tgt : Nat) (P N : Prop) : Option pt_T := match o with
  | .inl true :: o => some (some P, o, (tgt, L, st, M))
  | .inl false :: o => some (some N, o, (pc + 3, L, st, M))
  | _ => none
def pt_cal (Y : pt_Y) (I : Instr) (o : List pt_O) (pc : Nat) (L : List (Nat × pt_V)) (M : pt_M) (st : List pt_V) : Option pt_T := match o with
  | .inr (n, r, M') :: o => match Nat.ble n st.length && Nat.ble ((st.drop n).map pt_w).sum 8 with
    | true => some (some (pt_Cal Y I (st.take n).reverse M r M'), o, (pc + 3, L, r.toList ++ st.drop n, M'))
    | false => none
  | _ => none
def pt_bz (k f : Nat) : Bool := match k with
  | 3 => Nat.beq f 3
  | _ => false
def pt_pf (o : List pt_O) (pc : Nat) (L : List (Nat × pt_V)) (M : pt_M) (q : Option (Nat × Nat)) (st : List pt_V) : Option pt_T := match q with
  | none => none
  | some (k, f) => match st with
    | .inl x :: .inr (.inr (k', i)) :: st => match Nat.beq k k' && Nat.beq (pt_fs k f) 0 with
      | false => none
      | true => match pt_vd k i with
        | none => none
        | some c => some (match pt_bz k f with
          | true => pt_cj (x = 0 ∨ x = 1) c
          | false => c, o, (pc + 3, L, st, pt_wF M k f i x))
    | .inr (.inr (3, t)) :: .inr (.inr (2, 0)) :: st => match Nat.beq k 2 && Nat.beq f 1 with
      | true => some (none, o, (pc + 3, L, st, pt_wR M 0 t))
      | false => none
    | _ => none
def pt_gf (o : List pt_O) (pc : Nat) (L : List (Nat × pt_V)) (M : pt_M) (q : Option (Nat × Nat)) (st : List pt_V) : Option pt_T := match q with
  | none => none
  | some (k, f) => match st with
    | .inr (.inr (k', i)) :: st => match Nat.beq k k' with
      | false => none
      | true => match pt_vd k i with
        | none => none
        | some c => some (c, o, (pc + 3, L, pt_fv M k f i :: st, M))
    | _ => none
def pt_al (t : Nat) (o : List pt_O) (pc : Nat) (L : List (Nat × pt_V)) (M : pt_M) (st : List pt_V) : Option pt_T := match st with
  | .inl j :: .inr (.inr (k, i)) :: st => match pt_ak k with
    | some (t', n) => match Nat.beq t t' with
      | false => none
      | true => match pt_vd k i with
        | none => none
        | some c => some (pt_cj (pt_in j n) c, o, (pc + 1, L, (match t with
          | 2 => pt_l (pt_G M k (pt_nt j))
          | 3 => pt_r 3 (pt_R M (pt_nt j + 1))
          | _ => pt_i (pt_A M k i (pt_nt j))) :: st, M))
    | none => match t with
      | 0 => match i with
        | 0 => match pt_ro M k with
          | some q => some (some (pt_in j q.1), o, (pc + 1, L, pt_i (q.2 (pt_nt j)) :: st, M))
          | none => none
        | _ => none
      | _ => none
  | _ => none
def pt_len (o : List pt_O) (pc : Nat) (L : List (Nat × pt_V)) (M : pt_M) (st : List pt_V) : Option pt_T := match st with
  | .inr (.inr (k, i)) :: st => match pt_ak k with
    | some (t, n) => match Nat.blt t 2 with
      | false => none
      | true => match pt_vd k i with
        | none => none
        | some c => some (c, o, (pc + 1, L, pt_i (nI n) :: st, M))
    | none => match i with
      | 0 => match pt_ro M k with
        | some q => some (none, o, (pc + 1, L, pt_i (nI q.1) :: st, M))
        | none => none
      | _ => none
  | _ => none
def pt_as (t : Nat) (o : List pt_O) (pc : Nat) (L : List (Nat × pt_V)) (M : pt_M) (st : List pt_V) : Option pt_T := match st with
  | .inl x :: .inl j :: .inr (.inr (k, i)) :: st => match pt_ak k with
    | some (t', n) => match Nat.beq t t' with
      | false => none
      | true => match pt_vd k i with
        | none => none
        | some c => match t with
          | 0 => some (pt_cj (pt_in j n) c, o, (pc + 1, L, st, pt_wA M k i (upd (pt_A M k i) (pt_nt j) x)))
          | 1 => some (pt_cj (pt_in j n) c, o, (pc + 1, L, st, pt_wA M k i (upd (pt_A M k i) (pt_nt j) x.toInt8.toInt32)))
          | _ => none
    | none => none
  | .inr (.inl x) :: .inl j :: .inr (.inr (k, 0)) :: st => match pt_ak k with
    | some (2, n) => match Nat.beq t 2 && Nat.beq (pt_ct k) 1 with
      | true => some (some (pt_in j n), o, (pc + 1, L, st, pt_wG M k (vp_updL (pt_G M k) (pt_nt j) x)))
      | false => none
    | _ => none
  | .inr (.inr (3, q)) :: .inl j :: .inr (.inr (10, 0)) :: st => match Nat.beq t 3 with
    | true => some (some (pt_in j 6 ∧ q < 7), o, (pc + 1, L, st, pt_wR M (pt_nt j + 1) q))
    | false => none
  | _ => none
def pt_stp (Y : pt_Y) (I : Instr) (n tgt : Nat) (o : List pt_O) (σ : pt_S) : Option pt_T := match σ with
  | (pc, L, st, M) => match I with
    | .iload i => pt_ld o pc L M st 2 i 0
    | .iload_n i => pt_ld o pc L M st 1 i.val 0
    | .aload i => pt_ld o pc L M st 2 i 2
    | .aload_n i => pt_ld o pc L M st 1 i.val 2
    | .lload i => pt_ld o pc L M st 2 i 1
    | .istore i => pt_sv Y.2.2.1 o pc L M 2 i 0 st
    | .istore_n i => pt_sv Y.2.2.1 o pc L M 1 i.val 0 st
    | .astore i => pt_sv Y.2.2.1 o pc L M 2 i 2 st
    | .astore_n i => pt_sv Y.2.2.1 o pc L M 1 i.val 2 st
    | .lstore i => match st with
      | .inr (.inl x) :: st => match Nat.blt (i + 1) Y.2.2.1 with
        | true => some (none, o, (pc + 2, pt_st2 L i (pt_l x), st, M))
        | false => none
      | _ => none
    | .iconst z => some (none, o, (pc + 1, L, .inl (Int32.ofInt z) :: st, M))
    | .bipush z => some (none, o, (pc + 2, L, .inl (Int8.ofInt z).toInt32 :: st, M))
    | .sipush z => some (none, o, (pc + 3, L, .inl (Int16.ofInt z).toInt32 :: st, M))
    | .lconst z => some (none, o, (pc + 1, L, .inr (.inl (Int64.ofNat z.val)) :: st, M))
    | .ldc_w i => match pt_kc Y.1 i with
      | some v => some (none, o, (pc + 3, L, .inl v :: st, M))
      | none => none
    | .ldc2_w i => match pt_kl Y.1 i with
      | some v => some (none, o, (pc + 3, L, .inr (.inl v) :: st, M))
      | none => none
    | .aconst_null => some (none, o, (pc + 1, L, pt_n :: st, M))
    | .iadd => pt_s2 o pc L M (fun x y => x + y) (fun _ => none) st
    | .isub => pt_s2 o pc L M (fun x y => x - y) (fun _ => none) st
    | .imul => pt_s2 o pc L M (fun x y => x * y) (fun _ => none) st
    | .idiv => pt_s2 o pc L M (fun x y => x / y) (fun y => some (¬ y = 0)) st
    | .irem => pt_s2 o pc L M (fun x y => x - x / y * y) (fun y => some (¬ y = 0)) st
    | .iand => pt_s2 o pc L M (fun x y => x &&& y) (fun _ => none) st
    | .ior => pt_s2 o pc L M (fun x y => x ||| y) (fun _ => none) st
    | .ixor => pt_s2 o pc L M (fun x y => x ^^^ y) (fun _ => none) st
    | .ishl => pt_s2 o pc L M (fun x y => x <<< (y &&& 31)) (fun _ => none) st
    | .ishr => pt_s2 o pc L M (fun x y => x >>> (y &&& 31)) (fun _ => none) st
    | .iushr => pt_s2 o pc L M (fun x y => (x.toUInt32 >>> (y.toUInt32 &&& Int32.toUInt32 31)).toInt32) (fun _ => none) st
    | .ineg => pt_s1 o pc L M (fun x => .inl (-x)) st
    | .i2b => pt_s1 o pc L M (fun x => .inl x.toInt8.toInt32) st
    | .i2s => pt_s1 o pc L M (fun x => .inl x.toInt16.toInt32) st
    | .i2l => pt_s1 o pc L M (fun x => .inr (.inl x.toInt64)) st
    | .lsub => pt_g2 o pc L M (fun x y => .inr (.inl (x - y))) st
    | .lmul => pt_g2 o pc L M (fun x y => .inr (.inl (x * y))) st
    | .lcmp => pt_g2 o pc L M (fun x y => .inl (lg_cmp x y)) st
    | .goto _ => some (none, o, (tgt, L, st, M))
    | .if_icmp q _ => match st with
      | .inl y :: .inl x :: st => pt_br o L M st pc tgt (pt_cm q x y) (pt_nc q x y)
      | _ => none
    | .ifCond q _ => match st with
      | .inl x :: st => pt_br o L M st pc tgt (pt_cm q x 0) (pt_nc q x 0)
      | _ => none
    | .ifnull _ => match st with
      | .inr (.inr (0, _)) :: st => some (none, o, (tgt, L, st, M))
      | .inr (.inr (_ + 1, _)) :: st => some (none, o, (pc + 3, L, st, M))
      | _ => none
    | .ifnonnull _ => match st with
      | .inr (.inr (0, _)) :: st => some (none, o, (pc + 3, L, st, M))
      | .inr (.inr (_ + 1, _)) :: st => some (none, o, (tgt, L, st, M))
      | _ => none
    | .iinc i z => match pt_lk L i with
      | some (.inl x) => match Nat.blt i Y.2.2.1 with
        | true => some (none, o, (pc + 3, pt_st1 L i (.inl (x + Int32.ofInt z)), st, M))
        | false => none
      | _ => none
    | .dup => match st with
      | v :: st => match pt_isL v with
        | false => some (none, o, (pc + 1, L, v :: v :: st, M))
        | true => none
      | _ => none
    | .dup2 => match st with
      | v :: w :: st => match pt_isL v || pt_isL w with
        | false => some (none, o, (pc + 1, L, v :: w :: v :: w :: st, M))
        | true => none
      | _ => none
    | .getfield i => pt_gf o pc L M (pt_fl Y.1 i) st
    | .putfield i => pt_pf o pc L M (pt_fl Y.1 i) st
    | .getstatic i => match pt_sk Y.1 i with
      | some k => some (none, o, (pc + 3, L, pt_r k 0 :: st, M))
      | none => none
    | .iaload => pt_al 0 o pc L M st
    | .baload => pt_al 1 o pc L M st
    | .laload => pt_al 2 o pc L M st
    | .aaload => pt_al 3 o pc L M st
    | .iastore => pt_as 0 o pc L M st
    | .bastore => pt_as 1 o pc L M st
    | .lastore => pt_as 2 o pc L M st
    | .aastore => pt_as 3 o pc L M st
    | .arraylength => pt_len o pc L M st
    | .invokevirtual _ => pt_cal Y I o pc L M st
    | .invokestatic _ => pt_cal Y I o pc L M st
    | _ => none
