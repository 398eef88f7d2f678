/-- the class of which an array is made, and its number -/
def x_AOI : Nat := 2
/-- the law's own method, which alone reads the script -/
def x_LAW : Nat := 88
def x_AOC : String := "MeetingCarpets$House"
/-! A small machine over a heap of values: 'x_s' is one instruction, 'x_r' a run; part 05 shows that what it answers the Java machine does. -/
abbrev xM : Type := Nat → va_E
abbrev xH : Type := (Nat × Nat) × xM
abbrev xO : Type := Option ((Nat × List Value × List Value × xH) ⊕ (Option Value ⊕ (Nat × List Value × Nat × List Value × List Value)))
def unk : Value := .retAddr 0
def mu (m : xM) (a : Nat) (e : va_E) : xM := fun q => if q = a then e else m q
def k2 (v : Value) : Value := if v.category = 2 then unk else v
def xmod : List Value → Nat → List Value
  | [], _ => []
  | a :: t, 0 => k2 a :: t
  | a :: t, n + 1 => a :: xmod t n
def sto (L : List Value) (k : Nat) (v : Value) : List Value := (match k with | 0 => L | j + 1 => xmod L j).set k v
def lg (L : List Value) (k : Nat) : Value := L.getD k unk
def x_okl : Instr → Nat → Bool
  | .bipush _, n => n == 2
  | .ldc _, n => n == 2
  | .iload _, n => n == 2
  | .istore _, n => n == 2
  | .lload _, n => n == 2
  | .aload _, n => n == 2
  | .astore _, n => n == 2
  | .newarray _, n => n == 2
  | .sipush _, n => n == 3
  | .ldc2_w _, n => n == 3
  | .iinc _ _, n => n == 3
  | .ifCond _ _, n => n == 3
  | .if_icmp _ _, n => n == 3
  | .goto _, n => n == 3
  | .ifnull _, n => n == 3
  | .ifnonnull _, n => n == 3
  | .getfield _, n => n == 3
  | .putfield _, n => n == 3
  | .invokevirtual _, n => n == 3
  | .invokestatic _, n => n == 3
  | .invokespecial _, n => n == 3
  | .new _, n => n == 3
  | .anewarray _, n => n == 3
  | .tableswitch _ _ _ _, _ => true
  | .lookupswitch _ _, _ => true
  | _, n => n == 1
def x_fe (y pc : Nat) : Option (Instr × Nat) := match decode (x_cd y) pc with
  | .ok (i, len) => if x_okl i len = true then some (i, len) else none
  | .error _ => none
def nx (pc : Nat) (L st : List Value) (h : xH) : xO := some (.inl (pc, L, st, h))
def jp (pc : Nat) (off : Int) (L st : List Value) (h : xH) : xO := if 0 ≤ (pc : Int) + off then nx ((pc : Int) + off).toNat L st h else none
def xLi (pc : Nat) (L : List Value) (k : Nat) (st : List Value) (h : xH) : xO := match lg L k with | .int x => nx pc L (.int x :: st) h | _ => none
def xLl (pc : Nat) (L : List Value) (k : Nat) (st : List Value) (h : xH) : xO := match lg L k with | .long x => nx pc L (.long x :: st) h | _ => none
def xLa (pc : Nat) (L : List Value) (k : Nat) (st : List Value) (h : xH) : xO := match lg L k with | .ref x => nx pc L (.ref x :: st) h | .null => nx pc L (.null :: st) h | _ => none
def xSi (pc : Nat) (L : List Value) (k : Nat) (st : List Value) (h : xH) : xO := match st with | .int x :: t => (if k < L.length then nx pc (sto L k (.int x)) t h else none) | _ => none
def xSa (pc : Nat) (L : List Value) (k : Nat) (st : List Value) (h : xH) : xO := match st with | .ref x :: t => (if k < L.length then nx pc (sto L k (.ref x)) t h else none) | .null :: t => (if k < L.length then nx pc (sto L k .null) t h else none) | _ => none
def xInc (pc : Nat) (L : List Value) (k : Nat) (n : Int) (st : List Value) (h : xH) : xO := match lg L k with | .int x => (if k < L.length then nx pc (sto L k (.int (x + Int32.ofInt n))) st h else none) | _ => none
def x2i (st : List Value) (f : Int32 → Int32 → List Value → xO) : xO := match st with | .int b :: .int a :: t => f a b t | _ => none
def x2l (st : List Value) (f : Int64 → Int64 → List Value → xO) : xO := match st with | .long b :: .long a :: t => f a b t | _ => none
def xli (st : List Value) (f : Int64 → Int32 → List Value → xO) : xO := match st with | .int b :: .long a :: t => f a b t | _ => none
def xc : Jvm.ClassFile.Cond → Int32 → Int32 → Bool
  | .eq, x, y => decide (x = y)
  | .ne, x, y => decide (¬ x = y)
  | .lt, x, y => decide (x < y)
  | .ge, x, y => decide (y ≤ x)
  | .gt, x, y => decide (y < x)
  | .le, x, y => decide (x ≤ y)
def xIf (pc : Nat) (b : Bool) (off : Int) (L st : List Value) (h : xH) : xO := if 0 ≤ (pc : Int) + off then nx (match b with | true => ((pc : Int) + off).toNat | false => pc + 3) L st h else none
def x_fits : FieldType → Value → Bool
  | .int, .int _ => true
  | .boolean, .int v => v == 0 || v == 1
  | .object _, .ref _ => true
  | .object _, .null => true
  | .array _, .ref _ => true
  | .array _, .null => true
  | _, _ => false
def isF (e : va_E) (ci k : Nat) : Bool := match e with | .inr (cj, fs) => decide (cj = ci) && decide (k < fs.length) | _ => false
def fld (e : va_E) (k : Nat) : Value := match e with | .inr (_, fs) => fs.getD k .null | _ => .null
def fset (e : va_E) (k : Nat) (v : Value) : va_E := match e with | .inr (cj, fs) => .inr (cj, fs.set k v) | e => e
def isK (e : va_E) (ci : Nat) : Bool := match e with | .inr (cj, _) => decide (cj = ci) | _ => false
/-- an int may be read there -/
def inA (_ : Nat) (e : va_E) (i : Int32) : Bool := match e with | .inl (t, n, .inl _) => (decide (t = 0) || decide (t = 3)) && (decide (¬ i < 0) && decide (i.toNatClampNeg < n)) | _ => false
/-- an int may be written there -/
def inW (e : va_E) (i : Int32) : Bool := match e with | .inl (t, n, .inl _) => decide (t = 0) && (decide (¬ i < 0) && decide (i.toNatClampNeg < n)) | _ => false
def inZ (e : va_E) (i : Int32) : Bool := match e with | .inl (t, n, .inl _) => decide (t = 1) && (decide (¬ i < 0) && decide (i.toNatClampNeg < n)) | _ => false
def inQ (e : va_E) (i : Int32) : Bool := match e with | .inl (t, n, .inr (.inr (.inr (.inr _)))) => decide (t = 2) && (decide (¬ i < 0) && decide (i.toNatClampNeg < n)) | _ => false
def aget (e : va_E) (i : Int32) : Int32 := match e with | .inl (_, _, .inl f) => f i.toNatClampNeg | _ => 0
def aset (e : va_E) (i x : Int32) : va_E := match e with | .inl (t, n, .inl f) => .inl (t, n, .inl (upd f i.toNatClampNeg x)) | e => e
def qget (e : va_E) (i : Int32) : Value := match e with | .inl (_, _, .inr (.inr (.inr (.inr f)))) => va_rf (f i.toNatClampNeg) | _ => .null
def qset (e : va_E) (i : Int32) (v : Nat) : va_E := match e with | .inl (t, n, .inr (.inr (.inr (.inr f)))) => .inl (t, n, .inr (.inr (.inr (.inr (va_up f i.toNatClampNeg (some v)))))) | e => e
def isA (_ : Nat) (e : va_E) : Bool := match e with | .inl (t, _, .inl _) => decide (t < 3) || decide (t = 3) | .inl (t, _) => decide (t < 3) | _ => false
def alen (e : va_E) : Nat := match e with | .inl (_, n, _) => n | _ => 0
def xGet (y ix pc : Nat) (L st : List Value) (h : xH) : xO := match st with
  | .ref a :: t => (match x_gf (x_kl y) ix with
    | some (ci, k) => (match isF (h.2 a) ci k with | true => nx (pc + 3) L (fld (h.2 a) k :: t) h | false => none)
    | none => none)
  | _ => none
def xPut (y ix pc : Nat) (L st : List Value) (h : xH) : xO := match st with
  | v :: .ref a :: t => (match x_pf (x_kl y) ix with
    | some (ci, k, fin) => (match isF (h.2 a) ci k && (x_fits (x_TY ci k) v && (!fin || (x_in y && decide (ci = x_kl y)))) with | true => nx (pc + 3) L t (h.1, mu h.2 a (fset (h.2 a) k v)) | false => none)
    | none => none)
  | _ => none
def xIald (y pc : Nat) (L st : List Value) (h : xH) : xO := match st with
  | .int i :: .ref a :: t => (match inA y (h.2 a) i with | true => nx (pc + 1) L (.int (aget (h.2 a) i) :: t) h | false => none)
  | _ => none
def xIast (pc : Nat) (L st : List Value) (h : xH) : xO := match st with
  | .int x :: .int i :: .ref a :: t => (match inW (h.2 a) i with | true => nx (pc + 1) L t (h.1, mu h.2 a (aset (h.2 a) i x)) | false => none)
  | _ => none
def xZald (pc : Nat) (L st : List Value) (h : xH) : xO := match st with
  | .int i :: .ref a :: t => (match inZ (h.2 a) i with | true => nx (pc + 1) L (.int (aget (h.2 a) i) :: t) h | false => none)
  | _ => none
def xZast (pc : Nat) (L st : List Value) (h : xH) : xO := match st with
  | .int x :: .int i :: .ref a :: t => (match inZ (h.2 a) i with | true => nx (pc + 1) L t (h.1, mu h.2 a (aset (h.2 a) i (vp_nar .boolean x))) | false => none)
  | _ => none
def xAald (pc : Nat) (L st : List Value) (h : xH) : xO := match st with
  | .int i :: .ref a :: t => (match inQ (h.2 a) i with | true => nx (pc + 1) L (qget (h.2 a) i :: t) h | false => none)
  | _ => none
def xAast (pc : Nat) (L st : List Value) (h : xH) : xO := match st with
  | .ref v :: .int i :: .ref a :: t => (match inQ (h.2 a) i && isK (h.2 v) x_AOI with | true => nx (pc + 1) L t (h.1, mu h.2 a (qset (h.2 a) i v)) | false => none)
  | _ => none
def xAlen (y pc : Nat) (L st : List Value) (h : xH) : xO := match st with
  | .ref a :: t => (match isA y (h.2 a) with | true => nx (pc + 1) L (.int (Int32.ofNat (alen (h.2 a))) :: t) h | false => none)
  | _ => none
def xNew (y ix pc : Nat) (L st : List Value) (h : xH) : xO := match x_nw (x_kl y) ix with
  | some ci => nx (pc + 3) L (.ref h.1.1 :: st) ((h.1.1 + 1, h.1.2 + (x_dfl ci).length), mu h.2 h.1.1 (.inr (ci, x_dfl ci)))
  | none => none
def xNarr (pc tg : Nat) (L st : List Value) (h : xH) : xO := match st with
  | .int n :: t => (if ¬ n < 0 ∧ n.toNatClampNeg * 4 ≤ 536870912 then nx (pc + 2) L (.ref h.1.1 :: t) ((h.1.1 + 1, h.1.2 + n.toNatClampNeg), mu h.2 h.1.1 (.inl (tg, n.toNatClampNeg, .inl (fun _ => 0)))) else none)
  | _ => none
def xAnew (y ix pc : Nat) (L st : List Value) (h : xH) : xO := match st with
  | .int n :: t => (match x_nw (x_kl y) ix with
    | some ci => (if ci = x_AOI ∧ ¬ n < 0 ∧ n.toNatClampNeg * 4 ≤ 536870912 then nx (pc + 3) L (.ref h.1.1 :: t) ((h.1.1 + 1, h.1.2 + n.toNatClampNeg), mu h.2 h.1.1 (.inl (2, n.toNatClampNeg, .inr (.inr (.inr (.inr (fun _ => none))))))) else none)
    | none => none)
  | _ => none
def xsp : List Value → List Value
  | [] => []
  | v :: vs => if v.category = 2 then v :: unk :: xsp vs else v :: xsp vs
def xInv (y pc : Nat) (L : List Value) (z : Nat) (as t : List Value) : xO := if x_fr z + 1 ≤ x_fr y ∧ 8 + (x_ml z + 11) + x_lo z ≤ x_lo y ∧ (t.map fun v => v.category).sum ≤ 8 ∧ (xsp as).length ≤ x_ml z ∧ z ≠ x_LAW then some (.inr (.inr (z, as, pc + 3, L, t))) else none
def xIv (y ix pc : Nat) (L st : List Value) (h : xH) : xO := match x_iv (x_kl y) ix with
  | some (0, z, n) => (match st.drop n with
    | .ref b :: t => (match isK (h.2 b) (x_kl z) with | true => (if (st.take n).length = n then xInv y pc L z (.ref b :: (st.take n).reverse) t else none) | false => none)
    | _ => none)
  | _ => none
def mx (b : Bool) (v w : Int32) : Int32 := match b with | true => if v < w then w else v | false => if w < v then w else v
def xIs (y ix pc : Nat) (L st : List Value) (h : xH) : xO := match x_mm (x_kl y) ix with
  | some b => (match st with
    | .int w :: .int v :: t => (if 1 ≤ x_fr y ∧ 21 ≤ x_lo y ∧ t.length ≤ 4 then nx (pc + 3) L (.int (mx b v w) :: t) h else none)
    | _ => none)
  | none => (match x_iv (x_kl y) ix with
    | some (1, z, n) => (if (st.take n).length = n then xInv y pc L z (st.take n).reverse (st.drop n) else none)
    | _ => none)
def xIp (y ix pc : Nat) (L st : List Value) (h : xH) : xO := match x_oi (x_kl y) ix with
  | true => (match st with
    | .ref _ :: t => (if 1 ≤ x_fr y ∧ 20 ≤ x_lo y ∧ t.length ≤ 4 then nx (pc + 3) L t h else none)
    | _ => none)
  | false => (match x_iv (x_kl y) ix with
    | some (2, z, n) => (match st.drop n with
      | .ref b :: t => (if (st.take n).length = n then xInv y pc L z (.ref b :: (st.take n).reverse) t else none)
      | _ => none)
    | _ => none)
def xTab (pc : Nat) (dflt lo hi : Int) (offs : Array Int) (L st : List Value) (h : xH) : xO := match st with
  | .int x :: t => (if x.toInt < lo ∨ hi < x.toInt then jp pc dflt L t h else match offs[(x.toInt - lo).toNat]? with | some off => jp pc off L t h | none => none)
  | _ => none
def xLook (pc : Nat) (dflt : Int) (ps : Array (Int × Int)) (L st : List Value) (h : xH) : xO := match st with
  | .int x :: t => (if (ps.toList.zip (ps.toList.drop 1)).all (fun (a, next) => a.1 < next.1) = true then jp pc (Op.lookupswitch.offset ps.toList dflt x.toInt) L t h else none)
  | _ => none
def xRet (y : Nat) (st : List Value) : xO := match st with
  | [.int x] => (match x_rt y with
    | some ty => (match x_fits ty (.int x) with | true => some (.inr (.inl (some (.int x)))) | false => none)
    | none => none)
  | _ => none
def xRea (y : Nat) (st : List Value) : xO := match st with
  | [.ref a] => (match x_rt y with | some (.object _) => some (.inr (.inl (some (.ref a)))) | _ => none)
  | [.null] => (match x_rt y with | some (.object _) => some (.inr (.inl (some .null))) | _ => none)
  | _ => none
def xRev (y : Nat) (st : List Value) : xO := match st with
  | [] => (match x_rt y with | none => some (.inr (.inl none)) | _ => none)
  | _ => none
def x_s (y : Nat) (i : Instr) (pc : Nat) (L st : List Value) (h : xH) : xO :=
  match i with
  | .iconst n => nx (pc + 1) L (.int (Int32.ofInt n) :: st) h
  | .bipush n => nx (pc + 2) L (.int (Int8.ofInt n).toInt32 :: st) h
  | .sipush n => nx (pc + 3) L (.int (Int16.ofInt n).toInt32 :: st) h
  | .lconst n => nx (pc + 1) L (.long (Int64.ofNat (n : Nat)) :: st) h
  | .ldc2_w ix => (match x_lc (x_kl y) ix with | some v => nx (pc + 3) L (.long v :: st) h | none => none)
  | .aconst_null => nx (pc + 1) L (.null :: st) h
  | .iload_n k => xLi (pc + 1) L k st h
  | .iload k => xLi (pc + 2) L k st h
  | .lload_n k => xLl (pc + 1) L k st h
  | .lload k => xLl (pc + 2) L k st h
  | .aload_n k => xLa (pc + 1) L k st h
  | .aload k => xLa (pc + 2) L k st h
  | .istore_n k => xSi (pc + 1) L k st h
  | .istore k => xSi (pc + 2) L k st h
  | .astore_n k => xSa (pc + 1) L k st h
  | .astore k => xSa (pc + 2) L k st h
  | .iinc k n => xInc (pc + 3) L k n st h
  | .iadd => x2i st fun a b t => nx (pc + 1) L (.int (a + b) :: t) h
  | .isub => x2i st fun a b t => nx (pc + 1) L (.int (a - b) :: t) h
  | .imul => x2i st fun a b t => nx (pc + 1) L (.int (a * b) :: t) h
  | .iand => x2i st fun a b t => nx (pc + 1) L (.int (a &&& b) :: t) h
  | .ishr => x2i st fun a b t => nx (pc + 1) L (.int (a >>> (b &&& 31)) :: t) h
  | .ldc ix => (match x_ic (x_kl y) ix with | some v => nx (pc + 2) L (.int v :: st) h | none => none)
  | .idiv => x2i st fun a b t => if b = 0 then none else nx (pc + 1) L (.int (a / b) :: t) h
  | .irem => x2i st fun a b t => if b = 0 then none else nx (pc + 1) L (.int (a - a / b * b) :: t) h
  | .land => x2l st fun a b t => nx (pc + 1) L (.long (a &&& b) :: t) h
  | .lor => x2l st fun a b t => nx (pc + 1) L (.long (a ||| b) :: t) h
  | .lcmp => x2l st fun a b t => nx (pc + 1) L (.int (lg_cmp a b) :: t) h
  | .lshl => xli st fun a b t => nx (pc + 1) L (.long (a <<< (b.toInt64 &&& 63)) :: t) h
  | .lushr => xli st fun a b t => nx (pc + 1) L (.long (a.toUInt64 >>> (b.toInt64.toUInt64 &&& Int64.toUInt64 63)).toInt64 :: t) h
  | .i2l => (match st with | .int a :: t => nx (pc + 1) L (.long a.toInt64 :: t) h | _ => none)
  | .l2i => (match st with | .long a :: t => nx (pc + 1) L (.int a.toInt32 :: t) h | _ => none)
  | .dup => (match st with | v :: t => (if v.category = 1 then nx (pc + 1) L (v :: v :: t) h else none) | _ => none)
  | .dup2 => (match st with | v :: w :: t => (if v.category = 1 ∧ w.category = 1 then nx (pc + 1) L (v :: w :: v :: w :: t) h else none) | _ => none)
  | .ifCond c off => (match st with | .int x :: t => xIf pc (xc c x 0) off L t h | _ => none)
  | .if_icmp c off => x2i st fun a b t => xIf pc (xc c a b) off L t h
  | .goto off => jp pc off L st h
  | .ifnull off => (match st with | .ref _ :: t => nx (pc + 3) L t h | .null :: t => jp pc off L t h | _ => none)
  | .ifnonnull off => (match st with | .ref _ :: t => jp pc off L t h | .null :: t => nx (pc + 3) L t h | _ => none)
  | .tableswitch dflt lo hi offs => xTab pc dflt lo hi offs L st h
  | .lookupswitch dflt ps => xLook pc dflt ps L st h
  | .getfield ix => xGet y ix pc L st h
  | .putfield ix => xPut y ix pc L st h
  | .iaload => xIald y pc L st h
  | .iastore => xIast pc L st h
  | .aaload => xAald pc L st h
  | .aastore => xAast pc L st h
  | .arraylength => xAlen y pc L st h
  | .new ix => xNew y ix pc L st h
  | .newarray .int => xNarr pc 0 L st h
  | .anewarray ix => xAnew y ix pc L st h
  | .invokevirtual ix => xIv y ix pc L st h
  | .invokestatic ix => xIs y ix pc L st h
  | .invokespecial ix => xIp y ix pc L st h
  | .ireturn => xRet y st
  | .areturn => xRea y st
  | .return_ => xRev y st
  | _ => none
def xen (as : List Value) (n : Nat) : List Value := xsp as ++ List.replicate (n - (xsp as).length) unk
def x_r : Nat → Nat → Nat → List Value → List Value → xH → Option (Option Value × xH)
  | 0, _, _, _, _, _ => none
  | n + 1, y, pc, L, st, h => match x_fe y pc with
    | none => none
    | some (i, _) => match x_s y i pc L st h with
      | none => none
      | some (.inl (pc', L', st', h')) => x_r n y pc' L' st' h'
      | some (.inr (.inl v)) => some (v, h)
      | some (.inr (.inr (z, as, pc', L', t))) => match x_r n z 0 (xen as (x_ml z)) [] h with
        | none => none
        | some (v, h') => x_r n y pc' L' (v.toList ++ t) h'
theorem x_r_nx {n y pc pc' len : Nat} {L st L' st' : List Value} {h h' : xH} {i : Instr} (hf : x_fe y pc = some (i, len)) (hs : x_s y i pc L st h = some (.inl (pc', L', st', h'))) : x_r (n + 1) y pc L st h = x_r n y pc' L' st' h' := by
  simp only [x_r, hf, hs]
theorem x_r_rt {n y pc len : Nat} {L st : List Value} {h : xH} {i : Instr} {v : Option Value} (hf : x_fe y pc = some (i, len)) (hs : x_s y i pc L st h = some (.inr (.inl v))) : x_r (n + 1) y pc L st h = some (v, h) := by
  simp only [x_r, hf, hs]
theorem x_r_cl {n y pc pc' z len : Nat} {L st L' as t : List Value} {h : xH} {i : Instr} (hf : x_fe y pc = some (i, len)) (hs : x_s y i pc L st h = some (.inr (.inr (z, as, pc', L', t)))) : x_r (n + 1) y pc L st h = match x_r n z 0 (xen as (x_ml z)) [] h with | none => none | some (v, h') => x_r n y pc' L' (v.toList ++ t) h' := by
  simp only [x_r, hf, hs]
/-- what a run's step can be -/
theorem x_r_some {n y pc : Nat} {L st : List Value} {h : xH} {r : Option Value × xH} (hr : x_r n y pc L st h = some r) : ∃ k i len, n = k + 1 ∧ x_fe y pc = some (i, len) ∧
    ((∃ pc' L' st' h', x_s y i pc L st h = some (.inl (pc', L', st', h')) ∧ x_r k y pc' L' st' h' = some r) ∨ (x_s y i pc L st h = some (.inr (.inl r.1)) ∧ r.2 = h) ∨
      ∃ z as pc' L' t v h', x_s y i pc L st h = some (.inr (.inr (z, as, pc', L', t))) ∧ x_r k z 0 (xen as (x_ml z)) [] h = some (v, h') ∧ x_r k y pc' L' (v.toList ++ t) h' = some r) := by
  cases n with
  | zero => cases hr
  | succ k =>
    cases hf : x_fe y pc with
    | none => simp [x_r, hf] at hr
    | some il =>
      obtain ⟨i, len⟩ := il
      refine ⟨k, i, len, rfl, rfl, ?_⟩
      cases hs : x_s y i pc L st h with
      | none => simp [x_r, hf, hs] at hr
      | some o =>
        rcases o with ⟨pc', L', st', h'⟩ | v | ⟨z, as, pc', L', t⟩
        · rw [x_r_nx hf hs] at hr
          exact Or.inl ⟨_, _, _, _, rfl, hr⟩
        · rw [x_r_rt hf hs] at hr
          cases hr
          exact Or.inr (Or.inl ⟨rfl, rfl⟩)
        · rw [x_r_cl hf hs] at hr
          cases hc : x_r k z 0 (xen as (x_ml z)) [] h with
          | none => rw [hc] at hr; cases hr
          | some vh =>
            obtain ⟨v, h'⟩ := vh
            rw [hc] at hr
            exact Or.inr (Or.inr ⟨_, _, _, _, _, _, _, rfl, hc, hr⟩)
theorem x_r_mono1 : ∀ (n y pc : Nat) (L st : List Value) (h : xH) (r : Option Value × xH), x_r n y pc L st h = some r → x_r (n + 1) y pc L st h = some r := by
  intro n
  induction n with
  | zero => intro y pc L st h r hr; cases hr
  | succ n ih =>
    intro y pc L st h r hr
    obtain ⟨k, i, len, e, hf, hc⟩ := x_r_some hr
    cases e
    rcases hc with ⟨pc', L', st', h', hs, hk⟩ | ⟨hs, hh⟩ | ⟨z, as, pc', L', t, v, h', hs, hz, hk⟩
    · rw [x_r_nx hf hs]
      exact ih _ _ _ _ _ _ hk
    · rw [x_r_rt hf hs, ← hh]
    · rw [x_r_cl hf hs, ih _ _ _ _ _ _ hz]
      exact ih _ _ _ _ _ _ hk
theorem x_r_mono {n m y pc : Nat} {L st : List Value} {h : xH} {r : Option Value × xH} (hr : x_r n y pc L st h = some r) (hm : n ≤ m) : x_r m y pc L st h = some r := by
  obtain ⟨k, rfl⟩ := Nat.exists_eq_add_of_le hm
  clear hm
  induction k with
  | zero => exact hr
  | succ k ih => exact x_r_mono1 _ _ _ _ _ _ _ ih
theorem x_r_det {n m y pc : Nat} {L st : List Value} {h : xH} {r r' : Option Value × xH} (h1 : x_r n y pc L st h = some r) (h2 : x_r m y pc L st h = some r') : r = r' := by
  have a := x_r_mono h1 (Nat.le_max_left n m)
  have b := x_r_mono h2 (Nat.le_max_right n m)
  exact Option.some.inj (a.symm.trans b)
/-- a run, however long -/
noncomputable def rn (y pc : Nat) (L st : List Value) (h : xH) : Option (Option Value × xH) :=
  @dite _ (∃ r n, x_r n y pc L st h = some r) (Classical.propDecidable _) (fun hx => some (Classical.choose hx)) (fun _ => none)
theorem rn_of {n y pc : Nat} {L st : List Value} {h : xH} {r : Option Value × xH} (hr : x_r n y pc L st h = some r) : rn y pc L st h = some r := by
  have hx : ∃ r n, x_r n y pc L st h = some r := ⟨r, n, hr⟩
  unfold rn
  rw [dif_pos hx]
  obtain ⟨n', h'⟩ := Classical.choose_spec hx
  rw [x_r_det h' hr]
theorem rn_ex {y pc : Nat} {L st : List Value} {h : xH} {r : Option Value × xH} (hr : rn y pc L st h = some r) : ∃ n, x_r n y pc L st h = some r := by
  unfold rn at hr
  split at hr
  next hx =>
    obtain ⟨n', h'⟩ := Classical.choose_spec hx
    cases hr
    exact ⟨n', h'⟩
  next => cases hr
theorem rn_iff {y pc : Nat} {L st : List Value} {h : xH} {r : Option Value × xH} : rn y pc L st h = some r ↔ ∃ n, x_r n y pc L st h = some r := ⟨rn_ex, fun ⟨_, hr⟩ => rn_of hr⟩
theorem rn_nx {y pc pc' len : Nat} {L st L' st' : List Value} {h h' : xH} {i : Instr} (hf : x_fe y pc = some (i, len)) (hs : x_s y i pc L st h = some (.inl (pc', L', st', h'))) : rn y pc L st h = rn y pc' L' st' h' := by
  apply Option.ext
  intro r
  rw [rn_iff, rn_iff]
  constructor
  · rintro ⟨n, hr⟩
    cases n with
    | zero => cases hr
    | succ n => exact ⟨n, by rw [← x_r_nx hf hs]; exact hr⟩
  · rintro ⟨n, hr⟩
    exact ⟨n + 1, by rw [x_r_nx hf hs]; exact hr⟩
theorem rn_rt {y pc len : Nat} {L st : List Value} {h : xH} {i : Instr} {v : Option Value} (hf : x_fe y pc = some (i, len)) (hs : x_s y i pc L st h = some (.inr (.inl v))) : rn y pc L st h = some (v, h) :=
  rn_of (n := 1) (x_r_rt hf hs)
/-- a call -/
noncomputable def cl (z : Nat) (as : List Value) (h : xH) : Option (Option Value × xH) := rn z 0 (xen as (x_ml z)) [] h
def rv (o : Option (Option Value × xH)) : List Value := match o with | some (v, _) => v.toList | none => []
def rh (o : Option (Option Value × xH)) : xH := match o with | some (_, h) => h | none => ((0, 0), fun _ => .inr (99, []))
theorem rn_cl {y pc pc' z len : Nat} {L st L' as t : List Value} {h : xH} {i : Instr} (hf : x_fe y pc = some (i, len)) (hs : x_s y i pc L st h = some (.inr (.inr (z, as, pc', L', t)))) (hc : (cl z as h).isSome = true) : rn y pc L st h = rn y pc' L' (rv (cl z as h) ++ t) (rh (cl z as h)) := by
  obtain ⟨⟨v, h'⟩, hv⟩ := Option.isSome_iff_exists.mp hc
  rw [hv]
  show _ = rn y pc' L' (v.toList ++ t) h'
  obtain ⟨n1, hn1⟩ := rn_ex hv
  apply Option.ext
  intro r
  rw [rn_iff, rn_iff]
  constructor
  · rintro ⟨n, hr⟩
    obtain ⟨k, i', len', e, hf', hc'⟩ := x_r_some hr
    rw [hf] at hf'
    cases hf'
    rcases hc' with ⟨_, _, _, _, hs', -⟩ | ⟨hs', -⟩ | ⟨z', as', pc'', L'', t', v', h'', hs', hz, hk⟩
    · rw [hs] at hs'; cases hs'
    · rw [hs] at hs'; cases hs'
    · rw [hs] at hs'
      cases hs'
      have := x_r_det hz hn1
      cases this
      exact ⟨k, hk⟩
  · rintro ⟨n, hr⟩
    refine ⟨max n n1 + 1, ?_⟩
    rw [x_r_cl hf hs, x_r_mono hn1 (Nat.le_max_right n n1)]
    exact x_r_mono hr (Nat.le_max_left n n1)
