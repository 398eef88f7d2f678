/-! reading a memory, by rewriting -/
theorem rv_v (v : Value) (h : xH) : rv (some (some v, h)) = [v] := rfl
theorem rv_n (h : xH) : rv (some (none, h)) = [] := rfl
theorem rh_v (v : Option Value) (h : xH) : rh (some (v, h)) = h := rfl
theorem mu_at (m : xM) (a : Nat) (e : va_E) (q : Nat) : mu m a e q = if q = a then e else m q := rfl
theorem mu_mu (m : xM) (a : Nat) (e x : va_E) : mu (mu m a e) a x = mu m a x := by
  funext q
  simp only [mu_at]
  split <;> rfl
theorem isF_r (ci cj k : Nat) (fs : List Value) : isF (.inr (cj, fs)) ci k = (decide (cj = ci) && decide (k < fs.length)) := rfl
theorem isK_r (ci cj : Nat) (fs : List Value) : isK (.inr (cj, fs)) ci = decide (cj = ci) := rfl
theorem fld_r (cj k : Nat) (fs : List Value) : fld (.inr (cj, fs)) k = fs.getD k .null := rfl
theorem fset_r (cj k : Nat) (fs : List Value) (v : Value) : fset (.inr (cj, fs)) k v = .inr (cj, fs.set k v) := rfl
theorem gd0 (a : Value) (t : List Value) : (a :: t).getD 0 .null = a := rfl
theorem gd1 (a b : Value) (t : List Value) : (a :: b :: t).getD 1 .null = b := rfl
theorem gd2 (a b c : Value) (t : List Value) : (a :: b :: c :: t).getD 2 .null = c := rfl
theorem gd3 (a b c d : Value) (t : List Value) : (a :: b :: c :: d :: t).getD 3 .null = d := rfl
theorem gd4 (a b c d e : Value) (t : List Value) : (a :: b :: c :: d :: e :: t).getD 4 .null = e := rfl
theorem gd5 (a b c d e f : Value) (t : List Value) : (a :: b :: c :: d :: e :: f :: t).getD 5 .null = f := rfl
theorem gd6 (a b c d e f g : Value) (t : List Value) : (a :: b :: c :: d :: e :: f :: g :: t).getD 6 .null = g := rfl
theorem gd7 (a b c d e f g i : Value) (t : List Value) : (a :: b :: c :: d :: e :: f :: g :: i :: t).getD 7 .null = i := rfl
theorem gd8 (a b c d e f g i j : Value) (t : List Value) : (a :: b :: c :: d :: e :: f :: g :: i :: j :: t).getD 8 .null = j := rfl
theorem gd9 (a b c d e f g i j k : Value) (t : List Value) : (a :: b :: c :: d :: e :: f :: g :: i :: j :: k :: t).getD 9 .null = k := rfl
theorem gd10 (a b c d e f g i j k l : Value) (t : List Value) : (a :: b :: c :: d :: e :: f :: g :: i :: j :: k :: l :: t).getD 10 .null = l := rfl
theorem gd11 (a b c d e f g i j k l m : Value) (t : List Value) : (a :: b :: c :: d :: e :: f :: g :: i :: j :: k :: l :: m :: t).getD 11 .null = m := rfl
theorem gd12 (a b c d e f g i j k l m n : Value) (t : List Value) : (a :: b :: c :: d :: e :: f :: g :: i :: j :: k :: l :: m :: n :: t).getD 12 .null = n := rfl
theorem gd13 (a b c d e f g i j k l m n o : Value) (t : List Value) : (a :: b :: c :: d :: e :: f :: g :: i :: j :: k :: l :: m :: n :: o :: t).getD 13 .null = o := rfl
theorem inA_l (y n : Nat) (f : Nat → Int32) (i : Int32) : inA y (.inl (0, n, .inl f)) i = (decide (¬ i < 0) && decide (i.toNatClampNeg < n)) := by simp [inA]
theorem inW_l (n : Nat) (f : Nat → Int32) (i : Int32) : inW (.inl (0, n, .inl f)) i = (decide (¬ i < 0) && decide (i.toNatClampNeg < n)) := by simp [inW]
theorem inZ_l (n : Nat) (f : Nat → Int32) (i : Int32) : inZ (.inl (1, n, .inl f)) i = (decide (¬ i < 0) && decide (i.toNatClampNeg < n)) := by simp [inZ]
theorem inQ_l (n : Nat) (f : Nat → Option Nat) (i : Int32) : inQ (.inl (2, n, .inr (.inr (.inr (.inr f))))) i = (decide (¬ i < 0) && decide (i.toNatClampNeg < n)) := by simp [inQ]
theorem aget_l (t n : Nat) (f : Nat → Int32) (i : Int32) : aget (.inl (t, n, .inl f)) i = f i.toNatClampNeg := rfl
theorem aset_l (t n : Nat) (f : Nat → Int32) (i x : Int32) : aset (.inl (t, n, .inl f)) i x = .inl (t, n, .inl (upd f i.toNatClampNeg x)) := rfl
theorem qget_l (t n : Nat) (f : Nat → Option Nat) (i : Int32) : qget (.inl (t, n, .inr (.inr (.inr (.inr f))))) i = va_rf (f i.toNatClampNeg) := rfl
theorem qset_l (t n : Nat) (f : Nat → Option Nat) (i : Int32) (v : Nat) : qset (.inl (t, n, .inr (.inr (.inr (.inr f))))) i v = .inl (t, n, .inr (.inr (.inr (.inr (va_up f i.toNatClampNeg (some v)))))) := rfl
theorem isA_l (y n : Nat) (f : Nat → Int32) : isA y (.inl (0, n, .inl f)) = true := by simp [isA]
theorem isA_q (y n : Nat) (f : Nat → Option Nat) : isA y (.inl (2, n, .inr (.inr (.inr (.inr f))))) = true := by simp [isA]
theorem alen_l (t n : Nat) (x : (Nat → Int32) ⊕ (Nat → Int64) ⊕ (Nat → UInt32) ⊕ (Nat → UInt64) ⊕ (Nat → Option Nat)) : alen (.inl (t, n, x)) = n := rfl
theorem k2_i (x : Int32) : k2 (.int x) = .int x := rfl
theorem k2_a (x : Nat) : k2 (.ref x) = .ref x := rfl
theorem k2_n : k2 .null = .null := rfl
theorem k2_u : k2 unk = unk := rfl
theorem k2_l (x : Int64) : k2 (.long x) = unk := rfl
theorem i10 : ((1 : Int32) = 0) = False := by decide
theorem i01 : ((0 : Int32) = 1) = False := by decide
theorem ib10 : ((1 : Int32) == 0) = false := rfl
theorem ib01 : ((0 : Int32) == 1) = false := rfl
theorem ite_si {c : Prop} [Decidable c] (x y : Int32) (h : xH) : (if c then some (some (Value.int x), h) else some (some (Value.int y), h)) = some (some (Value.int (if c then x else y)), h) := by split <;> rfl
theorem ite_sv {c : Prop} [Decidable c] (v w : Value) (h : xH) : (if c then some (some v, h) else some (some w, h)) = some (some (if c then v else w), h) := by split <;> rfl
