abbrev Row : Type := Nat → Int32
abbrev AS : Type := Row × List Row × (Option Row × Option Row) × List Int32
def ln (r : Nat → Int32) (k : Nat) : Int32 := r (4 + k) + r (24 + k)
def lns (r : Nat → Int32) (i : Nat) : Nat → Int32
  | 0 => 0
  | n + 1 => lns r i n + ln r (i + n)
theorem lns_front (r : Nat → Int32) (i : Nat) : ∀ n, lns r i (n + 1) = ln r i + lns r (i + 1) n
  | 0 => by simp [lns]
  | n + 1 => by
    rw [lns, lns_front r i n, lns, Int32.add_assoc, show i + 1 + n = i + (n + 1) by omega]
def mB (r : Nat → Int32) (k : Nat) : Int32 := lo (r 44 + lns r 0 k) (r 0)
def mA (r : Nat → Int32) (S k : Nat) : Int32 := lo (r 49 - lns r k (S - k)) (r 0)
def mP (r : Nat → Int32) (S k : Nat) : Int32 := if nI k < r 45 then mB r k else if nI k < r 3 - r 50 then -6 else mA r S k
def mD (r : Nat → Int32) (x y : Int32) : Int32 := if lo (x - y) (r 0) < r 0 - lo (x - y) (r 0) then lo (x - y) (r 0) else r 0 - lo (x - y) (r 0)
theorem upd_s (r : Nat → Int32) (i : Nat) (x : Int32) : upd r i x i = x := by simp [upd]
theorem upd_n (r : Nat → Int32) {i j : Nat} (x : Int32) (h : j ≠ i) : upd r i x j = r j := by simp [upd, h]
theorem upd_at (r : Nat → Int32) (i j : Nat) (x : Int32) : upd r i x j = if j = i then x else r j := rfl
def cN0 (r : Nat → Int32) (k : Nat) : Int32 := lo (mB r k - (r 1 - r 46)) (r 0)
def cR0 (r : Nat → Int32) (k : Nat) : Int32 := lo (mB r k - (r 1 - r 1)) (r 0)
def cN1 (r : Nat → Int32) (S k : Nat) : Int32 := lo (r 51 - mA r S k - ln r k) (r 0)
def cR1 (r : Nat → Int32) (S k : Nat) : Int32 := lo (r 1 - mA r S k - ln r k) (r 0)
def lay0 (r : Nat → Int32) (k : Nat) : Option (Nat → Int32) :=
  if r 47 = 0 ∨ r 46 < cN0 r k + ln r k then (if r 1 < cR0 r k + ln r k then none else some (upd (upd (upd (upd r 47 (r 47 + 1)) 46 (r 1 - cR0 r k - ln r k)) 48 (r 48 + (r 46 + cR0 r k))) 45 (r 45 + 1)))
  else some (upd (upd (upd r 46 (r 46 - cN0 r k - ln r k)) 48 (r 48 + cN0 r k)) 45 (r 45 + 1))
def lay1 (r : Nat → Int32) (S k : Nat) : Option (Nat → Int32) :=
  if r 52 = 0 ∨ r 51 < cN1 r S k + ln r k then (if r 1 < cR1 r S k + ln r k then none else some (upd (upd (upd (upd r 52 (r 52 + 1)) 51 (r 1 - cR1 r S k - ln r k)) 53 (r 53 + (r 51 + cR1 r S k))) 50 (r 50 + 1)))
  else some (upd (upd (upd r 51 (r 51 - cN1 r S k - ln r k)) 53 (r 53 + cN1 r S k)) 50 (r 50 + 1))
def oI (o : Option (Nat → Int32)) : Int32 := match o with | some _ => 1 | none => 0
def clr (r : Nat → Int32) : Nat → Int32 := upd (upd (upd (upd (upd (upd (upd (upd r 45 0) 46 0) 47 0) 48 0) 50 0) 51 0) 52 0) 53 0
def pushH (L : List (Nat → Int32)) (r : Nat → Int32) : List (Nat → Int32) := if L.length = 6 then L.tail ++ [r] else L ++ [r]
def chg (σ : AS) (o : Option Row) : AS := match o with | none => σ | some r' => (r', pushH σ.2.1 σ.1, σ.2.2)
def msv (s v : Int32) : Int32 := if s = 0 then bw v 2 60 else if s = 1 then bw v 20 400 else if s = 2 then if bw v 0 9 = 0 then 0 else 1 else 0
def RI (k : Nat) (r : Row) : Prop := ∃ S u0 u1 p0 p1 R O b0 b1 l0 l1 sl : Nat,
  (r 3 = nI S ∧ r 45 = nI u0 ∧ r 50 = nI u1 ∧ r 47 = nI p0 ∧ r 52 = nI p1 ∧ r 0 = nI R ∧ r 1 = nI O ∧ r 44 = nI b0 ∧ r 49 = nI b1 ∧ r 46 = nI l0 ∧ r 51 = nI l1 ∧ r 2 = nI sl) ∧
  (S ≤ 20 ∧ u0 + u1 ≤ S ∧ p0 ≤ k ∧ p1 ≤ k ∧ 2 ≤ R ∧ R ≤ 60 ∧ 20 ≤ O ∧ O ≤ 400 ∧ b0 < R ∧ b1 < R ∧ l0 ≤ O ∧ l1 ≤ O ∧ sl ≤ 9 ∧ (p0 = 0 → l0 = 0) ∧ (p1 = 0 → l1 = 0)) ∧
  ∀ j, j < S → ∃ x y : Nat, r (4 + j) = nI x ∧ r (24 + j) = nI y ∧ 10 ≤ x ∧ x ≤ 25 ∧ 15 ≤ y ∧ y ≤ 40
theorem bw01 {c : Int32} (h : ¬ bw c 0 1 = 0) : c = 0 ∨ c = 1 := by
  unfold bw at h
  have a1 : ¬ c < 0 := fun q => by rw [if_pos q] at h; exact h rfl
  rw [if_neg a1] at h
  have a2 : ¬ 1 < c := fun q => by rw [if_pos q] at h; exact h rfl
  rw [Int32.lt_iff_toInt_lt] at a1 a2
  rw [Int32.toInt_zero] at a1
  have a2 : ¬ (1 : Int) < c.toInt := a2
  rcases (show c.toInt = 0 ∨ c.toInt = 1 by omega) with q | q
  · exact Or.inl (Int32.toInt_inj.mp q)
  · exact Or.inr (Int32.toInt_inj.mp q)
theorem nI_n6 {k : Nat} (hk : k < 1000) : ¬ nI k = -6 := by
  intro q
  have := congrArg Int32.toInt q
  rw [nI_toInt (by omega)] at this
  have e : (-6 : Int32).toInt = -6 := by decide
  omega
theorem nI_p {k : Nat} (hk : k < 2 ^ 31) : 0 < nI k ↔ ¬ nI k = 0 := by
  constructor
  · intro h q; rw [q] at h; exact absurd h (by decide)
  · intro h
    have : ¬ k = 0 := fun q => h (by rw [q]; rfl)
    exact nI_lt (a := 0) (by omega) hk
theorem nI_0lt {k : Nat} (h : 0 < k) (hk : k < 2 ^ 31) : 0 < nI k := nI_lt (a := 0) h hk
def bld (r : Row) (S : Nat) (x y : Int32) : Row := upd (upd (upd r (4 + S) x) (24 + S) y) 3 (nI (S + 1))
def tk0 (r : Row) (k : Nat) : Row := upd (upd r 45 (r 45 - 1)) 48 (r 48 + ln r k)
def tk1 (r : Row) (k : Nat) : Row := upd (upd r 50 (r 50 - 1)) 53 (r 53 + ln r k)
theorem z0_1 : ((0 : Int32) = 1) = False := by decide
theorem z0_2 : ((0 : Int32) = 2) = False := by decide
theorem z0_3 : ((0 : Int32) = 3) = False := by decide
theorem z0_4 : ((0 : Int32) = 4) = False := by decide
theorem z0_5 : ((0 : Int32) = 5) = False := by decide
theorem z0_6 : ((0 : Int32) = 6) = False := by decide
theorem z0_7 : ((0 : Int32) = 7) = False := by decide
theorem z0_8 : ((0 : Int32) = 8) = False := by decide
theorem z0_9 : ((0 : Int32) = 9) = False := by decide
theorem z0_10 : ((0 : Int32) = 10) = False := by decide
theorem z0_11 : ((0 : Int32) = 11) = False := by decide
theorem z0_12 : ((0 : Int32) = 12) = False := by decide
theorem z0_13 : ((0 : Int32) = 13) = False := by decide
theorem z0_14 : ((0 : Int32) = 14) = False := by decide
theorem z0_15 : ((0 : Int32) = 15) = False := by decide
theorem z0_16 : ((0 : Int32) = 16) = False := by decide
theorem z1_0 : ((1 : Int32) = 0) = False := by decide
theorem z1_2 : ((1 : Int32) = 2) = False := by decide
theorem z1_3 : ((1 : Int32) = 3) = False := by decide
theorem z1_4 : ((1 : Int32) = 4) = False := by decide
theorem z1_5 : ((1 : Int32) = 5) = False := by decide
theorem z1_6 : ((1 : Int32) = 6) = False := by decide
theorem z1_7 : ((1 : Int32) = 7) = False := by decide
theorem z1_8 : ((1 : Int32) = 8) = False := by decide
theorem z1_9 : ((1 : Int32) = 9) = False := by decide
theorem z1_10 : ((1 : Int32) = 10) = False := by decide
theorem z1_11 : ((1 : Int32) = 11) = False := by decide
theorem z1_12 : ((1 : Int32) = 12) = False := by decide
theorem z1_13 : ((1 : Int32) = 13) = False := by decide
theorem z1_14 : ((1 : Int32) = 14) = False := by decide
theorem z1_15 : ((1 : Int32) = 15) = False := by decide
theorem z1_16 : ((1 : Int32) = 16) = False := by decide
theorem z2_0 : ((2 : Int32) = 0) = False := by decide
theorem z2_1 : ((2 : Int32) = 1) = False := by decide
theorem z2_3 : ((2 : Int32) = 3) = False := by decide
theorem z2_4 : ((2 : Int32) = 4) = False := by decide
theorem z2_5 : ((2 : Int32) = 5) = False := by decide
theorem z2_6 : ((2 : Int32) = 6) = False := by decide
theorem z2_7 : ((2 : Int32) = 7) = False := by decide
theorem z2_8 : ((2 : Int32) = 8) = False := by decide
theorem z2_9 : ((2 : Int32) = 9) = False := by decide
theorem z2_10 : ((2 : Int32) = 10) = False := by decide
theorem z2_11 : ((2 : Int32) = 11) = False := by decide
theorem z2_12 : ((2 : Int32) = 12) = False := by decide
theorem z2_13 : ((2 : Int32) = 13) = False := by decide
theorem z2_14 : ((2 : Int32) = 14) = False := by decide
theorem z2_15 : ((2 : Int32) = 15) = False := by decide
theorem z2_16 : ((2 : Int32) = 16) = False := by decide
theorem z3_0 : ((3 : Int32) = 0) = False := by decide
theorem z3_1 : ((3 : Int32) = 1) = False := by decide
theorem z3_2 : ((3 : Int32) = 2) = False := by decide
theorem z3_4 : ((3 : Int32) = 4) = False := by decide
theorem z3_5 : ((3 : Int32) = 5) = False := by decide
theorem z3_6 : ((3 : Int32) = 6) = False := by decide
theorem z3_7 : ((3 : Int32) = 7) = False := by decide
theorem z3_8 : ((3 : Int32) = 8) = False := by decide
theorem z3_9 : ((3 : Int32) = 9) = False := by decide
theorem z3_10 : ((3 : Int32) = 10) = False := by decide
theorem z3_11 : ((3 : Int32) = 11) = False := by decide
theorem z3_12 : ((3 : Int32) = 12) = False := by decide
theorem z3_13 : ((3 : Int32) = 13) = False := by decide
theorem z3_14 : ((3 : Int32) = 14) = False := by decide
theorem z3_15 : ((3 : Int32) = 15) = False := by decide
theorem z3_16 : ((3 : Int32) = 16) = False := by decide
theorem z4_0 : ((4 : Int32) = 0) = False := by decide
theorem z4_1 : ((4 : Int32) = 1) = False := by decide
theorem z4_2 : ((4 : Int32) = 2) = False := by decide
theorem z4_3 : ((4 : Int32) = 3) = False := by decide
theorem z4_5 : ((4 : Int32) = 5) = False := by decide
theorem z4_6 : ((4 : Int32) = 6) = False := by decide
theorem z4_7 : ((4 : Int32) = 7) = False := by decide
theorem z4_8 : ((4 : Int32) = 8) = False := by decide
theorem z4_9 : ((4 : Int32) = 9) = False := by decide
theorem z4_10 : ((4 : Int32) = 10) = False := by decide
theorem z4_11 : ((4 : Int32) = 11) = False := by decide
theorem z4_12 : ((4 : Int32) = 12) = False := by decide
theorem z4_13 : ((4 : Int32) = 13) = False := by decide
theorem z4_14 : ((4 : Int32) = 14) = False := by decide
theorem z4_15 : ((4 : Int32) = 15) = False := by decide
theorem z4_16 : ((4 : Int32) = 16) = False := by decide
theorem z5_0 : ((5 : Int32) = 0) = False := by decide
theorem z5_1 : ((5 : Int32) = 1) = False := by decide
theorem z5_2 : ((5 : Int32) = 2) = False := by decide
theorem z5_3 : ((5 : Int32) = 3) = False := by decide
theorem z5_4 : ((5 : Int32) = 4) = False := by decide
theorem z5_6 : ((5 : Int32) = 6) = False := by decide
theorem z5_7 : ((5 : Int32) = 7) = False := by decide
theorem z5_8 : ((5 : Int32) = 8) = False := by decide
theorem z5_9 : ((5 : Int32) = 9) = False := by decide
theorem z5_10 : ((5 : Int32) = 10) = False := by decide
theorem z5_11 : ((5 : Int32) = 11) = False := by decide
theorem z5_12 : ((5 : Int32) = 12) = False := by decide
theorem z5_13 : ((5 : Int32) = 13) = False := by decide
theorem z5_14 : ((5 : Int32) = 14) = False := by decide
theorem z5_15 : ((5 : Int32) = 15) = False := by decide
theorem z5_16 : ((5 : Int32) = 16) = False := by decide
theorem z6_0 : ((6 : Int32) = 0) = False := by decide
theorem z6_1 : ((6 : Int32) = 1) = False := by decide
theorem z6_2 : ((6 : Int32) = 2) = False := by decide
theorem z6_3 : ((6 : Int32) = 3) = False := by decide
theorem z6_4 : ((6 : Int32) = 4) = False := by decide
theorem z6_5 : ((6 : Int32) = 5) = False := by decide
theorem z6_7 : ((6 : Int32) = 7) = False := by decide
theorem z6_8 : ((6 : Int32) = 8) = False := by decide
theorem z6_9 : ((6 : Int32) = 9) = False := by decide
theorem z6_10 : ((6 : Int32) = 10) = False := by decide
theorem z6_11 : ((6 : Int32) = 11) = False := by decide
theorem z6_12 : ((6 : Int32) = 12) = False := by decide
theorem z6_13 : ((6 : Int32) = 13) = False := by decide
theorem z6_14 : ((6 : Int32) = 14) = False := by decide
theorem z6_15 : ((6 : Int32) = 15) = False := by decide
theorem z6_16 : ((6 : Int32) = 16) = False := by decide
theorem z7_0 : ((7 : Int32) = 0) = False := by decide
theorem z7_1 : ((7 : Int32) = 1) = False := by decide
theorem z7_2 : ((7 : Int32) = 2) = False := by decide
theorem z7_3 : ((7 : Int32) = 3) = False := by decide
theorem z7_4 : ((7 : Int32) = 4) = False := by decide
theorem z7_5 : ((7 : Int32) = 5) = False := by decide
theorem z7_6 : ((7 : Int32) = 6) = False := by decide
theorem z7_8 : ((7 : Int32) = 8) = False := by decide
theorem z7_9 : ((7 : Int32) = 9) = False := by decide
theorem z7_10 : ((7 : Int32) = 10) = False := by decide
theorem z7_11 : ((7 : Int32) = 11) = False := by decide
theorem z7_12 : ((7 : Int32) = 12) = False := by decide
theorem z7_13 : ((7 : Int32) = 13) = False := by decide
theorem z7_14 : ((7 : Int32) = 14) = False := by decide
theorem z7_15 : ((7 : Int32) = 15) = False := by decide
theorem z7_16 : ((7 : Int32) = 16) = False := by decide
theorem z8_0 : ((8 : Int32) = 0) = False := by decide
theorem z8_1 : ((8 : Int32) = 1) = False := by decide
theorem z8_2 : ((8 : Int32) = 2) = False := by decide
theorem z8_3 : ((8 : Int32) = 3) = False := by decide
theorem z8_4 : ((8 : Int32) = 4) = False := by decide
theorem z8_5 : ((8 : Int32) = 5) = False := by decide
theorem z8_6 : ((8 : Int32) = 6) = False := by decide
theorem z8_7 : ((8 : Int32) = 7) = False := by decide
theorem z8_9 : ((8 : Int32) = 9) = False := by decide
theorem z8_10 : ((8 : Int32) = 10) = False := by decide
theorem z8_11 : ((8 : Int32) = 11) = False := by decide
theorem z8_12 : ((8 : Int32) = 12) = False := by decide
theorem z8_13 : ((8 : Int32) = 13) = False := by decide
theorem z8_14 : ((8 : Int32) = 14) = False := by decide
theorem z8_15 : ((8 : Int32) = 15) = False := by decide
theorem z8_16 : ((8 : Int32) = 16) = False := by decide
theorem z9_0 : ((9 : Int32) = 0) = False := by decide
theorem z9_1 : ((9 : Int32) = 1) = False := by decide
theorem z9_2 : ((9 : Int32) = 2) = False := by decide
theorem z9_3 : ((9 : Int32) = 3) = False := by decide
theorem z9_4 : ((9 : Int32) = 4) = False := by decide
theorem z9_5 : ((9 : Int32) = 5) = False := by decide
theorem z9_6 : ((9 : Int32) = 6) = False := by decide
theorem z9_7 : ((9 : Int32) = 7) = False := by decide
theorem z9_8 : ((9 : Int32) = 8) = False := by decide
theorem z9_10 : ((9 : Int32) = 10) = False := by decide
theorem z9_11 : ((9 : Int32) = 11) = False := by decide
theorem z9_12 : ((9 : Int32) = 12) = False := by decide
theorem z9_13 : ((9 : Int32) = 13) = False := by decide
theorem z9_14 : ((9 : Int32) = 14) = False := by decide
theorem z9_15 : ((9 : Int32) = 15) = False := by decide
theorem z9_16 : ((9 : Int32) = 16) = False := by decide
theorem z10_0 : ((10 : Int32) = 0) = False := by decide
theorem z10_1 : ((10 : Int32) = 1) = False := by decide
theorem z10_2 : ((10 : Int32) = 2) = False := by decide
theorem z10_3 : ((10 : Int32) = 3) = False := by decide
theorem z10_4 : ((10 : Int32) = 4) = False := by decide
theorem z10_5 : ((10 : Int32) = 5) = False := by decide
theorem z10_6 : ((10 : Int32) = 6) = False := by decide
theorem z10_7 : ((10 : Int32) = 7) = False := by decide
theorem z10_8 : ((10 : Int32) = 8) = False := by decide
theorem z10_9 : ((10 : Int32) = 9) = False := by decide
theorem z10_11 : ((10 : Int32) = 11) = False := by decide
theorem z10_12 : ((10 : Int32) = 12) = False := by decide
theorem z10_13 : ((10 : Int32) = 13) = False := by decide
theorem z10_14 : ((10 : Int32) = 14) = False := by decide
theorem z10_15 : ((10 : Int32) = 15) = False := by decide
theorem z10_16 : ((10 : Int32) = 16) = False := by decide
theorem z11_0 : ((11 : Int32) = 0) = False := by decide
theorem z11_1 : ((11 : Int32) = 1) = False := by decide
theorem z11_2 : ((11 : Int32) = 2) = False := by decide
theorem z11_3 : ((11 : Int32) = 3) = False := by decide
theorem z11_4 : ((11 : Int32) = 4) = False := by decide
theorem z11_5 : ((11 : Int32) = 5) = False := by decide
theorem z11_6 : ((11 : Int32) = 6) = False := by decide
theorem z11_7 : ((11 : Int32) = 7) = False := by decide
theorem z11_8 : ((11 : Int32) = 8) = False := by decide
theorem z11_9 : ((11 : Int32) = 9) = False := by decide
theorem z11_10 : ((11 : Int32) = 10) = False := by decide
theorem z11_12 : ((11 : Int32) = 12) = False := by decide
theorem z11_13 : ((11 : Int32) = 13) = False := by decide
theorem z11_14 : ((11 : Int32) = 14) = False := by decide
theorem z11_15 : ((11 : Int32) = 15) = False := by decide
theorem z11_16 : ((11 : Int32) = 16) = False := by decide
theorem z12_0 : ((12 : Int32) = 0) = False := by decide
theorem z12_1 : ((12 : Int32) = 1) = False := by decide
theorem z12_2 : ((12 : Int32) = 2) = False := by decide
theorem z12_3 : ((12 : Int32) = 3) = False := by decide
theorem z12_4 : ((12 : Int32) = 4) = False := by decide
theorem z12_5 : ((12 : Int32) = 5) = False := by decide
theorem z12_6 : ((12 : Int32) = 6) = False := by decide
theorem z12_7 : ((12 : Int32) = 7) = False := by decide
theorem z12_8 : ((12 : Int32) = 8) = False := by decide
theorem z12_9 : ((12 : Int32) = 9) = False := by decide
theorem z12_10 : ((12 : Int32) = 10) = False := by decide
theorem z12_11 : ((12 : Int32) = 11) = False := by decide
theorem z12_13 : ((12 : Int32) = 13) = False := by decide
theorem z12_14 : ((12 : Int32) = 14) = False := by decide
theorem z12_15 : ((12 : Int32) = 15) = False := by decide
theorem z12_16 : ((12 : Int32) = 16) = False := by decide
theorem z13_0 : ((13 : Int32) = 0) = False := by decide
theorem z13_1 : ((13 : Int32) = 1) = False := by decide
theorem z13_2 : ((13 : Int32) = 2) = False := by decide
theorem z13_3 : ((13 : Int32) = 3) = False := by decide
theorem z13_4 : ((13 : Int32) = 4) = False := by decide
theorem z13_5 : ((13 : Int32) = 5) = False := by decide
theorem z13_6 : ((13 : Int32) = 6) = False := by decide
theorem z13_7 : ((13 : Int32) = 7) = False := by decide
theorem z13_8 : ((13 : Int32) = 8) = False := by decide
theorem z13_9 : ((13 : Int32) = 9) = False := by decide
theorem z13_10 : ((13 : Int32) = 10) = False := by decide
theorem z13_11 : ((13 : Int32) = 11) = False := by decide
theorem z13_12 : ((13 : Int32) = 12) = False := by decide
theorem z13_14 : ((13 : Int32) = 14) = False := by decide
theorem z13_15 : ((13 : Int32) = 15) = False := by decide
theorem z13_16 : ((13 : Int32) = 16) = False := by decide
theorem z14_0 : ((14 : Int32) = 0) = False := by decide
theorem z14_1 : ((14 : Int32) = 1) = False := by decide
theorem z14_2 : ((14 : Int32) = 2) = False := by decide
theorem z14_3 : ((14 : Int32) = 3) = False := by decide
theorem z14_4 : ((14 : Int32) = 4) = False := by decide
theorem z14_5 : ((14 : Int32) = 5) = False := by decide
theorem z14_6 : ((14 : Int32) = 6) = False := by decide
theorem z14_7 : ((14 : Int32) = 7) = False := by decide
theorem z14_8 : ((14 : Int32) = 8) = False := by decide
theorem z14_9 : ((14 : Int32) = 9) = False := by decide
theorem z14_10 : ((14 : Int32) = 10) = False := by decide
theorem z14_11 : ((14 : Int32) = 11) = False := by decide
theorem z14_12 : ((14 : Int32) = 12) = False := by decide
theorem z14_13 : ((14 : Int32) = 13) = False := by decide
theorem z14_15 : ((14 : Int32) = 15) = False := by decide
theorem z14_16 : ((14 : Int32) = 16) = False := by decide
theorem z15_0 : ((15 : Int32) = 0) = False := by decide
theorem z15_1 : ((15 : Int32) = 1) = False := by decide
theorem z15_2 : ((15 : Int32) = 2) = False := by decide
theorem z15_3 : ((15 : Int32) = 3) = False := by decide
theorem z15_4 : ((15 : Int32) = 4) = False := by decide
theorem z15_5 : ((15 : Int32) = 5) = False := by decide
theorem z15_6 : ((15 : Int32) = 6) = False := by decide
theorem z15_7 : ((15 : Int32) = 7) = False := by decide
theorem z15_8 : ((15 : Int32) = 8) = False := by decide
theorem z15_9 : ((15 : Int32) = 9) = False := by decide
theorem z15_10 : ((15 : Int32) = 10) = False := by decide
theorem z15_11 : ((15 : Int32) = 11) = False := by decide
theorem z15_12 : ((15 : Int32) = 12) = False := by decide
theorem z15_13 : ((15 : Int32) = 13) = False := by decide
theorem z15_14 : ((15 : Int32) = 14) = False := by decide
theorem z15_16 : ((15 : Int32) = 16) = False := by decide
theorem z16_0 : ((16 : Int32) = 0) = False := by decide
theorem z16_1 : ((16 : Int32) = 1) = False := by decide
theorem z16_2 : ((16 : Int32) = 2) = False := by decide
theorem z16_3 : ((16 : Int32) = 3) = False := by decide
theorem z16_4 : ((16 : Int32) = 4) = False := by decide
theorem z16_5 : ((16 : Int32) = 5) = False := by decide
theorem z16_6 : ((16 : Int32) = 6) = False := by decide
theorem z16_7 : ((16 : Int32) = 7) = False := by decide
theorem z16_8 : ((16 : Int32) = 8) = False := by decide
theorem z16_9 : ((16 : Int32) = 9) = False := by decide
theorem z16_10 : ((16 : Int32) = 10) = False := by decide
theorem z16_11 : ((16 : Int32) = 11) = False := by decide
theorem z16_12 : ((16 : Int32) = 12) = False := by decide
theorem z16_13 : ((16 : Int32) = 13) = False := by decide
theorem z16_14 : ((16 : Int32) = 14) = False := by decide
theorem z16_15 : ((16 : Int32) = 15) = False := by decide
theorem bwN {v : Int32} {a c : Nat} (h : ¬ bw v (nI a) (nI c) = 0) (ha : a < 2 ^ 31) (hc : c < 2 ^ 31) : ∃ n, v = nI n ∧ a ≤ n ∧ n ≤ c := by
  unfold bw at h
  have a1 : ¬ v < nI a := fun q => by rw [if_pos q] at h; exact h rfl
  rw [if_neg a1] at h
  have a2 : ¬ nI c < v := fun q => by rw [if_pos q] at h; exact h rfl
  rw [Int32.lt_iff_toInt_lt, nI_toInt ha] at a1
  rw [Int32.lt_iff_toInt_lt, nI_toInt hc] at a2
  refine ⟨v.toInt.toNat, ?_, by omega, by omega⟩
  apply Int32.toInt_inj.mp
  rw [nI_toInt (by omega)]
  omega
theorem bwY {a c n : Nat} (h1 : a ≤ n) (h2 : n ≤ c) (hc : c < 2 ^ 31) : bw (nI n) (nI a) (nI c) = 1 := by
  unfold bw
  rw [if_neg (nI_nlt h1 (by omega)), if_neg (nI_nlt h2 hc)]
def rStep (r : Row) (S k : Nat) : Nat → Int32
  | 0 => r (4 + k)
  | 1 => r (24 + k)
  | 2 => ln r k
  | 3 => lns r 0 k
  | 4 => if nI k < r 45 then 0 else if nI k < r 3 - r 50 then -6 else 1
  | 5 => mP r S k
  | 6 => if mP r S k = -6 then -6 else lo (mP r S k + ln r k) (r 0)
  | _ => if mP r S k = -6 then -6 else if mP r S k = 0 then (mP r S k + ln r k - 1) / r 0 + 1 else (mP r S k + ln r k - 1) / r 0 + 0
def rCrew (r : Row) (c : Nat) : Nat → Int32
  | 0 => r (44 + 5 * c)
  | 1 => r (45 + 5 * c)
  | 2 => r (46 + 5 * c)
  | 3 => r (47 + 5 * c)
  | 4 => if 0 < r (47 + 5 * c) then r (47 + 5 * c) - 1 else 0
  | 5 => r (48 + 5 * c)
  | _ => if r 45 + r 50 = r 3 then -6 else if c = 0 then r 45 else r 3 - 1 - r 50
def rCnt (r : Row) (S u0 u1 : Nat) : Nat → Int32
  | 0 => r 0
  | 1 => r 1
  | 2 => r 2
  | 3 => r 3
  | 4 => r 45 + r 50
  | 5 => lns r 0 S
  | 6 => lns r 0 u0 + lns r (S - u1) u1
  | 7 => r 1 * (r 47 + r 52)
  | 8 => r 48 + r 53
  | 9 => r 46 + r 51
  | 10 => (if 0 < r 47 then r 47 - 1 else 0) + (if 0 < r 52 then r 52 - 1 else 0)
  | 11 => r 45 + r 50
  | 12 => if r 45 + r 50 = r 3 then if 0 < r 45 then if 0 < r 50 then r 45 else -6 else -6 else -6
  | 13 => if r 45 + r 50 = r 3 then if 0 < r 45 then if 0 < r 50 then mD r (mB r u0) (mA r S u0) else -6 else -6 else -6
  | _ => if r 45 + r 50 = r 3 then if 0 < r 45 then if 0 < r 50 then (if r 2 < mD r (mB r u0) (mA r S u0) then 0 else 1) else -6 else -6 else -6
def REq (x y : Row) : Prop := ∀ k, k < 54 → x k = y k
theorem lay0_keep {r r' : Row} {k : Nat} (h : lay0 r k = some r') {j : Nat} (hj : j < 45 ∨ 48 < j) : r' j = r j := by
  unfold lay0 at h
  split at h
  · split at h
    · cases h
    · cases h; rw [upd_n _ _ (by omega), upd_n _ _ (by omega), upd_n _ _ (by omega), upd_n _ _ (by omega)]
  · cases h; rw [upd_n _ _ (by omega), upd_n _ _ (by omega), upd_n _ _ (by omega)]
theorem lay1_keep {r r' : Row} {S k : Nat} (h : lay1 r S k = some r') {j : Nat} (hj : j < 50 ∨ 53 < j) : r' j = r j := by
  unfold lay1 at h
  split at h
  · split at h
    · cases h
    · cases h; rw [upd_n _ _ (by omega), upd_n _ _ (by omega), upd_n _ _ (by omega), upd_n _ _ (by omega)]
  · cases h; rw [upd_n _ _ (by omega), upd_n _ _ (by omega), upd_n _ _ (by omega)]
theorem clr_keep (r : Row) {j : Nat} (hj : j < 45 ∨ j = 49 ∨ 53 < j) : clr r j = r j := by
  unfold clr
  rw [upd_n _ _ (by omega), upd_n _ _ (by omega), upd_n _ _ (by omega), upd_n _ _ (by omega), upd_n _ _ (by omega), upd_n _ _ (by omega), upd_n _ _ (by omega), upd_n _ _ (by omega)]
def lA (r : Row) (k : Nat) : Nat → Row × Int32
  | 0 => (r, 1)
  | n + 1 => match lay0 r k with | some r' => lA r' (k + 1) n | none => (r, 0)
def lB (S : Nat) (r : Row) (t : Nat) : Nat → Row × Int32
  | 0 => (r, 1)
  | n + 1 => match lay1 r S (t + n) with | some r' => lB S r' t n | none => (r, 0)
theorem lA_keep : ∀ (n : Nat) (r : Row) (k j : Nat), (j < 45 ∨ 48 < j) → (lA r k n).1 j = r j
  | 0, _, _, _, _ => rfl
  | n + 1, r, k, j, hj => by
    unfold lA
    split
    next r' h => rw [lA_keep n r' _ j hj, lay0_keep h hj]
    next => rfl
theorem lB_keep (S t : Nat) : ∀ (n : Nat) (r : Row) (j : Nat), (j < 50 ∨ 53 < j) → (lB S r t n).1 j = r j
  | 0, _, _, _ => rfl
  | n + 1, r, j, hj => by
    unfold lB
    split
    next r' h => rw [lB_keep S t n r' j hj, lay1_keep h hj]
    next => rfl
def lAB (r : Row) (S t : Nat) : Row × Int32 := if (lA (clr r) 0 t).2 = 0 then ((lA (clr r) 0 t).1, 0) else lB S (lA (clr r) 0 t).1 t (S - t)
def tv (r : Row) (S t : Nat) : Int32 := if (lAB r S t).2 = 0 then -6 else (lAB r S t).1 48 + (lAB r S t).1 53
theorem lAB_0 {r : Row} {S t : Nat} (h : (lA (clr r) 0 t).2 = 0) : lAB r S t = ((lA (clr r) 0 t).1, 0) := by
  unfold lAB
  rw [if_pos h]
theorem lAB_1 {r : Row} {S t : Nat} (h : ¬ (lA (clr r) 0 t).2 = 0) : lAB r S t = lB S (lA (clr r) 0 t).1 t (S - t) := by
  unfold lAB
  rw [if_neg h]
def lt (f : Nat → Int32) (best least : Int32) (k : Nat) : Nat → Int32
  | 0 => best
  | n + 1 => if f k = -6 then lt f best least (k + 1) n else if best = -6 then lt f (nI k) (f k) (k + 1) n else if f k < least then lt f (nI k) (f k) (k + 1) n else lt f best least (k + 1) n
def PA (pf : Nat → Int32) (L : List Int32) : Prop := ∀ (j : Nat) (x : Int32), L[j]? = some x → pf j = x
