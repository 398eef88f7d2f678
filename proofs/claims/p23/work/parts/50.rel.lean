/-- a house and a row tell the same -/
def pl (i : Nat) : Nat := if i < 4 then i else i + 40
def RR (S : Nat) (q ri tr ft : Nat → Int32) (r : Row) : Prop := S ≤ 20 ∧ r 3 = nI S ∧ (∀ i, i < 14 → q i = r (pl i)) ∧ (∀ k, k < S → ri k = r (4 + k) ∧ tr k = r (24 + k)) ∧ (∀ k, k ≤ S → ft k = lns r 0 k)
theorem na_nI {n k : Nat} {f : Nat → Int32} (hk : k < n) (hn : n < 2 ^ 31) : na n f (nI k) = f k := by
  unfold na
  rw [if_neg (nI_pos (by omega)), if_pos (show nI k < Int32.ofNat n from nI_lt hk hn), nI_clamp (by omega)]
theorem lns_cg {r r' : Row} : ∀ (n i : Nat), (∀ k, i ≤ k → k < i + n → ln r k = ln r' k) → lns r i n = lns r' i n
  | 0, _, _ => rfl
  | n + 1, i, h => by
    unfold lns
    rw [lns_cg n i (fun k h1 h2 => h k h1 (by omega)), h (i + n) (by omega) (by omega)]
theorem lns_app (r : Row) (i m : Nat) : ∀ n, lns r i (m + n) = lns r i m + lns r (i + m) n
  | 0 => by rw [Nat.add_zero, lns, Int32.add_zero]
  | n + 1 => by
    rw [← Nat.add_assoc, lns, lns_app r i m n, lns, Int32.add_assoc, Nat.add_assoc i m n]
theorem ln_cg {r r' : Row} (h : REq r r') {k : Nat} (hk : k < 20) : ln r k = ln r' k := by
  unfold ln
  rw [h _ (by omega), h _ (by omega)]
theorem pl_lt {i : Nat} (h : i < 14) : pl i < 54 := by unfold pl; split <;> omega
theorem RR.cg {S : Nat} {q ri tr ft : Nat → Int32} {r r' : Row} (h : RR S q ri tr ft r) (e : REq r r') : RR S q ri tr ft r' := by
  obtain ⟨h1, h2, h3, h4, h5⟩ := h
  refine ⟨h1, by rw [← e 3 (by omega)]; exact h2, fun i hi => by rw [← e _ (pl_lt hi)]; exact h3 i hi, fun k hk => by rw [← e _ (by omega), ← e _ (by omega)]; exact h4 k hk, fun k hk => ?_⟩
  rw [h5 k hk]
  exact lns_cg k 0 (fun j h1 h2 => ln_cg e (by omega))
section
variable {S : Nat} {q ri tr ft : Nat → Int32} {r : Row}
theorem RR.i0 (h : RR S q ri tr ft r) : q 0 = r 0 := h.2.2.1 0 (by decide)
theorem RR.i1 (h : RR S q ri tr ft r) : q 1 = r 1 := h.2.2.1 1 (by decide)
theorem RR.i2 (h : RR S q ri tr ft r) : q 2 = r 2 := h.2.2.1 2 (by decide)
theorem RR.i3 (h : RR S q ri tr ft r) : q 3 = nI S := (h.2.2.1 3 (by decide)).trans h.2.1
theorem RR.i4 (h : RR S q ri tr ft r) : q 4 = r 44 := h.2.2.1 4 (by decide)
theorem RR.i5 (h : RR S q ri tr ft r) : q 5 = r 45 := h.2.2.1 5 (by decide)
theorem RR.i6 (h : RR S q ri tr ft r) : q 6 = r 46 := h.2.2.1 6 (by decide)
theorem RR.i7 (h : RR S q ri tr ft r) : q 7 = r 47 := h.2.2.1 7 (by decide)
theorem RR.i8 (h : RR S q ri tr ft r) : q 8 = r 48 := h.2.2.1 8 (by decide)
theorem RR.i9 (h : RR S q ri tr ft r) : q 9 = r 49 := h.2.2.1 9 (by decide)
theorem RR.i10 (h : RR S q ri tr ft r) : q 10 = r 50 := h.2.2.1 10 (by decide)
theorem RR.i11 (h : RR S q ri tr ft r) : q 11 = r 51 := h.2.2.1 11 (by decide)
theorem RR.i12 (h : RR S q ri tr ft r) : q 12 = r 52 := h.2.2.1 12 (by decide)
theorem RR.i13 (h : RR S q ri tr ft r) : q 13 = r 53 := h.2.2.1 13 (by decide)
theorem RR.hl (h : RR S q ri tr ft r) {k : Nat} (hk : k < S) : sL ri tr (nI k) = ln r k := by
  have hS := h.1
  unfold sL
  rw [na_nI (by omega) (by decide), na_nI (by omega) (by decide), (h.2.2.2.1 k hk).1, (h.2.2.2.1 k hk).2]
  rfl
theorem RR.fo (h : RR S q ri tr ft r) {k : Nat} (hk : k ≤ S) : na 21 ft (nI k) = lns r 0 k := by
  have hS := h.1
  rw [na_nI (by omega) (by decide), h.2.2.2.2 k hk]
theorem RR.hB (h : RR S q ri tr ft r) {k : Nat} (hk : k ≤ S) : pB q ft (nI k) = mB r k := by
  unfold pB mB
  rw [h.i4, h.i0, h.fo hk]
theorem RR.fr (h : RR S q ri tr ft r) {k : Nat} (hk : k ≤ S) : na 21 ft (q 3) - na 21 ft (nI k) = lns r k (S - k) := by
  rw [h.i3, h.fo hk, h.fo (Nat.le_refl _)]
  have := lns_app r 0 k (S - k)
  rw [show k + (S - k) = S by omega, Nat.zero_add] at this
  rw [this, Int32.add_comm, Int32.add_sub_cancel]
theorem RR.hA (h : RR S q ri tr ft r) {k : Nat} (hk : k ≤ S) : pA q ft (nI k) = mA r S k := by
  unfold pA mA
  rw [h.fr hk, h.i9, h.i0]
theorem pl_inj {i j : Nat} (h : pl i = pl j) : i = j := by unfold pl at h; split at h <;> split at h <;> omega
theorem lns_upd {r : Row} {i : Nat} {x : Int32} {n k : Nat} (hk : k + n ≤ 20) (hi : i < 4 ∨ 44 ≤ i) : lns (upd r i x) k n = lns r k n := by
  refine lns_cg n k (fun j h1 h2 => ?_)
  unfold ln
  rw [upd_n _ _ (by omega), upd_n _ _ (by omega)]
/-- a place changes on both sides -/
theorem RR.up (h : RR S q ri tr ft r) {i : Nat} (x : Int32) (hi : i < 14) (h3 : i ≠ 3) : RR S (upd q i x) ri tr ft (upd r (pl i) x) := by
  obtain ⟨h1, h2, g3, h4, h5⟩ := h
  have hp : pl i < 3 ∨ 44 ≤ pl i := by unfold pl; split <;> omega
  refine ⟨h1, by rw [upd_n _ _ (by omega)]; exact h2, fun j hj => ?_, fun k hk => ?_, fun k hk => ?_⟩
  · by_cases hz : j = i
    · subst hz; rw [upd_s, upd_s]
    · rw [upd_n _ _ hz, upd_n _ _ (fun e => hz (pl_inj e))]
      exact g3 j hj
  · rw [upd_n _ _ (by omega), upd_n _ _ (by omega)]
    exact h4 k hk
  · rw [h5 k hk, lns_upd (by omega) (by omega)]
end
