/-- a flight as it must be -/
def FW (o : Fl) : Prop := ∃ k x y : Nat, o = (nI k, nI x, nI y) ∧ 1 ≤ k ∧ k ≤ 20 ∧ 10 ≤ x ∧ x ≤ 25 ∧ 15 ≤ y ∧ y ≤ 40
theorem rd_rng {lo hi : Nat} {one c1 c2 : Int32} (hlo : lo < 100) (hhi : hi < 100) (h : ¬ (rd (nI lo) (nI hi) one c1 c2).2.2 = 0) (hn : ¬ (rd (nI lo) (nI hi) one c1 c2).1 < 10) : ∃ n, (rd (nI lo) (nI hi) one c1 c2).1 = nI n ∧ lo ≤ n ∧ n ≤ hi := by
  unfold rd at h hn ⊢
  by_cases ha : bw c1 49 57 = 0
  · rw [if_pos ha] at h; exact absurd rfl h
  · rw [if_neg ha] at h hn ⊢
    by_cases hb : nI hi / 10 < c1 - 48 ∧ (one = 0 ∨ ¬ 1 < c1 - 48)
    · rw [if_pos hb] at h; exact absurd rfl h
    · rw [if_neg hb] at hn ⊢
      dsimp only at hn ⊢
      have hd : ¬ (c1 - 48 : Int32) < 10 → False := fun q => by
        obtain ⟨m, rfl, m1, m2⟩ := bwN (a := 49) (c := 57) ha (by decide) (by decide)
        rw [show (48 : Int32) = nI 48 from rfl, pk_sub (by omega)] at q
        exact q (nI_lt (b := 10) (by omega) (by decide))
      unfold rd2 at hn ⊢
      by_cases hc : bw c2 48 57 = 0
      · rw [if_pos hc] at hn; exact absurd (hd hn) id
      · rw [if_neg hc] at hn ⊢
        by_cases he : bw (10 * (c1 - 48) + c2 - 48) (nI lo) (nI hi) = 0
        · rw [if_pos he] at hn; exact absurd (hd hn) id
        · rw [if_neg he]
          exact bwN he (by omega) (by omega)
theorem fT_ok {L : List Int32} {s : Nat} {k x : Int32} {o : Fl} (h : (fT L k x s).1 = some o) : ¬ x < 10 ∧ ∃ y : Nat, o = (k, x, nI y) ∧ 15 ≤ y ∧ y ≤ 40 := by
  unfold fT at h
  by_cases ha : x < 10
  · rw [if_pos ha] at h; cases h
  · rw [if_neg ha] at h
    by_cases hb : sg L s = 47
    · rw [if_pos hb] at h
      by_cases hc : (rd 15 40 0 (sg L (s + 1)) (sg L (s + 1 + 1))).2.2 = 0
      · rw [if_pos hc] at h; cases h
      · rw [if_neg hc] at h
        have h15 : ¬ (rd 15 40 0 (sg L (s + 1)) (sg L (s + 1 + 1))).1 < 15 := fun q => by
          have e : (rd 15 40 0 (sg L (s + 1)) (sg L (s + 1 + 1))).2.2 = ok1 15 0 (rd 15 40 0 (sg L (s + 1)) (sg L (s + 1 + 1))).1 := by
            unfold rd at hc ⊢
            by_cases ga : bw (sg L (s + 1)) 49 57 = 0
            · rw [if_pos ga] at hc; exact absurd rfl hc
            · rw [if_neg ga] at hc ⊢
              by_cases gb : (40 : Int32) / 10 < sg L (s + 1) - 48 ∧ ((0 : Int32) = 0 ∨ ¬ 1 < sg L (s + 1) - 48)
              · rw [if_pos gb] at hc; exact absurd rfl hc
              · rw [if_neg gb]
          rw [e] at hc
          unfold ok1 at hc
          rw [if_pos q, if_pos rfl] at hc
          exact hc rfl
        have h10 : ¬ (rd 15 40 0 (sg L (s + 1)) (sg L (s + 1 + 1))).1 < 10 := fun q => h15 (by
          rw [Int32.lt_iff_toInt_lt] at q ⊢
          have i1 : (10 : Int32).toInt = 10 := by decide
          have i2 : (15 : Int32).toInt = 15 := by decide
          omega)
        obtain ⟨y, e, y1, y2⟩ := rd_rng (lo := 15) (hi := 40) (by omega) (by omega) hc h10
        refine ⟨ha, y, ?_, y1, y2⟩
        cases h
        rw [← e]
        rfl
    · rw [if_neg hb] at h; cases h
theorem fR_ok {L : List Int32} {s : Nat} {o : Fl} (h : (fR L s).1 = some o) : FW o := by
  unfold fR at h
  by_cases ha : (rd 10 25 1 (sg L s) (sg L (s + 1))).2.2 = 0
  · rw [if_pos ha] at h; cases h
  · rw [if_neg ha] at h
    have hx := rd_rng (lo := 10) (hi := 25) (by omega) (by omega) ha
    generalize hR : rd 10 25 1 (sg L s) (sg L (s + 1)) = R at *
    have hR' : rd (nI 10) (nI 25) 1 (sg L s) (sg L (s + 1)) = R := hR
    rw [hR'] at hx
    generalize s + R.2.1 = s at *
    unfold fM at h
    by_cases hb : ¬ bw R.1 2 20 = 0 ∧ sg L s = 42
    · rw [if_pos hb] at h
      obtain ⟨k, ek, k1, k2⟩ := bwN (a := 2) (c := 20) hb.1 (by decide) (by decide)
      by_cases hc : (rd 10 25 0 (sg L (s + 1)) (sg L (s + 1 + 1))).2.2 = 0
      · rw [if_pos hc] at h; cases h
      · rw [if_neg hc] at h
        obtain ⟨g1, y, e, y1, y2⟩ := fT_ok h
        obtain ⟨x, ex, x1, x2⟩ := rd_rng (lo := 10) (hi := 25) (by omega) (by omega) hc g1
        refine ⟨k, x, y, ?_, by omega, k2, x1, x2, y1, y2⟩
        rw [e, ek, ← ex]
        rfl
    · rw [if_neg hb] at h
      obtain ⟨g1, y, e, y1, y2⟩ := fT_ok h
      obtain ⟨x, ex, x1, x2⟩ := hx g1
      exact ⟨1, x, y, by rw [e, ex]; rfl, by omega, by omega, x1, x2, y1, y2⟩
theorem tx_ok (L : List Int32) : ∀ (n s : Nat) (F : List Fl), (∀ o, o ∈ F → FW o) → ∀ o, o ∈ (tx L n s F).1 → FW o
  | 0, _, _, hF => hF
  | n + 1, s, F, hF => by
    unfold tx
    split
    · exact hF
    next o ho =>
      have hF' : ∀ o', o' ∈ F ++ [o] → FW o' := fun o' h => by
        rcases List.mem_append.mp h with q | q
        · exact hF _ q
        · rw [List.mem_singleton.mp q]; exact fR_ok ho
      split
      · exact tx_ok L n _ _ hF'
      · exact hF'
theorem tx_len (L : List Int32) : ∀ (n s : Nat) (F : List Fl), s ≤ L.length → F.length * 4 ≤ s → (tx L n s F).1.length * 4 ≤ (tx L n s F).2.1 + 1 ∧ (tx L n s F).2.1 ≤ L.length
  | 0, s, F, hs, hF => ⟨by show F.length * 4 ≤ s + 1; omega, hs⟩
  | n + 1, s, F, hs, hF => by
    have hle := fR_le hs
    unfold tx
    split
    next hr =>
      refine ⟨?_, hle⟩
      show F.length * 4 ≤ (fR L s).2 + 1
      have : s ≤ (fR L s).2 := by
        unfold fR fM fT
        split
        · show s ≤ s + _; omega
        · split
          · split
            · show s ≤ s + _ + 1 + _; omega
            · split
              · show s ≤ s + _ + 1 + _; omega
              · split
                · split
                  · show s ≤ s + _ + 1 + _ + 1 + _; omega
                  · show s ≤ s + _ + 1 + _ + 1 + _; omega
                · show s ≤ s + _ + 1 + _; omega
          · split
            · show s ≤ s + _; omega
            · split
              · split
                · show s ≤ s + _ + 1 + _; omega
                · show s ≤ s + _ + 1 + _; omega
              · show s ≤ s + _; omega
      omega
    next o ho =>
      have hadv := fR_adv ho
      have hlen : (F ++ [o]).length = F.length + 1 := by simp
      split
      next hc =>
        have hlt : (fR L s).2 + 1 ≤ L.length := sg_lt (fun q => by rw [q] at hc; exact absurd hc (by decide))
        exact tx_len L n _ _ hlt (by omega)
      next =>
        refine ⟨?_, hle⟩
        show (F ++ [o]).length * 4 ≤ (fR L s).2 + 1
        omega
/-- how many steps, which ones -/
def cN (o : Fl) : Nat := o.1.toNatClampNeg
def stp : List Fl → List (Int32 × Int32)
  | [] => []
  | o :: F => List.replicate (cN o) (o.2.1, o.2.2) ++ stp F
theorem FW.c {o : Fl} (h : FW o) : o.1 = nI (cN o) ∧ 1 ≤ cN o ∧ cN o ≤ 20 := by
  obtain ⟨k, x, y, rfl, k1, k2, -⟩ := h
  have : cN (nI k, nI x, nI y) = k := nI_clamp (by omega)
  rw [this]
  exact ⟨rfl, k1, k2⟩
def bldL (r : Row) (S : Nat) : List (Int32 × Int32) → Row
  | [] => r
  | p :: P => bldL (bld r S p.1 p.2) (S + 1) P
theorem bldL_app : ∀ (P Q : List (Int32 × Int32)) (r : Row) (S : Nat), bldL r S (P ++ Q) = bldL (bldL r S P) (S + P.length) Q
  | [], Q, r, S => rfl
  | p :: P, Q, r, S => by
    show bldL (bld r S p.1 p.2) (S + 1) (P ++ Q) = _
    rw [bldL_app P Q]
    show _ = bldL (bldL (bld r S p.1 p.2) (S + 1) P) (S + (P.length + 1)) Q
    rw [show S + 1 + P.length = S + (P.length + 1) by omega]
theorem bldL_3 : ∀ (P : List (Int32 × Int32)) (r : Row) (S : Nat), r 3 = nI S → bldL r S P 3 = nI (S + P.length)
  | [], r, S, h => h
  | p :: P, r, S, h => by
    show bldL (bld r S p.1 p.2) (S + 1) P 3 = nI (S + (P.length + 1))
    rw [bldL_3 P (bld r S p.1 p.2) (S + 1) (upd_s _ _ _), show S + 1 + P.length = S + (P.length + 1) by omega]
