/-- the model's own cell -/
def MO (b : Nat) (st le sp nu fl : Int32) : va_E := .inr (8, [.ref (b + 1), .ref (b + 2), .int st, .ref (b + 3), .ref (b + 4), .ref (b + 5), .ref (b + 6), .int le, .int sp, .int nu, .int fl, .ref (b + 7), .ref (b + 8), .ref (b + 9)])
/-- a heap with an int array at w -/
def aw (h : xH) (w n : Nat) (f : Nat → Int32) : xH := (h.1, mu h.2 w (.inl (0, n, .inl f)))
theorem aw_w (h : xH) (w n : Nat) (f : Nat → Int32) : (aw h w n f).2 w = .inl (0, n, .inl f) := mu_s _ _ _
theorem aw_n {h : xH} {w n q : Nat} {f : Nat → Int32} {x : va_E} (h1 : h.2 q = x) (hq : q ≠ w) : (aw h w n f).2 q = x := by
  show mu _ _ _ _ = _
  rw [mu_n _ _ hq]
  exact h1
theorem aw_aw (h : xH) (w n n' : Nat) (f f' : Nat → Int32) : ((aw h w n f).1, mu (aw h w n f).2 w (.inl (0, n', .inl f'))) = aw h w n' f' := by
  unfold aw
  simp only [mu_mu]
theorem aw_eq {h : xH} {w n : Nat} {f : Nat → Int32} (h2 : h.2 w = .inl (0, n, .inl f)) : aw h w n f = h := by
  obtain ⟨z, m⟩ := h
  unfold aw
  congr 1
  funext q
  by_cases hq : q = w
  · subst hq; rw [mu_s]; exact h2.symm
  · rw [mu_n _ _ hq]
/-- what is left to copy, from the place k on -/
def bcs (f g : Nat → Int32) (sp dp k n : Nat) : Nat → Int32 := fun j => if dp + k ≤ j ∧ j < dp + n then f (sp + (j - dp)) else g j
theorem bcs_end (f g : Nat → Int32) (sp dp n : Nat) : bcs f g sp dp n n = g := by
  funext j
  unfold bcs
  rw [if_neg (by omega)]
theorem bcs_step (f g : Nat → Int32) (sp dp : Nat) {k n : Nat} (hk : k < n) : bcs f (upd g (dp + k) (f (sp + k))) sp dp (k + 1) n = bcs f g sp dp k n := by
  funext j
  unfold bcs
  by_cases hj : j = dp + k
  · subst hj
    rw [if_neg (by omega), if_pos (by omega), upd_s, Nat.add_sub_cancel_left]
  · by_cases h2 : dp + (k + 1) ≤ j ∧ j < dp + n
    · rw [if_pos h2, if_pos (by omega)]
    · rw [if_neg h2, if_neg (by omega), upd_n _ _ hj]
/-- the history's rows -/
def HR (hf : Nat → Int32) (L : List (Nat → Int32)) : Prop := ∀ (j : Nat) (x : Nat → Int32), L[j]? = some x → ∀ k, k < 54 → hf (54 * j + k) = x k
def pushH (L : List (Nat → Int32)) (r : Nat → Int32) : List (Nat → Int32) := if L.length = 6 then L.tail ++ [r] else L ++ [r]
section
variable {b : Nat} {r : Nat → Int32} {h : xH} {st le sp nu fl : Int32}
theorem m_recLoop1 (h1 : h.2 b = MO b st le sp nu fl) : ∀ (d k : Nat) (g : Nat → Int32), k + d = 270 → rn 100 11 [.ref b, .int (nI k)] [] (aw h (b + 2) 324 g) = rn 100 39 [.ref b, .int (nI 270)] [] (aw h (b + 2) 324 (fun j => if k ≤ j ∧ j < 270 then g (j + 54) else g j)) := by
  intro d
  unfold MO at h1
  have f1 : ∀ g, (aw h (b + 2) 324 g).2 b = _ := fun g => aw_n (f := g) h1 (by omega)
  have f2 := aw_w h (b + 2) 324
  induction d with
  | zero =>
    intro k g hk
    obtain rfl : k = 270 := by omega
    rw [q100_11]
    simp only [q100_12, q100_15, show ¬ nI 270 < 270 by decide, ↓reduceIte]
    congr 2
    funext j
    rw [if_neg (by omega)]
  | succ d ih =>
    intro k g hk
    have c0 : ¬ nI k < 0 := nI_pos (by omega)
    have c1 : nI k < 270 := nI_lt (b := 270) (by omega) (by decide)
    have c2 : (nI k).toNatClampNeg = k := nI_clamp (by omega)
    have c3 : k < 324 := by omega
    have e1 : nI k + 54 = nI (k + 54) := nI_add k 54
    have d0 : ¬ nI (k + 54) < 0 := nI_pos (by omega)
    have d2 : (nI (k + 54)).toNatClampNeg = k + 54 := nI_clamp (by omega)
    have d3 : k + 54 < 324 := by omega
    rw [q100_11]
    simp only [q100_0, q100_1, q100_4, q100_6, q100_9, q100_10, q100_12, q100_15, q100_18, q100_19, q100_22, q100_23, q100_24, q100_27, q100_28, q100_30, q100_31, q100_32, q100_33, q100_36, q100_40, q100_41, q100_44, q100_45, q100_46, q100_49, q100_50, q100_51, q100_52, q100_54, q100_57, q100_58, q100_61, q100_63, q100_64, q100_67, q100_68, q100_69, q100_70, q100_71, q100_74, q100_75, q100_76, q100_77, q100_80, q100_83, q100_84, q100_85, q100_88, q100_89, q100_90, q100_93, rv_v, rv_n, rh_v, mu_at, isF_r, isK_r, fld_r, fset_r, gd0, gd1, gd2, gd3, gd4, gd5, gd6, gd7, gd8, gd9, gd10, gd11, gd12, gd13, inA_l, inW_l, inZ_l, inQ_l, aget_l, aset_l, qget_l, qset_l, isA_l, isA_q, alen_l, k2_i, k2_a, k2_n, k2_u, k2_l, ite_si, Option.isSome_some, List.cons_append, List.nil_append, List.length_cons, List.length_nil, Nat.reduceAdd, Nat.zero_add, Nat.reduceLT, Nat.reduceEqDiff, decide_true, decide_false, Bool.and_self, Bool.and_true, Bool.true_and, ↓reduceIte, List.set_cons_zero, List.set_cons_succ, Nat.reduceSub, Nat.add_left_cancel_iff, Nat.add_eq_left, Nat.left_eq_add, not_true_eq_false, not_false_eq_true, reduceCtorEq, i10, i01, ib10, ib01, beq_self_eq_true, eq_self, Int32.reduceLT, Int32.reduceToNatClampNeg, Int32.reduceAdd, Int32.reduceSub, Int32.reduceMul, Bool.or_true, Bool.true_or, Bool.or_false, Bool.false_or, Nat.reduceBEq, Nat.reduceMul, f1, f2, c0, c1, c2, c3, e1, d0, d2, d3, nI_1]
    rw [aw_aw, ih (k + 1) _ (by omega)]
    congr 2
    funext j
    by_cases hj : j = k
    · subst hj
      rw [if_neg (by omega), if_pos (by omega), upd_s]
    · by_cases h2 : k + 1 ≤ j ∧ j < 270
      · rw [if_pos h2, if_pos (by omega), upd_n _ _ (by omega)]
      · rw [if_neg h2, if_neg (by omega), upd_n _ _ hj]
theorem m_recLoop2 {n : Nat} (hn : n ≤ 5) (h1 : h.2 b = MO b (nI n) le sp nu fl) (hr : h.2 (b + 1) = .inl (0, 54, .inl r)) : ∀ (d k : Nat) (g : Nat → Int32), k + d = 54 → rn 100 51 [.ref b, .int (nI k)] [] (aw h (b + 2) 324 g) = rn 100 83 [.ref b, .int (nI 54)] [] (aw h (b + 2) 324 (bcs r g 0 (54 * n) k 54)) := by
  intro d
  unfold MO at h1
  have f1 : ∀ g, (aw h (b + 2) 324 g).2 b = _ := fun g => aw_n (f := g) h1 (by omega)
  have f2 := aw_w h (b + 2) 324
  have f3 : ∀ g, (aw h (b + 2) 324 g).2 (b + 1) = _ := fun g => aw_n (f := g) hr (by omega)
  induction d with
  | zero =>
    intro k g hk
    obtain rfl : k = 54 := by omega
    rw [q100_51]
    simp only [q100_52, q100_54, show ¬ nI 54 < 54 by decide, ↓reduceIte]
    rw [bcs_end]
  | succ d ih =>
    intro k g hk
    have c0 : ¬ nI k < 0 := nI_pos (by omega)
    have c1 : nI k < 54 := nI_lt (b := 54) (by omega) (by decide)
    have c2 : (nI k).toNatClampNeg = k := nI_clamp (by omega)
    have c3 : k < 54 := by omega
    have e0 : (54 : Int32) * nI n = nI (54 * n) := pk_mul 54 n
    have e1 : nI (54 * n) + nI k = nI (54 * n + k) := nI_add _ _
    have d0 : ¬ nI (54 * n + k) < 0 := nI_pos (by omega)
    have d2 : (nI (54 * n + k)).toNatClampNeg = 54 * n + k := nI_clamp (by omega)
    have d3 : 54 * n + k < 324 := by omega
    rw [q100_51]
    simp only [q100_0, q100_1, q100_4, q100_6, q100_9, q100_10, q100_11, q100_12, q100_15, q100_18, q100_19, q100_22, q100_23, q100_24, q100_27, q100_28, q100_30, q100_31, q100_32, q100_33, q100_36, q100_39, q100_40, q100_41, q100_44, q100_45, q100_46, q100_49, q100_50, q100_52, q100_54, q100_57, q100_58, q100_61, q100_63, q100_64, q100_67, q100_68, q100_69, q100_70, q100_71, q100_74, q100_75, q100_76, q100_77, q100_80, q100_84, q100_85, q100_88, q100_89, q100_90, q100_93, rv_v, rv_n, rh_v, mu_at, isF_r, isK_r, fld_r, fset_r, gd0, gd1, gd2, gd3, gd4, gd5, gd6, gd7, gd8, gd9, gd10, gd11, gd12, gd13, inA_l, inW_l, inZ_l, inQ_l, aget_l, aset_l, qget_l, qset_l, isA_l, isA_q, alen_l, k2_i, k2_a, k2_n, k2_u, k2_l, ite_si, Option.isSome_some, List.cons_append, List.nil_append, List.length_cons, List.length_nil, Nat.reduceAdd, Nat.zero_add, Nat.reduceLT, Nat.reduceEqDiff, decide_true, decide_false, Bool.and_self, Bool.and_true, Bool.true_and, ↓reduceIte, List.set_cons_zero, List.set_cons_succ, Nat.reduceSub, Nat.add_left_cancel_iff, Nat.add_eq_left, Nat.left_eq_add, not_true_eq_false, not_false_eq_true, reduceCtorEq, i10, i01, ib10, ib01, beq_self_eq_true, eq_self, Int32.reduceLT, Int32.reduceToNatClampNeg, Int32.reduceAdd, Int32.reduceSub, Int32.reduceMul, Bool.or_true, Bool.true_or, Bool.or_false, Bool.false_or, Nat.reduceBEq, Nat.reduceMul, f1, f2, f3, c0, c1, c2, c3, e0, e1, d0, d2, d3, nI_1]
    rw [aw_aw, ih (k + 1) _ (by omega)]
    have := bcs_step r g 0 (54 * n) c3
    rw [Nat.zero_add] at this
    rw [this]
theorem aw_mu {h : xH} {w n q : Nat} {f : Nat → Int32} {x : va_E} (hq : q ≠ w) : (h.1, mu (mu h.2 w (.inl (0, n, .inl f))) q x) = aw (h.1, mu h.2 q x) w n f := by
  unfold aw
  congr 1
  funext y
  simp only [mu_at]
  by_cases ha : y = q
  · subst ha
    rw [if_pos rfl, if_neg hq, if_pos rfl]
  · rw [if_neg ha]
    by_cases hb : y = w
    · rw [if_pos hb, if_pos hb]
    · rw [if_neg hb, if_neg hb, if_neg ha]
theorem m_recEnd {n : Nat} (hn : n ≤ 5) (h1 : h.2 b = MO b (nI n) le sp nu fl) (hr : h.2 (b + 1) = .inl (0, 54, .inl r)) (g : Nat → Int32) : rn 100 51 [.ref b, .int 0] [] (aw h (b + 2) 324 g) = some (none, (h.1, mu (mu h.2 (b + 2) (.inl (0, 324, .inl (bcs r g 0 (54 * n) 0 54)))) b (MO b (nI (n + 1)) le sp nu fl))) := by
  have k2 := m_recLoop2 hn h1 hr 54 0 g (by omega)
  rw [show nI 0 = 0 from rfl] at k2
  rw [k2]
  unfold MO at h1
  have f1 := aw_n (n := 324) (w := b + 2) (f := bcs r g 0 (54 * n) 0 54) h1 (by omega)
  simp only [q100_0, q100_1, q100_4, q100_6, q100_9, q100_10, q100_11, q100_12, q100_15, q100_18, q100_19, q100_22, q100_23, q100_24, q100_27, q100_28, q100_30, q100_31, q100_32, q100_33, q100_36, q100_39, q100_40, q100_41, q100_44, q100_45, q100_46, q100_49, q100_50, q100_52, q100_54, q100_57, q100_58, q100_61, q100_63, q100_64, q100_67, q100_68, q100_69, q100_70, q100_71, q100_74, q100_75, q100_76, q100_77, q100_80, q100_83, q100_84, q100_85, q100_88, q100_89, q100_90, q100_93, rv_v, rv_n, rh_v, mu_at, isF_r, isK_r, fld_r, fset_r, gd0, gd1, gd2, gd3, gd4, gd5, gd6, gd7, gd8, gd9, gd10, gd11, gd12, gd13, inA_l, inW_l, inZ_l, inQ_l, aget_l, aset_l, qget_l, qset_l, isA_l, isA_q, alen_l, k2_i, k2_a, k2_n, k2_u, k2_l, ite_si, Option.isSome_some, List.cons_append, List.nil_append, List.length_cons, List.length_nil, Nat.reduceAdd, Nat.zero_add, Nat.reduceLT, Nat.reduceEqDiff, decide_true, decide_false, Bool.and_self, Bool.and_true, Bool.true_and, ↓reduceIte, List.set_cons_zero, List.set_cons_succ, Nat.reduceSub, Nat.add_left_cancel_iff, Nat.add_eq_left, Nat.left_eq_add, not_true_eq_false, not_false_eq_true, reduceCtorEq, i10, i01, ib10, ib01, beq_self_eq_true, eq_self, Int32.reduceLT, Int32.reduceToNatClampNeg, Int32.reduceAdd, Int32.reduceSub, Int32.reduceMul, Bool.or_true, Bool.true_or, Bool.or_false, Bool.false_or, Nat.reduceBEq, Nat.reduceMul, f1, nI_1]
  rfl
theorem m_record {hf : Nat → Int32} {L : List (Nat → Int32)} (hL : L.length ≤ 6) (h1 : h.2 b = MO b (nI L.length) le sp nu fl) (hr : h.2 (b + 1) = .inl (0, 54, .inl r)) (hh : h.2 (b + 2) = .inl (0, 324, .inl hf)) (hR : HR hf L) : ∃ hf', cl 100 [.ref b] h = some (none, (h.1, mu (mu h.2 (b + 2) (.inl (0, 324, .inl hf'))) b (MO b (nI (pushH L r).length) le sp nu fl))) ∧ HR hf' (pushH L r) := by
  by_cases h6 : L.length = 6
  · have hg := aw_eq hh
    have hlen : (pushH L r).length = 5 + 1 := by unfold pushH; rw [if_pos h6]; simp; omega
    refine ⟨bcs r (fun j => if 0 ≤ j ∧ j < 270 then hf (j + 54) else hf j) 0 (54 * 5) 0 54, ?_, ?_⟩
    · rw [hlen]
      have h1' := h1
      rw [h6, show nI 6 = 6 from rfl] at h1'
      have k1 := m_recLoop1 h1' 270 0 hf (by omega)
      rw [show nI 0 = 0 from rfl, hg] at k1
      generalize hF : (fun j => if 0 ≤ j ∧ j < 270 then hf (j + 54) else hf j) = F at k1
      unfold MO at h1'
      have f1 := aw_n (n := 324) (w := b + 2) (f := F) h1' (by omega)
      have s1 : cl 100 [.ref b] h = rn 100 39 [.ref b, .int (nI 270)] [] (aw h (b + 2) 324 F) := by
        rw [← k1]
        simp only [c100, q100_0, q100_1, q100_4, q100_6, q100_9, q100_10, q100_12, q100_15, q100_18, q100_19, q100_22, q100_23, q100_24, q100_27, q100_28, q100_30, q100_31, q100_32, q100_33, q100_36, q100_40, q100_41, q100_44, q100_45, q100_46, q100_50, q100_51, q100_52, q100_54, q100_57, q100_58, q100_61, q100_63, q100_64, q100_67, q100_68, q100_69, q100_70, q100_71, q100_74, q100_75, q100_76, q100_77, q100_80, q100_83, q100_84, q100_85, q100_88, q100_89, q100_90, q100_93, rv_v, rv_n, rh_v, mu_at, isF_r, isK_r, fld_r, fset_r, gd0, gd1, gd2, gd3, gd4, gd5, gd6, gd7, gd8, gd9, gd10, gd11, gd12, gd13, inA_l, inW_l, inZ_l, inQ_l, aget_l, aset_l, qget_l, qset_l, isA_l, isA_q, alen_l, k2_i, k2_a, k2_n, k2_u, k2_l, ite_si, Option.isSome_some, List.cons_append, List.nil_append, List.length_cons, List.length_nil, Nat.reduceAdd, Nat.zero_add, Nat.reduceLT, Nat.reduceEqDiff, decide_true, decide_false, Bool.and_self, Bool.and_true, Bool.true_and, ↓reduceIte, List.set_cons_zero, List.set_cons_succ, Nat.reduceSub, Nat.add_left_cancel_iff, Nat.add_eq_left, Nat.left_eq_add, not_true_eq_false, not_false_eq_true, reduceCtorEq, i10, i01, ib10, ib01, beq_self_eq_true, eq_self, Int32.reduceLT, Int32.reduceToNatClampNeg, Int32.reduceAdd, Int32.reduceSub, Int32.reduceMul, Bool.or_true, Bool.true_or, Bool.or_false, Bool.false_or, Nat.reduceBEq, Nat.reduceMul, h1']
      have s2 : rn 100 39 [.ref b, .int (nI 270)] [] (aw h (b + 2) 324 F) = rn 100 51 [.ref b, .int 0] [] (aw (h.1, mu h.2 b (MO b (nI 5) le sp nu fl)) (b + 2) 324 F) := by
        rw [← aw_mu (h := h) (w := b + 2) (n := 324) (f := F) (q := b) (x := MO b (nI 5) le sp nu fl) (by omega)]
        simp only [q100_0, q100_1, q100_4, q100_6, q100_9, q100_10, q100_11, q100_12, q100_15, q100_18, q100_19, q100_22, q100_23, q100_24, q100_27, q100_28, q100_30, q100_31, q100_32, q100_33, q100_36, q100_39, q100_40, q100_41, q100_44, q100_45, q100_46, q100_49, q100_50, q100_52, q100_54, q100_57, q100_58, q100_61, q100_63, q100_64, q100_67, q100_68, q100_69, q100_70, q100_71, q100_74, q100_75, q100_76, q100_77, q100_80, q100_83, q100_84, q100_85, q100_88, q100_89, q100_90, q100_93, rv_v, rv_n, rh_v, mu_at, isF_r, isK_r, fld_r, fset_r, gd0, gd1, gd2, gd3, gd4, gd5, gd6, gd7, gd8, gd9, gd10, gd11, gd12, gd13, inA_l, inW_l, inZ_l, inQ_l, aget_l, aset_l, qget_l, qset_l, isA_l, isA_q, alen_l, k2_i, k2_a, k2_n, k2_u, k2_l, ite_si, Option.isSome_some, List.cons_append, List.nil_append, List.length_cons, List.length_nil, Nat.reduceAdd, Nat.zero_add, Nat.reduceLT, Nat.reduceEqDiff, decide_true, decide_false, Bool.and_self, Bool.and_true, Bool.true_and, ↓reduceIte, List.set_cons_zero, List.set_cons_succ, Nat.reduceSub, Nat.add_left_cancel_iff, Nat.add_eq_left, Nat.left_eq_add, not_true_eq_false, not_false_eq_true, reduceCtorEq, i10, i01, ib10, ib01, beq_self_eq_true, eq_self, Int32.reduceLT, Int32.reduceToNatClampNeg, Int32.reduceAdd, Int32.reduceSub, Int32.reduceMul, Bool.or_true, Bool.true_or, Bool.or_false, Bool.false_or, Nat.reduceBEq, Nat.reduceMul, f1]
        rfl
      rw [s1, s2, m_recEnd (h := (h.1, mu h.2 b (MO b (nI 5) le sp nu fl))) (r := r) (n := 5) (by omega) (mu_s _ _ _) (by show mu _ _ _ _ = _; rw [mu_n _ _ (by omega)]; exact hr) F]
      congr 3
      funext y
      simp only [mu_at]
      by_cases ha : y = b
      · rw [if_pos ha, if_pos ha]
      · rw [if_neg ha, if_neg ha, if_neg ha]
    · intro j x hj k hk
      unfold pushH at hj
      rw [if_pos h6] at hj
      have hlt : j < (L.tail ++ [r]).length := (List.getElem?_eq_some_iff.mp hj).1
      have hlt' : j < 6 := by simp at hlt; omega
      unfold bcs
      by_cases h5 : j = 5
      · subst h5
        rw [if_pos (by omega)]
        rw [List.getElem?_append_right (by simp; omega)] at hj
        have : x = r := by simp [h6] at hj; exact hj.symm
        rw [this, show 0 + (54 * 5 + k - 54 * 5) = k by omega]
      · rw [if_neg (by omega)]
        rw [List.getElem?_append_left (by simp; omega), List.getElem?_tail] at hj
        show (if 0 ≤ 54 * j + k ∧ 54 * j + k < 270 then _ else _) = _
        rw [if_pos (by omega)]
        have := hR (j + 1) x hj k hk
        rw [← this]
        congr 1
        omega
  · have hlen : (pushH L r).length = L.length + 1 := by unfold pushH; rw [if_neg h6]; simp
    refine ⟨bcs r hf 0 (54 * L.length) 0 54, ?_, ?_⟩
    · rw [hlen]
      have hne : ¬ nI L.length = 6 := fun q => h6 ((nI_eq (b := 6) (by omega) (by decide)).mp q)
      have k := m_recEnd (n := L.length) (by omega) h1 hr hf
      rw [aw_eq hh] at k
      unfold MO at h1
      rw [← k]
      simp only [c100, q100_0, q100_1, q100_4, q100_6, q100_10, q100_12, q100_15, q100_18, q100_19, q100_22, q100_23, q100_24, q100_27, q100_28, q100_30, q100_31, q100_32, q100_33, q100_36, q100_40, q100_41, q100_44, q100_45, q100_46, q100_49, q100_50, q100_52, q100_54, q100_57, q100_58, q100_61, q100_63, q100_64, q100_67, q100_68, q100_69, q100_70, q100_71, q100_74, q100_75, q100_76, q100_77, q100_80, q100_83, q100_84, q100_85, q100_88, q100_89, q100_90, q100_93, rv_v, rv_n, rh_v, mu_at, isF_r, isK_r, fld_r, fset_r, gd0, gd1, gd2, gd3, gd4, gd5, gd6, gd7, gd8, gd9, gd10, gd11, gd12, gd13, inA_l, inW_l, inZ_l, inQ_l, aget_l, aset_l, qget_l, qset_l, isA_l, isA_q, alen_l, k2_i, k2_a, k2_n, k2_u, k2_l, ite_si, Option.isSome_some, List.cons_append, List.nil_append, List.length_cons, List.length_nil, Nat.reduceAdd, Nat.zero_add, Nat.reduceLT, Nat.reduceEqDiff, decide_true, decide_false, Bool.and_self, Bool.and_true, Bool.true_and, ↓reduceIte, List.set_cons_zero, List.set_cons_succ, Nat.reduceSub, Nat.add_left_cancel_iff, Nat.add_eq_left, Nat.left_eq_add, not_true_eq_false, not_false_eq_true, reduceCtorEq, i10, i01, ib10, ib01, beq_self_eq_true, eq_self, Int32.reduceLT, Int32.reduceToNatClampNeg, Int32.reduceAdd, Int32.reduceSub, Int32.reduceMul, Bool.or_true, Bool.true_or, Bool.or_false, Bool.false_or, Nat.reduceBEq, Nat.reduceMul, h1, hne]
    · intro j x hj k hk
      unfold pushH at hj
      rw [if_neg h6] at hj
      have hlt : j < (L ++ [r]).length := (List.getElem?_eq_some_iff.mp hj).1
      have hlt' : j < L.length + 1 := by simpa using hlt
      unfold bcs
      by_cases h5 : j = L.length
      · subst h5
        rw [if_pos (by omega)]
        have : x = r := by simp at hj; exact hj.symm
        rw [this]
        congr 1
        omega
      · rw [if_neg (by omega)]
        rw [List.getElem?_append_left (by omega)] at hj
        exact hR j x hj k hk
end
