section
variable {b : Nat} {h : xH} {σ : AS} {st le sp nu fl : Int32}
theorem m_saveLoop {c : Nat} {r : Nat → Int32} (hc : c ≤ 1) (h1 : h.2 b = MO b st le sp nu fl) (hr : h.2 (b + 1) = .inl (0, 54, .inl r)) : ∀ (d k : Nat) (g : Nat → Int32), k + d = 54 → rn 102 14 [.ref b, .int (nI c), .int (nI k)] [] (aw h (b + 3) 108 g) = rn 102 43 [.ref b, .int (nI c), .int (nI 54)] [] (aw h (b + 3) 108 (bcs r g 0 (54 * c) k 54)) := by
  intro d
  unfold MO at h1
  have f1 : ∀ g, (aw h (b + 3) 108 g).2 b = _ := fun g => aw_n (f := g) h1 (by omega)
  have f2 := aw_w h (b + 3) 108
  have f3 : ∀ g, (aw h (b + 3) 108 g).2 (b + 1) = _ := fun g => aw_n (f := g) hr (by omega)
  induction d with
  | zero =>
    intro k g hk
    obtain rfl : k = 54 := by omega
    rw [q102_14]
    simp only [q102_15, q102_17, show ¬ nI 54 < 54 by decide, ↓reduceIte]
    rw [bcs_end]
  | succ d ih =>
    intro k g hk
    have c0 : ¬ nI k < 0 := nI_pos (by omega)
    have c1 : nI k < 54 := nI_lt (b := 54) (by omega) (by decide)
    have c2 : (nI k).toNatClampNeg = k := nI_clamp (by omega)
    have c3 : k < 54 := by omega
    have e0 : (54 : Int32) * nI c = nI (54 * c) := pk_mul 54 c
    have e1 : nI (54 * c) + nI k = nI (54 * c + k) := nI_add _ _
    have d0 : ¬ nI (54 * c + k) < 0 := nI_pos (by omega)
    have d2 : (nI (54 * c + k)).toNatClampNeg = 54 * c + k := nI_clamp (by omega)
    have d3 : 54 * c + k < 108 := by omega
    rw [q102_14]
    simp only [q102_0, q102_1, q102_2, q102_3, q102_6, q102_9, q102_11, q102_12, q102_13, q102_15, q102_17, q102_20, q102_21, q102_24, q102_26, q102_27, q102_28, q102_29, q102_30, q102_31, q102_34, q102_35, q102_36, q102_37, q102_40, q102_44, q102_47, q102_48, q102_49, q102_50, q102_51, q102_54, q102_55, q102_56, rv_v, rv_n, rh_v, mu_at, isF_r, isK_r, fld_r, fset_r, gd0, gd1, gd2, gd3, gd4, gd5, gd6, gd7, gd8, gd9, gd10, gd11, gd12, gd13, inA_l, inW_l, inZ_l, inQ_l, aget_l, aset_l, qget_l, qset_l, isA_l, isA_q, alen_l, k2_i, k2_a, k2_n, k2_u, k2_l, ite_si, Option.isSome_some, List.cons_append, List.nil_append, List.length_cons, List.length_nil, Nat.reduceAdd, Nat.zero_add, Nat.reduceLT, Nat.reduceEqDiff, decide_true, decide_false, Bool.and_self, Bool.and_true, Bool.true_and, ↓reduceIte, List.set_cons_zero, List.set_cons_succ, Nat.reduceSub, Nat.add_left_cancel_iff, Nat.add_eq_left, Nat.left_eq_add, not_true_eq_false, not_false_eq_true, reduceCtorEq, i10, i01, ib10, ib01, beq_self_eq_true, eq_self, Int32.reduceLT, Int32.reduceToNatClampNeg, Int32.reduceAdd, Int32.reduceSub, Int32.reduceMul, Bool.or_true, Bool.true_or, Bool.or_false, Bool.false_or, Nat.reduceBEq, Nat.reduceMul, f1, f2, f3, c0, c1, c2, c3, e0, e1, d0, d2, d3, nI_1]
    rw [aw_aw, ih (k + 1) _ (by omega)]
    have := bcs_step r g 0 (54 * c) c3
    rw [Nat.zero_add] at this
    rw [this]
theorem mm_save0 (c : Int32) (hc : bw c 0 1 = 0) : mDo 102 b [.int c] σ (-2) σ := by
  refine mDo.same fun h hM => ?_
  simp only [c102, q102_0, q102_1, q102_2, q102_3, q102_6, q102_9, q102_11, q102_12, q102_13, q102_14, q102_15, q102_17, q102_20, q102_21, q102_24, q102_26, q102_27, q102_28, q102_29, q102_30, q102_31, q102_34, q102_35, q102_36, q102_37, q102_40, q102_43, q102_44, q102_47, q102_48, q102_49, q102_50, q102_51, q102_54, q102_55, q102_56, rv_v, rv_n, rh_v, mu_at, isF_r, isK_r, fld_r, fset_r, gd0, gd1, gd2, gd3, gd4, gd5, gd6, gd7, gd8, gd9, gd10, gd11, gd12, gd13, inA_l, inW_l, inZ_l, inQ_l, aget_l, aset_l, qget_l, qset_l, isA_l, isA_q, alen_l, k2_i, k2_a, k2_n, k2_u, k2_l, ite_si, Option.isSome_some, List.cons_append, List.nil_append, List.length_cons, List.length_nil, Nat.reduceAdd, Nat.zero_add, Nat.reduceLT, Nat.reduceEqDiff, decide_true, decide_false, Bool.and_self, Bool.and_true, Bool.true_and, ↓reduceIte, List.set_cons_zero, List.set_cons_succ, Nat.reduceSub, Nat.add_left_cancel_iff, Nat.add_eq_left, Nat.left_eq_add, not_true_eq_false, not_false_eq_true, reduceCtorEq, i10, i01, ib10, ib01, beq_self_eq_true, eq_self, Int32.reduceLT, Int32.reduceToNatClampNeg, Int32.reduceAdd, Int32.reduceSub, Int32.reduceMul, Bool.or_true, Bool.true_or, Bool.or_false, Bool.false_or, Nat.reduceBEq, Nat.reduceMul, m_in, if_pos hc]
def setS (s : Option Row × Option Row) (c : Nat) (r : Row) : Option Row × Option Row := if c = 0 then (some r, s.2) else (s.1, some r)
theorem mm_save1 {c : Nat} (hc : c ≤ 1) : mDo 102 b [.int (nI c)] σ (σ.1 3) (σ.1, σ.2.1, setS σ.2.2.1 c σ.1, σ.2.2.2) := by
  intro h hM
  obtain ⟨sp, nu, fl, hf, sf, bf, asd, pf, mn, rs, ts, a1, a2, a3, a4, a5, a6, a7, a8, a9, a10, a11, a12, a13, a14, a15, a16, a17, a18⟩ := hM
  have hb : ¬ bw (nI c) 0 1 = 0 := by
    rw [show (0 : Int32) = nI 0 from rfl, show (1 : Int32) = nI 1 from rfl, bwY (by omega) hc (by decide)]
    decide
  have k2 := m_saveLoop hc a1 a3 54 0 sf (by omega)
  rw [show nI 0 = 0 from rfl, aw_eq a6] at k2
  have a1' := a1
  unfold MO at a1'
  have f1 : ∀ G, (aw h (b + 3) 108 G).2 b = _ := fun G => aw_n (f := G) a1' (by omega)
  have f3 : ∀ G, (aw h (b + 3) 108 G).2 (b + 1) = _ := fun G => aw_n (f := G) a3 (by omega)
  have f4 : ∀ G, (aw h (b + 3) 108 G).2 (b + 4) = _ := fun G => aw_n (f := G) a9 (by omega)
  have c0 : ¬ nI c < 0 := nI_pos (by omega)
  have c2 : (nI c).toNatClampNeg = c := nI_clamp (by omega)
  have c3 : c < 2 := by omega
  have n1 : ¬ b + 1 = b + 4 := by omega
  refine ⟨mu (mu h.2 (b + 3) (.inl (0, 108, .inl (bcs σ.1 sf 0 (54 * c) 0 54)))) (b + 4) (.inl (1, 2, .inl (upd bf c 1))), ?_, ⟨sp, nu, fl, hf, bcs σ.1 sf 0 (54 * c) 0 54, upd bf c 1, asd, pf, mn, rs, ts, ?_, a2, ?_, ?_, a5, ?_, ?_, ?_, mu_s _ _ _, ?_, ?_, ?_, ?_, a14, a15, ?_, ?_, ?_⟩, ?_⟩
  · simp only [c102, q102_0, q102_1, q102_2, q102_3, q102_6, q102_9, q102_11, q102_12, q102_13, q102_15, q102_17, q102_20, q102_21, q102_24, q102_26, q102_27, q102_28, q102_29, q102_30, q102_31, q102_34, q102_35, q102_36, q102_37, q102_40, q102_44, q102_47, q102_48, q102_49, q102_50, q102_51, q102_54, q102_55, q102_56, rv_v, rv_n, rh_v, mu_at, isF_r, isK_r, fld_r, fset_r, gd0, gd1, gd2, gd3, gd4, gd5, gd6, gd7, gd8, gd9, gd10, gd11, gd12, gd13, inA_l, inW_l, inZ_l, inQ_l, aget_l, aset_l, qget_l, qset_l, isA_l, isA_q, alen_l, k2_i, k2_a, k2_n, k2_u, k2_l, ite_si, Option.isSome_some, List.cons_append, List.nil_append, List.length_cons, List.length_nil, Nat.reduceAdd, Nat.zero_add, Nat.reduceLT, Nat.reduceEqDiff, decide_true, decide_false, Bool.and_self, Bool.and_true, Bool.true_and, ↓reduceIte, List.set_cons_zero, List.set_cons_succ, Nat.reduceSub, Nat.add_left_cancel_iff, Nat.add_eq_left, Nat.left_eq_add, not_true_eq_false, not_false_eq_true, reduceCtorEq, i10, i01, ib10, ib01, beq_self_eq_true, eq_self, Int32.reduceLT, Int32.reduceToNatClampNeg, Int32.reduceAdd, Int32.reduceSub, Int32.reduceMul, Bool.or_true, Bool.true_or, Bool.or_false, Bool.false_or, Nat.reduceBEq, Nat.reduceMul, m_in, if_neg hb, k2]
    simp only [q102_0, q102_1, q102_2, q102_3, q102_6, q102_9, q102_11, q102_12, q102_13, q102_15, q102_17, q102_20, q102_21, q102_24, q102_26, q102_27, q102_28, q102_29, q102_30, q102_31, q102_34, q102_35, q102_36, q102_37, q102_40, q102_43, q102_44, q102_47, q102_48, q102_49, q102_50, q102_51, q102_54, q102_55, q102_56, rv_v, rv_n, rh_v, mu_at, isF_r, isK_r, fld_r, fset_r, gd0, gd1, gd2, gd3, gd4, gd5, gd6, gd7, gd8, gd9, gd10, gd11, gd12, gd13, inA_l, inW_l, inZ_l, inQ_l, aget_l, aset_l, qget_l, qset_l, isA_l, isA_q, alen_l, k2_i, k2_a, k2_n, k2_u, k2_l, ite_si, Option.isSome_some, List.cons_append, List.nil_append, List.length_cons, List.length_nil, Nat.reduceAdd, Nat.zero_add, Nat.reduceLT, Nat.reduceEqDiff, decide_true, decide_false, Bool.and_self, Bool.and_true, Bool.true_and, ↓reduceIte, List.set_cons_zero, List.set_cons_succ, Nat.reduceSub, Nat.add_left_cancel_iff, Nat.add_eq_left, Nat.left_eq_add, not_true_eq_false, not_false_eq_true, reduceCtorEq, i10, i01, ib10, ib01, beq_self_eq_true, eq_self, Int32.reduceLT, Int32.reduceToNatClampNeg, Int32.reduceAdd, Int32.reduceSub, Int32.reduceMul, Bool.or_true, Bool.true_or, Bool.or_false, Bool.false_or, Nat.reduceBEq, Nat.reduceMul, f1, f3, f4, c0, c2, c3, show vp_nar .boolean 1 = 1 from rfl]
    rfl
  · rw [mu_n _ _ (by omega), mu_n _ _ (by omega)]; exact a1
  · rw [mu_n _ _ (by omega), mu_n _ _ (by omega)]; exact a3
  · rw [mu_n _ _ (by omega), mu_n _ _ (by omega)]; exact a4
  · rw [mu_n _ _ (by omega), mu_s]
  · intro x hx k hk
    unfold bcs
    by_cases hz : c = 0
    · subst hz
      have hx : some σ.1 = some x := hx
      cases hx
      rw [if_pos (by omega), show 0 + (k - 54 * 0) = k by omega]
    · have hx : (if c = 0 then (some σ.1, σ.2.2.1.2) else (σ.2.2.1.1, some σ.1)).1 = some x := hx
      rw [if_neg hz] at hx
      rw [if_neg (by omega)]
      exact a7 x hx k hk
  · intro x hx k hk
    unfold bcs
    have hx : (if c = 0 then (some σ.1, σ.2.2.1.2) else (σ.2.2.1.1, some σ.1)).2 = some x := hx
    by_cases hz : c = 0
    · rw [if_pos hz] at hx
      subst hz
      rw [if_neg (by omega)]
      exact a8 x hx k hk
    · rw [if_neg hz] at hx
      cases hx
      obtain rfl : c = 1 := by omega
      rw [if_pos (by omega), show 0 + (54 + k - 54 * 1) = k by omega]
  · show upd bf c 1 0 = oI (if c = 0 then (some σ.1, σ.2.2.1.2) else (σ.2.2.1.1, some σ.1)).1
    by_cases hz : c = 0
    · subst hz; rw [if_pos rfl, upd_s]; rfl
    · rw [if_neg hz, upd_n _ _ (by omega)]; exact a10
  · show upd bf c 1 1 = oI (if c = 0 then (some σ.1, σ.2.2.1.2) else (σ.2.2.1.1, some σ.1)).2
    by_cases hz : c = 0
    · subst hz; rw [if_pos rfl, upd_n _ _ (by omega)]; exact a11
    · obtain rfl : c = 1 := by omega
      rw [if_neg (by omega), upd_s]; rfl
  · rw [mu_n _ _ (by omega), mu_n _ _ (by omega)]; exact a12
  · rw [mu_n _ _ (by omega), mu_n _ _ (by omega)]; exact a13
  · rw [mu_n _ _ (by omega), mu_n _ _ (by omega)]; exact a16
  · rw [mu_n _ _ (by omega), mu_n _ _ (by omega)]; exact a17
  · rw [mu_n _ _ (by omega), mu_n _ _ (by omega)]; exact a18
  · exact (fB.rf.mu (by omega) (by omega)).mu (by omega) (by omega)
theorem m_resLoop {c : Nat} {sf : Nat → Int32} (hc : c ≤ 1) (h1 : h.2 b = MO b st le sp nu fl) (hr : h.2 (b + 3) = .inl (0, 108, .inl sf)) : ∀ (d k : Nat) (g : Nat → Int32), k + d = 54 → rn 103 30 [.ref b, .int (nI c), .int (nI k)] [] (aw h (b + 1) 54 g) = rn 103 59 [.ref b, .int (nI c), .int (nI 54)] [] (aw h (b + 1) 54 (bcs sf g (54 * c) 0 k 54)) := by
  intro d
  unfold MO at h1
  have f1 : ∀ g, (aw h (b + 1) 54 g).2 b = _ := fun g => aw_n (f := g) h1 (by omega)
  have f2 := aw_w h (b + 1) 54
  have f3 : ∀ g, (aw h (b + 1) 54 g).2 (b + 3) = _ := fun g => aw_n (f := g) hr (by omega)
  induction d with
  | zero =>
    intro k g hk
    obtain rfl : k = 54 := by omega
    rw [q103_30]
    simp only [q103_31, q103_33, show ¬ nI 54 < 54 by decide, ↓reduceIte]
    rw [bcs_end]
  | succ d ih =>
    intro k g hk
    have c0 : ¬ nI k < 0 := nI_pos (by omega)
    have c1 : nI k < 54 := nI_lt (b := 54) (by omega) (by decide)
    have c2 : (nI k).toNatClampNeg = k := nI_clamp (by omega)
    have c3 : k < 54 := by omega
    have e0 : (54 : Int32) * nI c = nI (54 * c) := pk_mul 54 c
    have e1 : nI (54 * c) + nI k = nI (54 * c + k) := nI_add _ _
    have d0 : ¬ nI (54 * c + k) < 0 := nI_pos (by omega)
    have d2 : (nI (54 * c + k)).toNatClampNeg = 54 * c + k := nI_clamp (by omega)
    have d3 : 54 * c + k < 108 := by omega
    rw [q103_30]
    simp only [q103_0, q103_1, q103_2, q103_3, q103_6, q103_9, q103_11, q103_12, q103_13, q103_16, q103_17, q103_18, q103_21, q103_23, q103_24, q103_25, q103_28, q103_29, q103_31, q103_33, q103_36, q103_37, q103_40, q103_41, q103_42, q103_45, q103_47, q103_48, q103_49, q103_50, q103_51, q103_52, q103_53, q103_56, q103_60, q103_63, q103_64, q103_65, rv_v, rv_n, rh_v, mu_at, isF_r, isK_r, fld_r, fset_r, gd0, gd1, gd2, gd3, gd4, gd5, gd6, gd7, gd8, gd9, gd10, gd11, gd12, gd13, inA_l, inW_l, inZ_l, inQ_l, aget_l, aset_l, qget_l, qset_l, isA_l, isA_q, alen_l, k2_i, k2_a, k2_n, k2_u, k2_l, ite_si, Option.isSome_some, List.cons_append, List.nil_append, List.length_cons, List.length_nil, Nat.reduceAdd, Nat.zero_add, Nat.reduceLT, Nat.reduceEqDiff, decide_true, decide_false, Bool.and_self, Bool.and_true, Bool.true_and, ↓reduceIte, List.set_cons_zero, List.set_cons_succ, Nat.reduceSub, Nat.add_left_cancel_iff, Nat.add_eq_left, Nat.left_eq_add, not_true_eq_false, not_false_eq_true, reduceCtorEq, i10, i01, ib10, ib01, beq_self_eq_true, eq_self, Int32.reduceLT, Int32.reduceToNatClampNeg, Int32.reduceAdd, Int32.reduceSub, Int32.reduceMul, Bool.or_true, Bool.true_or, Bool.or_false, Bool.false_or, Nat.reduceBEq, Nat.reduceMul, f1, f2, f3, c0, c1, c2, c3, e0, e1, d0, d2, d3, nI_1]
    rw [aw_aw, ih (k + 1) _ (by omega)]
    have := bcs_step sf g (54 * c) 0 c3
    rw [Nat.zero_add] at this
    rw [this]
theorem mm_rest0 (c : Int32) (hc : bw c 0 1 = 0) : mDo 103 b [.int c] σ (-2) σ := by
  refine mDo.same fun h hM => ?_
  simp only [c103, q103_0, q103_1, q103_2, q103_3, q103_6, q103_9, q103_11, q103_12, q103_13, q103_16, q103_17, q103_18, q103_21, q103_23, q103_24, q103_25, q103_28, q103_29, q103_30, q103_31, q103_33, q103_36, q103_37, q103_40, q103_41, q103_42, q103_45, q103_47, q103_48, q103_49, q103_50, q103_51, q103_52, q103_53, q103_56, q103_59, q103_60, q103_63, q103_64, q103_65, rv_v, rv_n, rh_v, mu_at, isF_r, isK_r, fld_r, fset_r, gd0, gd1, gd2, gd3, gd4, gd5, gd6, gd7, gd8, gd9, gd10, gd11, gd12, gd13, inA_l, inW_l, inZ_l, inQ_l, aget_l, aset_l, qget_l, qset_l, isA_l, isA_q, alen_l, k2_i, k2_a, k2_n, k2_u, k2_l, ite_si, Option.isSome_some, List.cons_append, List.nil_append, List.length_cons, List.length_nil, Nat.reduceAdd, Nat.zero_add, Nat.reduceLT, Nat.reduceEqDiff, decide_true, decide_false, Bool.and_self, Bool.and_true, Bool.true_and, ↓reduceIte, List.set_cons_zero, List.set_cons_succ, Nat.reduceSub, Nat.add_left_cancel_iff, Nat.add_eq_left, Nat.left_eq_add, not_true_eq_false, not_false_eq_true, reduceCtorEq, i10, i01, ib10, ib01, beq_self_eq_true, eq_self, Int32.reduceLT, Int32.reduceToNatClampNeg, Int32.reduceAdd, Int32.reduceSub, Int32.reduceMul, Bool.or_true, Bool.true_or, Bool.or_false, Bool.false_or, Nat.reduceBEq, Nat.reduceMul, m_in, if_pos hc]
def getS (s : Option Row × Option Row) (c : Nat) : Option Row := if c = 0 then s.1 else s.2
theorem mm_rest1 {c : Nat} (hc : c ≤ 1) (hs : getS σ.2.2.1 c = none) : mDo 103 b [.int (nI c)] σ (-5) σ := by
  refine mDo.same fun h hM => ?_
  obtain ⟨sp, nu, fl, hf, sf, bf, asd, pf, mn, rs, ts, a1, a2, a3, a4, a5, a6, a7, a8, a9, a10, a11, a12, a13, a14, a15, a16, a17, a18⟩ := hM
  have hb : ¬ bw (nI c) 0 1 = 0 := by
    rw [show (0 : Int32) = nI 0 from rfl, show (1 : Int32) = nI 1 from rfl, bwY (by omega) hc (by decide)]
    decide
  have c0 : ¬ nI c < 0 := nI_pos (by omega)
  have c2 : (nI c).toNatClampNeg = c := nI_clamp (by omega)
  have c3 : c < 2 := by omega
  have hbf : bf c = 0 := by
    unfold getS at hs
    by_cases hz : c = 0
    · subst hz; rw [if_pos rfl] at hs; rw [a10, hs]; rfl
    · obtain rfl : c = 1 := by omega
      rw [if_neg hz] at hs; rw [a11, hs]; rfl
  unfold MO at a1
  simp only [c103, q103_0, q103_1, q103_2, q103_3, q103_6, q103_9, q103_11, q103_12, q103_13, q103_16, q103_17, q103_18, q103_21, q103_23, q103_24, q103_25, q103_28, q103_29, q103_30, q103_31, q103_33, q103_36, q103_37, q103_40, q103_41, q103_42, q103_45, q103_47, q103_48, q103_49, q103_50, q103_51, q103_52, q103_53, q103_56, q103_59, q103_60, q103_63, q103_64, q103_65, rv_v, rv_n, rh_v, mu_at, isF_r, isK_r, fld_r, fset_r, gd0, gd1, gd2, gd3, gd4, gd5, gd6, gd7, gd8, gd9, gd10, gd11, gd12, gd13, inA_l, inW_l, inZ_l, inQ_l, aget_l, aset_l, qget_l, qset_l, isA_l, isA_q, alen_l, k2_i, k2_a, k2_n, k2_u, k2_l, ite_si, Option.isSome_some, List.cons_append, List.nil_append, List.length_cons, List.length_nil, Nat.reduceAdd, Nat.zero_add, Nat.reduceLT, Nat.reduceEqDiff, decide_true, decide_false, Bool.and_self, Bool.and_true, Bool.true_and, ↓reduceIte, List.set_cons_zero, List.set_cons_succ, Nat.reduceSub, Nat.add_left_cancel_iff, Nat.add_eq_left, Nat.left_eq_add, not_true_eq_false, not_false_eq_true, reduceCtorEq, i10, i01, ib10, ib01, beq_self_eq_true, eq_self, Int32.reduceLT, Int32.reduceToNatClampNeg, Int32.reduceAdd, Int32.reduceSub, Int32.reduceMul, Bool.or_true, Bool.true_or, Bool.or_false, Bool.false_or, Nat.reduceBEq, Nat.reduceMul, m_in, if_neg hb, a1, a9, c0, c2, c3, hbf]
theorem mm_rest2 {c : Nat} {x : Row} (hc : c ≤ 1) (hs : getS σ.2.2.1 c = some x) (hM : MM h.2 b σ) : ∃ (m' : xM) (r' : Row), cl 103 [.ref b, .int (nI c)] h = some (some (.int (r' 3)), (h.1, m')) ∧ REq r' x ∧ MM m' b (r', pushH σ.2.1 σ.1, σ.2.2) ∧ fB b h.2 m' := by
  obtain ⟨m1, er, hM1, hB1⟩ := mm_record hM
  have hM0 := hM
  obtain ⟨sp, nu, fl, hf, sf, bf, asd, pf, mn, rs, ts, a1, a2, a3, a4, a5, a6, a7, a8, a9, a10, a11, a12, a13, a14, a15, a16, a17, a18⟩ := hM
  have hb : ¬ bw (nI c) 0 1 = 0 := by
    rw [show (0 : Int32) = nI 0 from rfl, show (1 : Int32) = nI 1 from rfl, bwY (by omega) hc (by decide)]
    decide
  have c0 : ¬ nI c < 0 := nI_pos (by omega)
  have c2 : (nI c).toNatClampNeg = c := nI_clamp (by omega)
  have c3 : c < 2 := by omega
  have hbf : ¬ bf c = 0 := by
    unfold getS at hs
    by_cases hz : c = 0
    · subst hz; rw [if_pos rfl] at hs; rw [a10, hs]; show ¬ (1 : Int32) = 0; decide
    · obtain rfl : c = 1 := by omega
      rw [if_neg hz] at hs; rw [a11, hs]; show ¬ (1 : Int32) = 0; decide
  unfold MO at a1
  have hM1' := hM1
  obtain ⟨sp1, nu1, fl1, hf1, sf1, bf1, asd1, pf1, mn1, rs1, ts1, b1, b2, b3, b4, b5, b6, b7, b8, b9, b10, b11, b12, b13, b14, b15, b16, b17, b18⟩ := hM1
  have k2 := m_resLoop (h := (h.1, m1)) hc b1 b6 54 0 σ.1 (by omega)
  rw [show nI 0 = 0 from rfl, aw_eq (h := (h.1, m1)) b3] at k2
  have b1' := b1
  unfold MO at b1'
  have f1 : ∀ G, (aw (h.1, m1) (b + 1) 54 G).2 b = _ := fun G => aw_n (h := (h.1, m1)) (f := G) b1' (by omega)
  have f2 := aw_w (h.1, m1) (b + 1) 54
  refine ⟨mu m1 (b + 1) (.inl (0, 54, .inl (bcs sf1 σ.1 (54 * c) 0 0 54))), bcs sf1 σ.1 (54 * c) 0 0 54, ?_, ?_, hM1'.row _, hB1.mu (by omega) (by omega)⟩
  · simp only [c103, q103_0, q103_1, q103_2, q103_3, q103_6, q103_9, q103_11, q103_12, q103_13, q103_16, q103_17, q103_18, q103_21, q103_23, q103_24, q103_25, q103_28, q103_29, q103_31, q103_33, q103_36, q103_37, q103_40, q103_41, q103_42, q103_45, q103_47, q103_48, q103_49, q103_50, q103_51, q103_52, q103_53, q103_56, q103_60, q103_63, q103_64, q103_65, rv_v, rv_n, rh_v, mu_at, isF_r, isK_r, fld_r, fset_r, gd0, gd1, gd2, gd3, gd4, gd5, gd6, gd7, gd8, gd9, gd10, gd11, gd12, gd13, inA_l, inW_l, inZ_l, inQ_l, aget_l, aset_l, qget_l, qset_l, isA_l, isA_q, alen_l, k2_i, k2_a, k2_n, k2_u, k2_l, ite_si, Option.isSome_some, List.cons_append, List.nil_append, List.length_cons, List.length_nil, Nat.reduceAdd, Nat.zero_add, Nat.reduceLT, Nat.reduceEqDiff, decide_true, decide_false, Bool.and_self, Bool.and_true, Bool.true_and, ↓reduceIte, List.set_cons_zero, List.set_cons_succ, Nat.reduceSub, Nat.add_left_cancel_iff, Nat.add_eq_left, Nat.left_eq_add, not_true_eq_false, not_false_eq_true, reduceCtorEq, i10, i01, ib10, ib01, beq_self_eq_true, eq_self, Int32.reduceLT, Int32.reduceToNatClampNeg, Int32.reduceAdd, Int32.reduceSub, Int32.reduceMul, Bool.or_true, Bool.true_or, Bool.or_false, Bool.false_or, Nat.reduceBEq, Nat.reduceMul, m_in, if_neg hb, a1, a9, c0, c2, c3, if_neg hbf, er, k2]
    simp only [q103_0, q103_1, q103_2, q103_3, q103_6, q103_9, q103_11, q103_12, q103_13, q103_16, q103_17, q103_18, q103_21, q103_23, q103_24, q103_25, q103_28, q103_29, q103_31, q103_33, q103_36, q103_37, q103_40, q103_41, q103_42, q103_45, q103_47, q103_48, q103_49, q103_50, q103_51, q103_52, q103_53, q103_56, q103_59, q103_60, q103_63, q103_64, q103_65, rv_v, rv_n, rh_v, mu_at, isF_r, isK_r, fld_r, fset_r, gd0, gd1, gd2, gd3, gd4, gd5, gd6, gd7, gd8, gd9, gd10, gd11, gd12, gd13, inA_l, inW_l, inZ_l, inQ_l, aget_l, aset_l, qget_l, qset_l, isA_l, isA_q, alen_l, k2_i, k2_a, k2_n, k2_u, k2_l, ite_si, Option.isSome_some, List.cons_append, List.nil_append, List.length_cons, List.length_nil, Nat.reduceAdd, Nat.zero_add, Nat.reduceLT, Nat.reduceEqDiff, decide_true, decide_false, Bool.and_self, Bool.and_true, Bool.true_and, ↓reduceIte, List.set_cons_zero, List.set_cons_succ, Nat.reduceSub, Nat.add_left_cancel_iff, Nat.add_eq_left, Nat.left_eq_add, not_true_eq_false, not_false_eq_true, reduceCtorEq, i10, i01, ib10, ib01, beq_self_eq_true, eq_self, Int32.reduceLT, Int32.reduceToNatClampNeg, Int32.reduceAdd, Int32.reduceSub, Int32.reduceMul, Bool.or_true, Bool.true_or, Bool.or_false, Bool.false_or, Nat.reduceBEq, Nat.reduceMul, f1, f2]
    rfl
  · intro k hk
    show bcs sf1 σ.1 (54 * c) 0 0 54 k = x k
    unfold bcs
    rw [if_pos (by omega), Nat.sub_zero]
    unfold getS at hs
    by_cases hz : c = 0
    · subst hz
      rw [if_pos rfl] at hs
      rw [show 54 * 0 + k = k by omega]
      exact b7 x hs k hk
    · obtain rfl : c = 1 := by omega
      rw [if_neg hz] at hs
      exact b8 x hs k hk
end
