section
variable {k a S u0 u1 : Nat} {z : Nat × Nat} {m : xM} {σ : AS} {rf tf pf bf cf nf : Nat → Int32}
/-- which setting, which value -/
theorem p_setsV (x : Int32) : ∃ (W V : Nat), ((W = 0 ∧ 2 ≤ V ∧ V ≤ 60) ∨ (W = 1 ∧ 20 ≤ V ∧ V ≤ 400) ∨ (W = 2 ∧ V ≤ 9)) ∧ cl 86 [.ref a, .ref (a + 86), .ref (a + 87), .int x] (z, m) = rn 86 80 [.ref a, .ref (a + 86), .ref (a + 87), .int x, .int (nI W), .int (nI V), unk, unk] [] (z, m) := by
  have w1 := p_low x (D := 3) (d := 3) (by omega) (by omega) rfl (z, m)
  have w2 := p_low (x >>> (2 &&& 31)) (D := 59) (d := 59) (by omega) (by omega) rfl (z, m)
  have w3 := p_low (x >>> (2 &&& 31)) (D := 2) (d := 2) (by omega) (by omega) rfl (z, m)
  have w4 := p_low (x >>> (3 &&& 31)) (D := 381) (d := 381) (by omega) (by omega) rfl (z, m)
  have w5 := p_low (x >>> (3 &&& 31)) (D := 100) (d := 100) (by omega) (by omega) rfl (z, m)
  have w6 := p_low (x >>> (2 &&& 31)) (D := 10) (d := 10) (by omega) (by omega) rfl (z, m)
  have h1 := lw_lt x (show 0 < 3 by omega)
  have h2 := lw_lt (x >>> (2 &&& 31)) (show 0 < 59 by omega)
  have h3 := lw_lt (x >>> (2 &&& 31)) (show 0 < 2 by omega)
  have h4 := lw_lt (x >>> (3 &&& 31)) (show 0 < 381 by omega)
  have h5 := lw_lt (x >>> (3 &&& 31)) (show 0 < 100 by omega)
  have h6 := lw_lt (x >>> (2 &&& 31)) (show 0 < 10 by omega)
  generalize lw x 3 = X1 at *
  generalize lw (x >>> (2 &&& 31)) 59 = X2 at *
  generalize lw (x >>> (2 &&& 31)) 2 = X3 at *
  generalize lw (x >>> (3 &&& 31)) 381 = X4 at *
  generalize lw (x >>> (3 &&& 31)) 100 = X5 at *
  generalize lw (x >>> (2 &&& 31)) 10 = X6 at *
  have e2 : (2 : Int32) + nI X2 = nI (2 + X2) := nI_add 2 _
  have e4 : (20 : Int32) + nI X4 = nI (20 + X4) := nI_add 20 _
  have e5 : (60 : Int32) + nI X5 = nI (60 + X5) := nI_add 60 _
  by_cases hz : X1 = 0
  · subst hz
    rw [show nI 0 = 0 from rfl] at w1
    refine ⟨0, 2 + X2, Or.inl ⟨rfl, by omega, by omega⟩, ?_⟩
    rw [show nI 0 = 0 from rfl]
    simp only [c86, q86_0, q86_1, q86_2, q86_5, q86_7, q86_9, q86_12, q86_13, q86_14, q86_15, q86_16, q86_18, q86_21, q86_22, q86_25, q86_27, q86_28, q86_31, q86_32, q86_33, q86_34, q86_35, q86_38, q86_41, q86_43, q86_44, q86_45, q86_46, q86_49, q86_52, q86_53, q86_56, q86_58, q86_59, q86_60, q86_61, q86_63, q86_66, q86_67, q86_70, q86_71, q86_72, q86_73, q86_75, q86_78, rv_v, rv_n, rh_v, mu_at, isF_r, isK_r, fld_r, fset_r, gd0, gd1, gd2, gd3, gd4, gd5, gd6, gd7, gd8, gd9, gd10, gd11, gd12, gd13, inA_l, inW_l, inZ_l, inQ_l, aget_l, aset_l, qget_l, qset_l, isA_l, isA_q, alen_l, k2_i, k2_a, k2_n, k2_u, k2_l, ite_si, Option.isSome_some, List.cons_append, List.nil_append, List.length_cons, List.length_nil, Nat.reduceAdd, Nat.zero_add, Nat.reduceLT, Nat.reduceEqDiff, decide_true, decide_false, Bool.and_self, Bool.and_true, Bool.true_and, ↓reduceIte, List.set_cons_zero, List.set_cons_succ, Nat.reduceSub, Nat.add_left_cancel_iff, Nat.add_eq_left, Nat.left_eq_add, not_true_eq_false, not_false_eq_true, reduceCtorEq, i10, i01, ib10, ib01, beq_self_eq_true, eq_self, Int32.reduceLT, Int32.reduceToNatClampNeg, Int32.reduceAdd, Int32.reduceSub, Int32.reduceMul, Bool.or_true, Bool.true_or, Bool.or_false, Bool.false_or, Nat.reduceBEq, Nat.reduceMul, w1, w2, e2]
  · by_cases hy : X1 = 1
    · subst hy
      rw [show nI 1 = 1 from rfl] at w1
      by_cases hx : X3 = 0
      · subst hx
        rw [show nI 0 = 0 from rfl] at w3
        refine ⟨1, 20 + X4, Or.inr (Or.inl ⟨rfl, by omega, by omega⟩), ?_⟩
        rw [show nI 1 = 1 from rfl]
        simp only [c86, q86_0, q86_1, q86_2, q86_5, q86_7, q86_9, q86_12, q86_13, q86_14, q86_15, q86_16, q86_18, q86_21, q86_22, q86_25, q86_27, q86_28, q86_31, q86_32, q86_33, q86_34, q86_35, q86_38, q86_41, q86_43, q86_44, q86_45, q86_46, q86_49, q86_52, q86_53, q86_56, q86_58, q86_59, q86_60, q86_61, q86_63, q86_66, q86_67, q86_70, q86_71, q86_72, q86_73, q86_75, q86_78, rv_v, rv_n, rh_v, mu_at, isF_r, isK_r, fld_r, fset_r, gd0, gd1, gd2, gd3, gd4, gd5, gd6, gd7, gd8, gd9, gd10, gd11, gd12, gd13, inA_l, inW_l, inZ_l, inQ_l, aget_l, aset_l, qget_l, qset_l, isA_l, isA_q, alen_l, k2_i, k2_a, k2_n, k2_u, k2_l, ite_si, Option.isSome_some, List.cons_append, List.nil_append, List.length_cons, List.length_nil, Nat.reduceAdd, Nat.zero_add, Nat.reduceLT, Nat.reduceEqDiff, decide_true, decide_false, Bool.and_self, Bool.and_true, Bool.true_and, ↓reduceIte, List.set_cons_zero, List.set_cons_succ, Nat.reduceSub, Nat.add_left_cancel_iff, Nat.add_eq_left, Nat.left_eq_add, not_true_eq_false, not_false_eq_true, reduceCtorEq, i10, i01, ib10, ib01, beq_self_eq_true, eq_self, Int32.reduceLT, Int32.reduceToNatClampNeg, Int32.reduceAdd, Int32.reduceSub, Int32.reduceMul, Bool.or_true, Bool.true_or, Bool.or_false, Bool.false_or, Nat.reduceBEq, Nat.reduceMul, w1, w3, w4, e4]
      · have c3 : ¬ nI X3 = 0 := nI_ne0 (by omega) (by omega)
        refine ⟨1, 60 + X5, Or.inr (Or.inl ⟨rfl, by omega, by omega⟩), ?_⟩
        rw [show nI 1 = 1 from rfl]
        simp only [c86, q86_0, q86_1, q86_2, q86_5, q86_7, q86_9, q86_12, q86_13, q86_14, q86_15, q86_16, q86_18, q86_21, q86_22, q86_25, q86_27, q86_28, q86_31, q86_32, q86_33, q86_34, q86_35, q86_38, q86_41, q86_43, q86_44, q86_45, q86_46, q86_49, q86_52, q86_53, q86_56, q86_58, q86_59, q86_60, q86_61, q86_63, q86_66, q86_67, q86_70, q86_71, q86_72, q86_73, q86_75, q86_78, rv_v, rv_n, rh_v, mu_at, isF_r, isK_r, fld_r, fset_r, gd0, gd1, gd2, gd3, gd4, gd5, gd6, gd7, gd8, gd9, gd10, gd11, gd12, gd13, inA_l, inW_l, inZ_l, inQ_l, aget_l, aset_l, qget_l, qset_l, isA_l, isA_q, alen_l, k2_i, k2_a, k2_n, k2_u, k2_l, ite_si, Option.isSome_some, List.cons_append, List.nil_append, List.length_cons, List.length_nil, Nat.reduceAdd, Nat.zero_add, Nat.reduceLT, Nat.reduceEqDiff, decide_true, decide_false, Bool.and_self, Bool.and_true, Bool.true_and, ↓reduceIte, List.set_cons_zero, List.set_cons_succ, Nat.reduceSub, Nat.add_left_cancel_iff, Nat.add_eq_left, Nat.left_eq_add, not_true_eq_false, not_false_eq_true, reduceCtorEq, i10, i01, ib10, ib01, beq_self_eq_true, eq_self, Int32.reduceLT, Int32.reduceToNatClampNeg, Int32.reduceAdd, Int32.reduceSub, Int32.reduceMul, Bool.or_true, Bool.true_or, Bool.or_false, Bool.false_or, Nat.reduceBEq, Nat.reduceMul, w1, w3, if_neg c3, w5, e5]
    · obtain rfl : X1 = 2 := by omega
      rw [show nI 2 = 2 from rfl] at w1
      refine ⟨2, X6, Or.inr (Or.inr ⟨rfl, by omega⟩), ?_⟩
      rw [show nI 2 = 2 from rfl]
      simp only [c86, q86_0, q86_1, q86_2, q86_5, q86_7, q86_9, q86_12, q86_13, q86_14, q86_15, q86_16, q86_18, q86_21, q86_22, q86_25, q86_27, q86_28, q86_31, q86_32, q86_33, q86_34, q86_35, q86_38, q86_41, q86_43, q86_44, q86_45, q86_46, q86_49, q86_52, q86_53, q86_56, q86_58, q86_59, q86_60, q86_61, q86_63, q86_66, q86_67, q86_70, q86_71, q86_72, q86_73, q86_75, q86_78, rv_v, rv_n, rh_v, mu_at, isF_r, isK_r, fld_r, fset_r, gd0, gd1, gd2, gd3, gd4, gd5, gd6, gd7, gd8, gd9, gd10, gd11, gd12, gd13, inA_l, inW_l, inZ_l, inQ_l, aget_l, aset_l, qget_l, qset_l, isA_l, isA_q, alen_l, k2_i, k2_a, k2_n, k2_u, k2_l, ite_si, Option.isSome_some, List.cons_append, List.nil_append, List.length_cons, List.length_nil, Nat.reduceAdd, Nat.zero_add, Nat.reduceLT, Nat.reduceEqDiff, decide_true, decide_false, Bool.and_self, Bool.and_true, Bool.true_and, ↓reduceIte, List.set_cons_zero, List.set_cons_succ, Nat.reduceSub, Nat.add_left_cancel_iff, Nat.add_eq_left, Nat.left_eq_add, not_true_eq_false, not_false_eq_true, reduceCtorEq, i10, i01, ib10, ib01, beq_self_eq_true, eq_self, Int32.reduceLT, Int32.reduceToNatClampNeg, Int32.reduceAdd, Int32.reduceSub, Int32.reduceMul, Bool.or_true, Bool.true_or, Bool.or_false, Bool.false_or, Nat.reduceBEq, Nat.reduceMul, w1, z2_0, z2_1, w6]
theorem upd_id (f : Nat → Int32) (i : Nat) : upd f i (f i) = f := by
  funext j
  by_cases hz : j = i
  · rw [hz, upd_s]
  · rw [upd_n _ _ hz]
/-- from the value on: refused -/
theorem p_setsN {W V : Nat} {x : Int32} (hW : W < 3) (hC : CC m a σ) (hw : wl6 m a rf tf pf bf cf nf) (hQ : wlQ k S u0 u1 σ.1 rf tf pf bf cf nf) (hc : cDo 49 a [.int (nI W), .int (nI V)] σ (-5) σ) (hst : rn 86 80 [.ref a, .ref (a + 86), .ref (a + 87), .int x, .int (nI W), .int (nI V), unk, unk] [] (z, m) = rn 86 126 [.ref a, .ref (a + 86), .ref (a + 87), .int x, .int (nI W), .int (nI V), .int 1, unk] [] (z, m)) : wlD k a z m (rn 86 80 [.ref a, .ref (a + 86), .ref (a + 87), .int x, .int (nI W), .int (nI V), unk, unk] [] (z, m)) := by
  rw [hst]
  obtain ⟨er, et, ep, eb, ec, en⟩ := hw
  have hw : wl6 m a rf tf pf bf cf nf := ⟨er, et, ep, eb, ec, en⟩
  have k1 := hC.1
  unfold CO at k1
  have i0 : ¬ nI W < 0 := nI_pos (by omega)
  have i1 : (nI W).toNatClampNeg = W := nI_clamp (by omega)
  have i2 : W < 4 := by omega
  have hid : mu m (a + 87) (.inl (0, 4, .inl (upd nf W (nf W)))) = m := by
    rw [upd_id]
    funext y
    by_cases hy : y = a + 87
    · rw [hy, mu_s]; exact en.symm
    · rw [mu_n _ _ hy]
  obtain ⟨m1, e, g1, g2⟩ := hc (z, m) hC
  refine wlD.of (hw.fr (fun y q1 q2 => g2 y (by omega))) g1 hQ.nx ?_ (fun y hy => g2 y (by omega))
  simp only [q86_126, q86_126N, q86_127, q86_129, q86_130, q86_132, q86_132N, q86_133, q86_135, q86_137, q86_140, q86_142, q86_145, q86_147, q86_148, q86_148N, q86_149, q86_151, q86_153, q86_156, q86_158, q86_161, q86_163, q86_166, q86_168, q86_171, q86_172, q86_175, q86_176, rv_v, rv_n, rh_v, mu_at, isF_r, isK_r, fld_r, fset_r, gd0, gd1, gd2, gd3, gd4, gd5, gd6, gd7, gd8, gd9, gd10, gd11, gd12, gd13, inA_l, inW_l, inZ_l, inQ_l, aget_l, aset_l, qget_l, qset_l, isA_l, isA_q, alen_l, k2_i, k2_a, k2_n, k2_u, k2_l, ite_si, Option.isSome_some, List.cons_append, List.nil_append, List.length_cons, List.length_nil, Nat.reduceAdd, Nat.zero_add, Nat.reduceLT, Nat.reduceEqDiff, decide_true, decide_false, Bool.and_self, Bool.and_true, Bool.true_and, ↓reduceIte, List.set_cons_zero, List.set_cons_succ, Nat.reduceSub, Nat.add_left_cancel_iff, Nat.add_eq_left, Nat.left_eq_add, not_true_eq_false, not_false_eq_true, reduceCtorEq, i10, i01, ib10, ib01, beq_self_eq_true, eq_self, Int32.reduceLT, Int32.reduceToNatClampNeg, Int32.reduceAdd, Int32.reduceSub, Int32.reduceMul, Bool.or_true, Bool.true_or, Bool.or_false, Bool.false_or, Nat.reduceBEq, Nat.reduceMul, en, i0, i1, i2, hid, k1, e]
/-- done -/
theorem p_setsY {W V : Nat} {x : Int32} {r' : Row} (hW : W < 3) (hC : CC m a σ) (hw : wl6 m a rf tf pf bf cf nf) (hQ : wlQ (k + 1) S u0 u1 r' rf tf pf bf cf (upd nf W (nI V))) (hn : nf W = σ.1 W) (hc : cDo 49 a [.int (nI W), .int (nI V)] σ (σ.1 W) (chg σ (some r'))) (hst : rn 86 80 [.ref a, .ref (a + 86), .ref (a + 87), .int x, .int (nI W), .int (nI V), unk, unk] [] (z, m) = rn 86 126 [.ref a, .ref (a + 86), .ref (a + 87), .int x, .int (nI W), .int (nI V), .int 0, unk] [] (z, m)) : wlD k a z m (rn 86 80 [.ref a, .ref (a + 86), .ref (a + 87), .int x, .int (nI W), .int (nI V), unk, unk] [] (z, m)) := by
  rw [hst]
  obtain ⟨er, et, ep, eb, ec, en⟩ := hw
  have k1 := hC.1
  unfold CO at k1
  have i0 : ¬ nI W < 0 := nI_pos (by omega)
  have i1 : (nI W).toNatClampNeg = W := nI_clamp (by omega)
  have i2 : W < 4 := by omega
  have hf : ∀ y, (y < a + 82 ∨ a + 88 ≤ y) → mu m (a + 87) (.inl (0, 4, .inl (upd nf W (nI V)))) y = m y := fun y hy => mu_n _ _ (by omega)
  have hW6 : wl6 (mu m (a + 87) (.inl (0, 4, .inl (upd nf W (nI V))))) a rf tf pf bf cf (upd nf W (nI V)) := by
    refine ⟨?_, ?_, ?_, ?_, ?_, mu_s _ _ _⟩
    · rw [mu_n _ _ (by omega)]; exact er
    · rw [mu_n _ _ (by omega)]; exact et
    · rw [mu_n _ _ (by omega)]; exact ep
    · rw [mu_n _ _ (by omega)]; exact eb
    · rw [mu_n _ _ (by omega)]; exact ec
  obtain ⟨m1, e, g1, g2⟩ := hc (z, mu m (a + 87) (.inl (0, 4, .inl (upd nf W (nI V))))) (hC.fr (fun y q1 q2 => hf y (by omega)))
  have y1 : ¬ a = a + 87 := by omega
  refine wlD.of (hW6.fr (m' := m1) (fun y q1 q2 => g2 y (by omega))) g1 hQ ?_ (fun y hy => (g2 y (by omega)).trans (hf y (by omega)))
  simp only [q86_126, q86_126N, q86_127, q86_129, q86_130, q86_132, q86_132N, q86_133, q86_135, q86_137, q86_140, q86_142, q86_145, q86_147, q86_148, q86_148N, q86_149, q86_151, q86_153, q86_156, q86_158, q86_161, q86_163, q86_166, q86_168, q86_171, q86_172, q86_175, q86_176, rv_v, rv_n, rh_v, mu_at, isF_r, isK_r, fld_r, fset_r, gd0, gd1, gd2, gd3, gd4, gd5, gd6, gd7, gd8, gd9, gd10, gd11, gd12, gd13, inA_l, inW_l, inZ_l, inQ_l, aget_l, aset_l, qget_l, qset_l, isA_l, isA_q, alen_l, k2_i, k2_a, k2_n, k2_u, k2_l, ite_si, Option.isSome_some, List.cons_append, List.nil_append, List.length_cons, List.length_nil, Nat.reduceAdd, Nat.zero_add, Nat.reduceLT, Nat.reduceEqDiff, decide_true, decide_false, Bool.and_self, Bool.and_true, Bool.true_and, ↓reduceIte, List.set_cons_zero, List.set_cons_succ, Nat.reduceSub, Nat.add_left_cancel_iff, Nat.add_eq_left, Nat.left_eq_add, not_true_eq_false, not_false_eq_true, reduceCtorEq, i10, i01, ib10, ib01, beq_self_eq_true, eq_self, Int32.reduceLT, Int32.reduceToNatClampNeg, Int32.reduceAdd, Int32.reduceSub, Int32.reduceMul, Bool.or_true, Bool.true_or, Bool.or_false, Bool.false_or, Nat.reduceBEq, Nat.reduceMul, en, i0, i1, i2, hn, k1, y1, e]
theorem p_sets (hk : k < 900) (x : Int32) (hC : CC m a σ) (hw : wl6 m a rf tf pf bf cf nf) (hQ : wlQ k S u0 u1 σ.1 rf tf pf bf cf nf) : wlD k a z m (cl 86 [.ref a, .ref (a + 86), .ref (a + 87), .int x] (z, m)) := by
  obtain ⟨W, V, hWV, e⟩ := p_setsV (a := a) (z := z) (m := m) x
  rw [e]
  have hQ0 := hQ
  obtain ⟨hI, ⟨h3, h45, h50, hS, hu⟩, hc, ⟨n0, n1, n2, n3⟩, hrt, hp, hcar, z0, z1⟩ := hQ
  have ec := hw.2.2.2.2.1
  have c0 := hc.1
  have c3 := hc.2.2.2.1
  have c6 := hc.2.2.2.2.2.1
  have c9 := hc.2.2.2.2.2.2.2.2.1
  have hpc := hI.pcs (by omega)
  obtain ⟨p0, p1, R, O, b0, b1, l0, l1, e47, e52, eR, eO, e44, e49, e46, e51, f1, f2, r2, r60, o1, o2, f3, f4, f5, f6⟩ := hI.all
  have hz : ¬ (0 < σ.1 47 ∨ 0 < σ.1 52) → σ.1 47 = 0 ∧ σ.1 52 = 0 := by
    intro q
    rw [e47, e52] at q ⊢
    constructor
    · exact Classical.byContradiction fun y => q (Or.inl ((nI_p (by omega)).mpr y))
    · exact Classical.byContradiction fun y => q (Or.inr ((nI_p (by omega)).mpr y))
  have l02 : (0 : Int32) < 2 := by decide
  have l12 : (1 : Int32) < 2 := by decide
  have l22 : ¬ (2 : Int32) < 2 := by decide
  rcases hWV with ⟨rfl, v1, v2⟩ | ⟨rfl, v1, v2⟩ | ⟨rfl, v2⟩
  · have hv : ¬ bw (nI V) 2 60 = 0 := bw_in (a := 2) (c := 60) rfl rfl v1 v2 (by omega)
    by_cases hp : 0 < σ.1 47 + σ.1 52
    · refine p_setsN (by omega) hC hw hQ0 (c_set 0 (nI V) (Or.inl ⟨rfl, c_rep1 (nI V) hv (Or.inl (hpc.mp hp))⟩)) ?_
      rw [show nI 0 = 0 from rfl]
      simp only [q86_80, q86_82, q86_83, q86_86, q86_86N, q86_87, q86_88, q86_89, q86_89N, q86_90, q86_92, q86_93, q86_94, q86_97, q86_99, q86_102, q86_102N, q86_103, q86_104, q86_105, q86_107, q86_110, q86_110N, q86_111, q86_113, q86_114, q86_116, q86_119, q86_120, q86_123, q86_124, rv_v, rv_n, rh_v, mu_at, isF_r, isK_r, fld_r, fset_r, gd0, gd1, gd2, gd3, gd4, gd5, gd6, gd7, gd8, gd9, gd10, gd11, gd12, gd13, inA_l, inW_l, inZ_l, inQ_l, aget_l, aset_l, qget_l, qset_l, isA_l, isA_q, alen_l, k2_i, k2_a, k2_n, k2_u, k2_l, ite_si, Option.isSome_some, List.cons_append, List.nil_append, List.length_cons, List.length_nil, Nat.reduceAdd, Nat.zero_add, Nat.reduceLT, Nat.reduceEqDiff, decide_true, decide_false, Bool.and_self, Bool.and_true, Bool.true_and, ↓reduceIte, List.set_cons_zero, List.set_cons_succ, Nat.reduceSub, Nat.add_left_cancel_iff, Nat.add_eq_left, Nat.left_eq_add, not_true_eq_false, not_false_eq_true, reduceCtorEq, i10, i01, ib10, ib01, beq_self_eq_true, eq_self, Int32.reduceLT, Int32.reduceToNatClampNeg, Int32.reduceAdd, Int32.reduceSub, Int32.reduceMul, Bool.or_true, Bool.true_or, Bool.or_false, Bool.false_or, Nat.reduceBEq, Nat.reduceMul, ec, c3, c9, if_pos hp]
    · by_cases ha : σ.1 44 < nI V
      · by_cases hb : σ.1 49 < nI V
        · have hq : ¬ (0 < σ.1 47 ∨ 0 < σ.1 52) := fun q => hp (hpc.mpr q)
          refine p_setsY (W := 0) (by omega) hC hw (hQ0.set0 v1 v2 ha hb (hz hq).1 (hz hq).2) n0 (c_set 0 (nI V) (Or.inl ⟨rfl, c_rep2 (nI V) hv hq ha hb⟩)) ?_
          rw [show nI 0 = 0 from rfl]
          simp only [q86_80, q86_82, q86_83, q86_86, q86_86N, q86_87, q86_88, q86_89, q86_89N, q86_90, q86_92, q86_93, q86_94, q86_97, q86_99, q86_102, q86_102N, q86_103, q86_104, q86_105, q86_107, q86_110, q86_110N, q86_111, q86_113, q86_114, q86_116, q86_119, q86_120, q86_123, q86_124, rv_v, rv_n, rh_v, mu_at, isF_r, isK_r, fld_r, fset_r, gd0, gd1, gd2, gd3, gd4, gd5, gd6, gd7, gd8, gd9, gd10, gd11, gd12, gd13, inA_l, inW_l, inZ_l, inQ_l, aget_l, aset_l, qget_l, qset_l, isA_l, isA_q, alen_l, k2_i, k2_a, k2_n, k2_u, k2_l, ite_si, Option.isSome_some, List.cons_append, List.nil_append, List.length_cons, List.length_nil, Nat.reduceAdd, Nat.zero_add, Nat.reduceLT, Nat.reduceEqDiff, decide_true, decide_false, Bool.and_self, Bool.and_true, Bool.true_and, ↓reduceIte, List.set_cons_zero, List.set_cons_succ, Nat.reduceSub, Nat.add_left_cancel_iff, Nat.add_eq_left, Nat.left_eq_add, not_true_eq_false, not_false_eq_true, reduceCtorEq, i10, i01, ib10, ib01, beq_self_eq_true, eq_self, Int32.reduceLT, Int32.reduceToNatClampNeg, Int32.reduceAdd, Int32.reduceSub, Int32.reduceMul, Bool.or_true, Bool.true_or, Bool.or_false, Bool.false_or, Nat.reduceBEq, Nat.reduceMul, ec, c0, c3, c6, c9, if_neg hp, if_pos ha, if_pos hb]
        · refine p_setsN (by omega) hC hw hQ0 (c_set 0 (nI V) (Or.inl ⟨rfl, c_rep1 (nI V) hv (Or.inr (Or.inr hb))⟩)) ?_
          rw [show nI 0 = 0 from rfl]
          simp only [q86_80, q86_82, q86_83, q86_86, q86_86N, q86_87, q86_88, q86_89, q86_89N, q86_90, q86_92, q86_93, q86_94, q86_97, q86_99, q86_102, q86_102N, q86_103, q86_104, q86_105, q86_107, q86_110, q86_110N, q86_111, q86_113, q86_114, q86_116, q86_119, q86_120, q86_123, q86_124, rv_v, rv_n, rh_v, mu_at, isF_r, isK_r, fld_r, fset_r, gd0, gd1, gd2, gd3, gd4, gd5, gd6, gd7, gd8, gd9, gd10, gd11, gd12, gd13, inA_l, inW_l, inZ_l, inQ_l, aget_l, aset_l, qget_l, qset_l, isA_l, isA_q, alen_l, k2_i, k2_a, k2_n, k2_u, k2_l, ite_si, Option.isSome_some, List.cons_append, List.nil_append, List.length_cons, List.length_nil, Nat.reduceAdd, Nat.zero_add, Nat.reduceLT, Nat.reduceEqDiff, decide_true, decide_false, Bool.and_self, Bool.and_true, Bool.true_and, ↓reduceIte, List.set_cons_zero, List.set_cons_succ, Nat.reduceSub, Nat.add_left_cancel_iff, Nat.add_eq_left, Nat.left_eq_add, not_true_eq_false, not_false_eq_true, reduceCtorEq, i10, i01, ib10, ib01, beq_self_eq_true, eq_self, Int32.reduceLT, Int32.reduceToNatClampNeg, Int32.reduceAdd, Int32.reduceSub, Int32.reduceMul, Bool.or_true, Bool.true_or, Bool.or_false, Bool.false_or, Nat.reduceBEq, Nat.reduceMul, ec, c0, c3, c6, c9, if_neg hp, if_pos ha, if_neg hb]
      · refine p_setsN (by omega) hC hw hQ0 (c_set 0 (nI V) (Or.inl ⟨rfl, c_rep1 (nI V) hv (Or.inr (Or.inl ha))⟩)) ?_
        rw [show nI 0 = 0 from rfl]
        simp only [q86_80, q86_82, q86_83, q86_86, q86_86N, q86_87, q86_88, q86_89, q86_89N, q86_90, q86_92, q86_93, q86_94, q86_97, q86_99, q86_102, q86_102N, q86_103, q86_104, q86_105, q86_107, q86_110, q86_110N, q86_111, q86_113, q86_114, q86_116, q86_119, q86_120, q86_123, q86_124, rv_v, rv_n, rh_v, mu_at, isF_r, isK_r, fld_r, fset_r, gd0, gd1, gd2, gd3, gd4, gd5, gd6, gd7, gd8, gd9, gd10, gd11, gd12, gd13, inA_l, inW_l, inZ_l, inQ_l, aget_l, aset_l, qget_l, qset_l, isA_l, isA_q, alen_l, k2_i, k2_a, k2_n, k2_u, k2_l, ite_si, Option.isSome_some, List.cons_append, List.nil_append, List.length_cons, List.length_nil, Nat.reduceAdd, Nat.zero_add, Nat.reduceLT, Nat.reduceEqDiff, decide_true, decide_false, Bool.and_self, Bool.and_true, Bool.true_and, ↓reduceIte, List.set_cons_zero, List.set_cons_succ, Nat.reduceSub, Nat.add_left_cancel_iff, Nat.add_eq_left, Nat.left_eq_add, not_true_eq_false, not_false_eq_true, reduceCtorEq, i10, i01, ib10, ib01, beq_self_eq_true, eq_self, Int32.reduceLT, Int32.reduceToNatClampNeg, Int32.reduceAdd, Int32.reduceSub, Int32.reduceMul, Bool.or_true, Bool.true_or, Bool.or_false, Bool.false_or, Nat.reduceBEq, Nat.reduceMul, ec, c0, c3, c6, c9, if_neg hp, if_neg ha]
  · have hv : ¬ bw (nI V) 20 400 = 0 := bw_in (a := 20) (c := 400) rfl rfl v1 v2 (by omega)
    by_cases hp : 0 < σ.1 47 + σ.1 52
    · refine p_setsN (by omega) hC hw hQ0 (c_set 1 (nI V) (Or.inr (Or.inl ⟨rfl, c_roll1 (nI V) hv (hpc.mp hp)⟩))) ?_
      rw [show nI 1 = 1 from rfl]
      simp only [q86_80, q86_82, q86_83, q86_86, q86_86N, q86_87, q86_88, q86_89, q86_89N, q86_90, q86_92, q86_93, q86_94, q86_97, q86_99, q86_102, q86_102N, q86_103, q86_104, q86_105, q86_107, q86_110, q86_110N, q86_111, q86_113, q86_114, q86_116, q86_119, q86_120, q86_123, q86_124, rv_v, rv_n, rh_v, mu_at, isF_r, isK_r, fld_r, fset_r, gd0, gd1, gd2, gd3, gd4, gd5, gd6, gd7, gd8, gd9, gd10, gd11, gd12, gd13, inA_l, inW_l, inZ_l, inQ_l, aget_l, aset_l, qget_l, qset_l, isA_l, isA_q, alen_l, k2_i, k2_a, k2_n, k2_u, k2_l, ite_si, Option.isSome_some, List.cons_append, List.nil_append, List.length_cons, List.length_nil, Nat.reduceAdd, Nat.zero_add, Nat.reduceLT, Nat.reduceEqDiff, decide_true, decide_false, Bool.and_self, Bool.and_true, Bool.true_and, ↓reduceIte, List.set_cons_zero, List.set_cons_succ, Nat.reduceSub, Nat.add_left_cancel_iff, Nat.add_eq_left, Nat.left_eq_add, not_true_eq_false, not_false_eq_true, reduceCtorEq, i10, i01, ib10, ib01, beq_self_eq_true, eq_self, Int32.reduceLT, Int32.reduceToNatClampNeg, Int32.reduceAdd, Int32.reduceSub, Int32.reduceMul, Bool.or_true, Bool.true_or, Bool.or_false, Bool.false_or, Nat.reduceBEq, Nat.reduceMul, ec, c3, c9, if_pos hp]
    · have hq : ¬ (0 < σ.1 47 ∨ 0 < σ.1 52) := fun q => hp (hpc.mpr q)
      refine p_setsY (W := 1) (by omega) hC hw (hQ0.set1 (by omega) v1 v2 (hz hq).1 (hz hq).2) n1 (c_set 1 (nI V) (Or.inr (Or.inl ⟨rfl, c_roll2 (nI V) hv hq⟩))) ?_
      rw [show nI 1 = 1 from rfl]
      simp only [q86_80, q86_82, q86_83, q86_86, q86_86N, q86_87, q86_88, q86_89, q86_89N, q86_90, q86_92, q86_93, q86_94, q86_97, q86_99, q86_102, q86_102N, q86_103, q86_104, q86_105, q86_107, q86_110, q86_110N, q86_111, q86_113, q86_114, q86_116, q86_119, q86_120, q86_123, q86_124, rv_v, rv_n, rh_v, mu_at, isF_r, isK_r, fld_r, fset_r, gd0, gd1, gd2, gd3, gd4, gd5, gd6, gd7, gd8, gd9, gd10, gd11, gd12, gd13, inA_l, inW_l, inZ_l, inQ_l, aget_l, aset_l, qget_l, qset_l, isA_l, isA_q, alen_l, k2_i, k2_a, k2_n, k2_u, k2_l, ite_si, Option.isSome_some, List.cons_append, List.nil_append, List.length_cons, List.length_nil, Nat.reduceAdd, Nat.zero_add, Nat.reduceLT, Nat.reduceEqDiff, decide_true, decide_false, Bool.and_self, Bool.and_true, Bool.true_and, ↓reduceIte, List.set_cons_zero, List.set_cons_succ, Nat.reduceSub, Nat.add_left_cancel_iff, Nat.add_eq_left, Nat.left_eq_add, not_true_eq_false, not_false_eq_true, reduceCtorEq, i10, i01, ib10, ib01, beq_self_eq_true, eq_self, Int32.reduceLT, Int32.reduceToNatClampNeg, Int32.reduceAdd, Int32.reduceSub, Int32.reduceMul, Bool.or_true, Bool.true_or, Bool.or_false, Bool.false_or, Nat.reduceBEq, Nat.reduceMul, ec, c3, c9, if_neg hp]
  · have hv : ¬ bw (nI V) 0 9 = 0 := bw_in (a := 0) (c := 9) rfl rfl (by omega) v2 (by omega)
    refine p_setsY (W := 2) (by omega) hC hw (hQ0.set2 v2) n2 (c_set 2 (nI V) (Or.inr (Or.inr ⟨rfl, c_slack2 (nI V) hv⟩))) ?_
    rw [show nI 2 = 2 from rfl]
    simp only [q86_80, q86_82, q86_83, q86_86, q86_86N, q86_87, q86_88, q86_89, q86_89N, q86_90, q86_92, q86_93, q86_94, q86_97, q86_99, q86_102, q86_102N, q86_103, q86_104, q86_105, q86_107, q86_110, q86_110N, q86_111, q86_113, q86_114, q86_116, q86_119, q86_120, q86_123, q86_124, rv_v, rv_n, rh_v, mu_at, isF_r, isK_r, fld_r, fset_r, gd0, gd1, gd2, gd3, gd4, gd5, gd6, gd7, gd8, gd9, gd10, gd11, gd12, gd13, inA_l, inW_l, inZ_l, inQ_l, aget_l, aset_l, qget_l, qset_l, isA_l, isA_q, alen_l, k2_i, k2_a, k2_n, k2_u, k2_l, ite_si, Option.isSome_some, List.cons_append, List.nil_append, List.length_cons, List.length_nil, Nat.reduceAdd, Nat.zero_add, Nat.reduceLT, Nat.reduceEqDiff, decide_true, decide_false, Bool.and_self, Bool.and_true, Bool.true_and, ↓reduceIte, List.set_cons_zero, List.set_cons_succ, Nat.reduceSub, Nat.add_left_cancel_iff, Nat.add_eq_left, Nat.left_eq_add, not_true_eq_false, not_false_eq_true, reduceCtorEq, i10, i01, ib10, ib01, beq_self_eq_true, eq_self, Int32.reduceLT, Int32.reduceToNatClampNeg, Int32.reduceAdd, Int32.reduceSub, Int32.reduceMul, Bool.or_true, Bool.true_or, Bool.or_false, Bool.false_or, Nat.reduceBEq, Nat.reduceMul, if_neg l22, z2_0]
end
