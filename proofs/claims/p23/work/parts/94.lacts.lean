section
variable {k a S u0 u1 : Nat} {z : Nat × Nat} {m : xM} {σ : AS} {rf tf pf bf cf nf : Nat → Int32} {y x : Int32}
theorem p_actBeg0 (hC : CC m a σ) (hw : wl6 m a rf tf pf bf cf nf) (hQ : wlQ k S u0 u1 σ.1 rf tf pf bf cf nf) : wlD k a z m (rn 87 87 [.ref a, .ref (a + 82), .ref (a + 83), .ref (a + 84), .ref (a + 85), .ref (a + 86), .ref (a + 87), .int y, .int x, .int 0, .int 0, unk, unk, unk, unk, unk, unk] [] (z, m)) := by
  have hQ0 := hQ; obtain ⟨hI, ⟨h3, h45, h50, hS, hu⟩, hc, ⟨n0, n1, n2, n3⟩, hrt, hp, hcar, z0, z1⟩ := hQ; obtain ⟨er, et, ep, eb, ec, en⟩ := hw; have hw : wl6 m a rf tf pf bf cf nf := ⟨er, et, ep, eb, ec, en⟩; have k1 := hC.1; unfold CO at k1; have hc0 := hc; obtain ⟨c0, c1, c2, c3, c4, c6, c7, c8, c9, c10, c5, c11⟩ := hc
  obtain ⟨R, eR, r2, r60⟩ := hI.rep
  have w1 := p_low (x >>> (1 &&& 31)) (D := R) (d := nf 0) (by omega) (by omega) (n0.trans eR) (z, m)
  have hX := lw_lt (x >>> (1 &&& 31)) (show 0 < R by omega)
  generalize lw (x >>> (1 &&& 31)) R = X at *
  have hp2 : ¬ bw (nI X) 0 (σ.1 0 - 1) = 0 := bw_in (a := 0) (c := R - 1) rfl (by rw [eR]; exact pk_sub (b := 1) (by omega)) (by omega) (by omega) (by omega)
  by_cases hl : 0 < σ.1 45
  · obtain ⟨m1, e, g1, g2⟩ := c_begin20 (nI X) hp2 hl (z, m) hC
    refine wlD.of (hw.fr (fun y q1 q2 => g2 y (by omega))) g1 hQ0.nx ?_ (fun y hy => g2 y (by omega))
    simp only [q87_87, q87_89, q87_90, q87_91, q87_91N, q87_93, q87_94, q87_95, q87_98, q87_100, q87_100N, q87_102, q87_104, q87_105, q87_107, q87_107N, q87_109, q87_111, q87_112, q87_113, q87_114, q87_117, q87_117N, q87_118, q87_120, q87_122, q87_125, q87_127, q87_130, q87_131, q87_134, q87_135, q87_136, q87_136N, q87_138, q87_140, q87_142, q87_143, q87_143N, q87_144, q87_146, q87_148, q87_151, q87_153, q87_156, q87_157, q87_160, q87_161, rv_v, rv_n, rh_v, mu_at, isF_r, isK_r, fld_r, fset_r, gd0, gd1, gd2, gd3, gd4, gd5, gd6, gd7, gd8, gd9, gd10, gd11, gd12, gd13, inA_l, inW_l, inZ_l, inQ_l, aget_l, aset_l, qget_l, qset_l, isA_l, isA_q, alen_l, k2_i, k2_a, k2_n, k2_u, k2_l, ite_si, Option.isSome_some, List.cons_append, List.nil_append, List.length_cons, List.length_nil, Nat.reduceAdd, Nat.zero_add, Nat.reduceLT, Nat.reduceEqDiff, decide_true, decide_false, Bool.and_self, Bool.and_true, Bool.true_and, ↓reduceIte, List.set_cons_zero, List.set_cons_succ, Nat.reduceSub, Nat.add_left_cancel_iff, Nat.add_eq_left, Nat.left_eq_add, not_true_eq_false, not_false_eq_true, reduceCtorEq, i10, i01, ib10, ib01, beq_self_eq_true, eq_self, Int32.reduceLT, Int32.reduceToNatClampNeg, Int32.reduceAdd, Int32.reduceSub, Int32.reduceMul, Bool.or_true, Bool.true_or, Bool.or_false, Bool.false_or, Nat.reduceBEq, Nat.reduceMul, ec, en, c1, w1, if_pos hl, k1, e]
  · have hu0 : u0 = 0 := by
      rw [h45] at hl
      exact Classical.byContradiction fun q => hl (nI_0lt (by omega) (by omega))
    have hlt : ∀ R' : Nat, R' ≤ 60 → σ.1 0 = nI R' → X < R' := fun R' q1 q2 => by
      have := nI_inj (by omega) (by omega) (q2.symm.trans eR)
      omega
    have hf : ∀ y, (y < a + 82 ∨ a + 88 ≤ y) → mu m (a + 86) (.inl (0, 12, .inl (upd cf 0 (nI X)))) y = m y := fun y hy => mu_n _ _ (by omega)
    have hW6 : wl6 (mu m (a + 86) (.inl (0, 12, .inl (upd cf 0 (nI X))))) a rf tf pf bf (upd cf 0 (nI X)) nf := by
      refine ⟨?_, ?_, ?_, ?_, mu_s _ _ _, ?_⟩
      · rw [mu_n _ _ (by omega)]; exact er
      · rw [mu_n _ _ (by omega)]; exact et
      · rw [mu_n _ _ (by omega)]; exact ep
      · rw [mu_n _ _ (by omega)]; exact eb
      · rw [mu_n _ _ (by omega)]; exact en
    obtain ⟨m1, e, g1, g2⟩ := c_begin30 (nI X) hp2 hl (z, mu m (a + 86) (.inl (0, 12, .inl (upd cf 0 (nI X))))) (hC.fr (fun y q1 q2 => hf y (by omega)))
    have y1 : ¬ a = a + 86 := by omega
    refine wlD.of (hW6.fr (m' := m1) (fun y q1 q2 => g2 y (by omega))) g1 (hQ0.beg0 hlt hu0) ?_ (fun y hy => (g2 y (by omega)).trans (hf y (by omega)))
    simp only [q87_87, q87_89, q87_90, q87_91, q87_91N, q87_93, q87_94, q87_95, q87_98, q87_100, q87_100N, q87_102, q87_104, q87_105, q87_107, q87_107N, q87_109, q87_111, q87_112, q87_113, q87_114, q87_117, q87_117N, q87_118, q87_120, q87_122, q87_125, q87_127, q87_130, q87_131, q87_134, q87_135, q87_136, q87_136N, q87_138, q87_140, q87_142, q87_143, q87_143N, q87_144, q87_146, q87_148, q87_151, q87_153, q87_156, q87_157, q87_160, q87_161, rv_v, rv_n, rh_v, mu_at, isF_r, isK_r, fld_r, fset_r, gd0, gd1, gd2, gd3, gd4, gd5, gd6, gd7, gd8, gd9, gd10, gd11, gd12, gd13, inA_l, inW_l, inZ_l, inQ_l, aget_l, aset_l, qget_l, qset_l, isA_l, isA_q, alen_l, k2_i, k2_a, k2_n, k2_u, k2_l, ite_si, Option.isSome_some, List.cons_append, List.nil_append, List.length_cons, List.length_nil, Nat.reduceAdd, Nat.zero_add, Nat.reduceLT, Nat.reduceEqDiff, decide_true, decide_false, Bool.and_self, Bool.and_true, Bool.true_and, ↓reduceIte, List.set_cons_zero, List.set_cons_succ, Nat.reduceSub, Nat.add_left_cancel_iff, Nat.add_eq_left, Nat.left_eq_add, not_true_eq_false, not_false_eq_true, reduceCtorEq, i10, i01, ib10, ib01, beq_self_eq_true, eq_self, Int32.reduceLT, Int32.reduceToNatClampNeg, Int32.reduceAdd, Int32.reduceSub, Int32.reduceMul, Bool.or_true, Bool.true_or, Bool.or_false, Bool.false_or, Nat.reduceBEq, Nat.reduceMul, ec, en, c0, c1, w1, if_neg hl, k1, y1, e]
theorem p_actBeg1 (hC : CC m a σ) (hw : wl6 m a rf tf pf bf cf nf) (hQ : wlQ k S u0 u1 σ.1 rf tf pf bf cf nf) : wlD k a z m (rn 87 87 [.ref a, .ref (a + 82), .ref (a + 83), .ref (a + 84), .ref (a + 85), .ref (a + 86), .ref (a + 87), .int y, .int x, .int 1, .int 6, unk, unk, unk, unk, unk, unk] [] (z, m)) := by
  have hQ0 := hQ; obtain ⟨hI, ⟨h3, h45, h50, hS, hu⟩, hc, ⟨n0, n1, n2, n3⟩, hrt, hp, hcar, z0, z1⟩ := hQ; obtain ⟨er, et, ep, eb, ec, en⟩ := hw; have hw : wl6 m a rf tf pf bf cf nf := ⟨er, et, ep, eb, ec, en⟩; have k1 := hC.1; unfold CO at k1; have hc0 := hc; obtain ⟨c0, c1, c2, c3, c4, c6, c7, c8, c9, c10, c5, c11⟩ := hc
  obtain ⟨R, eR, r2, r60⟩ := hI.rep
  have w1 := p_low (x >>> (1 &&& 31)) (D := R) (d := nf 0) (by omega) (by omega) (n0.trans eR) (z, m)
  have hX := lw_lt (x >>> (1 &&& 31)) (show 0 < R by omega)
  generalize lw (x >>> (1 &&& 31)) R = X at *
  have hp2 : ¬ bw (nI X) 0 (σ.1 0 - 1) = 0 := bw_in (a := 0) (c := R - 1) rfl (by rw [eR]; exact pk_sub (b := 1) (by omega)) (by omega) (by omega) (by omega)
  by_cases hl : 0 < σ.1 50
  · obtain ⟨m1, e, g1, g2⟩ := c_begin21 (nI X) hp2 hl (z, m) hC
    refine wlD.of (hw.fr (fun y q1 q2 => g2 y (by omega))) g1 hQ0.nx ?_ (fun y hy => g2 y (by omega))
    simp only [q87_87, q87_89, q87_90, q87_91, q87_91N, q87_93, q87_94, q87_95, q87_98, q87_100, q87_100N, q87_102, q87_104, q87_105, q87_107, q87_107N, q87_109, q87_111, q87_112, q87_113, q87_114, q87_117, q87_117N, q87_118, q87_120, q87_122, q87_125, q87_127, q87_130, q87_131, q87_134, q87_135, q87_136, q87_136N, q87_138, q87_140, q87_142, q87_143, q87_143N, q87_144, q87_146, q87_148, q87_151, q87_153, q87_156, q87_157, q87_160, q87_161, rv_v, rv_n, rh_v, mu_at, isF_r, isK_r, fld_r, fset_r, gd0, gd1, gd2, gd3, gd4, gd5, gd6, gd7, gd8, gd9, gd10, gd11, gd12, gd13, inA_l, inW_l, inZ_l, inQ_l, aget_l, aset_l, qget_l, qset_l, isA_l, isA_q, alen_l, k2_i, k2_a, k2_n, k2_u, k2_l, ite_si, Option.isSome_some, List.cons_append, List.nil_append, List.length_cons, List.length_nil, Nat.reduceAdd, Nat.zero_add, Nat.reduceLT, Nat.reduceEqDiff, decide_true, decide_false, Bool.and_self, Bool.and_true, Bool.true_and, ↓reduceIte, List.set_cons_zero, List.set_cons_succ, Nat.reduceSub, Nat.add_left_cancel_iff, Nat.add_eq_left, Nat.left_eq_add, not_true_eq_false, not_false_eq_true, reduceCtorEq, i10, i01, ib10, ib01, beq_self_eq_true, eq_self, Int32.reduceLT, Int32.reduceToNatClampNeg, Int32.reduceAdd, Int32.reduceSub, Int32.reduceMul, Bool.or_true, Bool.true_or, Bool.or_false, Bool.false_or, Nat.reduceBEq, Nat.reduceMul, ec, en, c7, w1, if_pos hl, k1, e]
  · have hu0 : u1 = 0 := by
      rw [h50] at hl
      exact Classical.byContradiction fun q => hl (nI_0lt (by omega) (by omega))
    have hlt : ∀ R' : Nat, R' ≤ 60 → σ.1 0 = nI R' → X < R' := fun R' q1 q2 => by
      have := nI_inj (by omega) (by omega) (q2.symm.trans eR)
      omega
    have hf : ∀ y, (y < a + 82 ∨ a + 88 ≤ y) → mu m (a + 86) (.inl (0, 12, .inl (upd cf 6 (nI X)))) y = m y := fun y hy => mu_n _ _ (by omega)
    have hW6 : wl6 (mu m (a + 86) (.inl (0, 12, .inl (upd cf 6 (nI X))))) a rf tf pf bf (upd cf 6 (nI X)) nf := by
      refine ⟨?_, ?_, ?_, ?_, mu_s _ _ _, ?_⟩
      · rw [mu_n _ _ (by omega)]; exact er
      · rw [mu_n _ _ (by omega)]; exact et
      · rw [mu_n _ _ (by omega)]; exact ep
      · rw [mu_n _ _ (by omega)]; exact eb
      · rw [mu_n _ _ (by omega)]; exact en
    obtain ⟨m1, e, g1, g2⟩ := c_begin31 (nI X) hp2 hl (z, mu m (a + 86) (.inl (0, 12, .inl (upd cf 6 (nI X))))) (hC.fr (fun y q1 q2 => hf y (by omega)))
    have y1 : ¬ a = a + 86 := by omega
    refine wlD.of (hW6.fr (m' := m1) (fun y q1 q2 => g2 y (by omega))) g1 (hQ0.beg1 hlt hu0) ?_ (fun y hy => (g2 y (by omega)).trans (hf y (by omega)))
    simp only [q87_87, q87_89, q87_90, q87_91, q87_91N, q87_93, q87_94, q87_95, q87_98, q87_100, q87_100N, q87_102, q87_104, q87_105, q87_107, q87_107N, q87_109, q87_111, q87_112, q87_113, q87_114, q87_117, q87_117N, q87_118, q87_120, q87_122, q87_125, q87_127, q87_130, q87_131, q87_134, q87_135, q87_136, q87_136N, q87_138, q87_140, q87_142, q87_143, q87_143N, q87_144, q87_146, q87_148, q87_151, q87_153, q87_156, q87_157, q87_160, q87_161, rv_v, rv_n, rh_v, mu_at, isF_r, isK_r, fld_r, fset_r, gd0, gd1, gd2, gd3, gd4, gd5, gd6, gd7, gd8, gd9, gd10, gd11, gd12, gd13, inA_l, inW_l, inZ_l, inQ_l, aget_l, aset_l, qget_l, qset_l, isA_l, isA_q, alen_l, k2_i, k2_a, k2_n, k2_u, k2_l, ite_si, Option.isSome_some, List.cons_append, List.nil_append, List.length_cons, List.length_nil, Nat.reduceAdd, Nat.zero_add, Nat.reduceLT, Nat.reduceEqDiff, decide_true, decide_false, Bool.and_self, Bool.and_true, Bool.true_and, ↓reduceIte, List.set_cons_zero, List.set_cons_succ, Nat.reduceSub, Nat.add_left_cancel_iff, Nat.add_eq_left, Nat.left_eq_add, not_true_eq_false, not_false_eq_true, reduceCtorEq, i10, i01, ib10, ib01, beq_self_eq_true, eq_self, Int32.reduceLT, Int32.reduceToNatClampNeg, Int32.reduceAdd, Int32.reduceSub, Int32.reduceMul, Bool.or_true, Bool.true_or, Bool.or_false, Bool.false_or, Nat.reduceBEq, Nat.reduceMul, ec, en, c6, c7, w1, if_neg hl, k1, y1, e]
/-- what is written when a step is taken up -/
theorem wl6.tk {i : Nat} {cf' : Nat → Int32} (hw : wl6 m a rf tf pf bf cf nf) : wl6 (mu (mu (mu m (a + 86) (.inl (0, 12, .inl cf'))) (a + 84) (.inl (0, 20, .inl (upd pf i (-6))))) (a + 85) (.inl (0, 20, .inl (upd bf i (-6))))) a rf tf (upd pf i (-6)) (upd bf i (-6)) cf' nf := by
  obtain ⟨er, et, ep, eb, ec, en⟩ := hw
  refine ⟨?_, ?_, ?_, ?_, ?_, ?_⟩
  · rw [mu_n _ _ (by omega), mu_n _ _ (by omega), mu_n _ _ (by omega)]; exact er
  · rw [mu_n _ _ (by omega), mu_n _ _ (by omega), mu_n _ _ (by omega)]; exact et
  · rw [mu_n _ _ (by omega), mu_s]
  · rw [mu_s]
  · rw [mu_n _ _ (by omega), mu_n _ _ (by omega), mu_s]
  · rw [mu_n _ _ (by omega), mu_n _ _ (by omega), mu_n _ _ (by omega)]; exact en
theorem p_actTake0 (hC : CC m a σ) (hw : wl6 m a rf tf pf bf cf nf) (hQ : wlQ k S u0 u1 σ.1 rf tf pf bf cf nf) : wlD k a z m (rn 87 162 [.ref a, .ref (a + 82), .ref (a + 83), .ref (a + 84), .ref (a + 85), .ref (a + 86), .ref (a + 87), .int y, .int x, .int 0, .int 0, unk, unk, unk, unk, unk, unk] [] (z, m)) := by
  have hQ0 := hQ; obtain ⟨hI, ⟨h3, h45, h50, hS, hu⟩, hc, ⟨n0, n1, n2, n3⟩, hrt, hp, hcar, z0, z1⟩ := hQ; obtain ⟨er, et, ep, eb, ec, en⟩ := hw; have hw : wl6 m a rf tf pf bf cf nf := ⟨er, et, ep, eb, ec, en⟩; have k1 := hC.1; unfold CO at k1; have hc0 := hc; obtain ⟨c0, c1, c2, c3, c4, c6, c7, c8, c9, c10, c5, c11⟩ := hc
  cases u0 with
  | zero =>
    have h0 : σ.1 45 = 0 := h45
    obtain ⟨m1, e, g1, g2⟩ := c_take10 h0 (z, m) hC
    refine wlD.of (hw.fr (fun y q1 q2 => g2 y (by omega))) g1 hQ0.nx ?_ (fun y hy => g2 y (by omega))
    simp only [q87_162, q87_162N, q87_164, q87_166, q87_167, q87_168, q87_169, q87_172, q87_172N, q87_173, q87_175, q87_178, q87_180, q87_183, q87_184, q87_187, q87_188, q87_189, q87_191, q87_194, q87_194N, q87_196, q87_197, q87_198, q87_199, q87_200, q87_203, q87_203N, q87_205, q87_206, q87_207, q87_207N, q87_209, q87_211, q87_212, q87_213, q87_215, q87_215N, q87_217, q87_219, q87_220, q87_221, q87_222, q87_223, q87_224, q87_225, q87_226, q87_226N, q87_228, q87_230, q87_231, q87_232, q87_233, q87_234, q87_234N, q87_235, q87_237, q87_238, q87_238N, q87_239, q87_241, q87_242, q87_243, q87_244, q87_245, q87_245N, q87_246, q87_248, q87_250, q87_251, q87_251N, q87_253, q87_255, q87_257, q87_258, q87_258N, q87_259, q87_261, q87_264, q87_266, q87_269, q87_270, q87_273, q87_274, rv_v, rv_n, rh_v, mu_at, isF_r, isK_r, fld_r, fset_r, gd0, gd1, gd2, gd3, gd4, gd5, gd6, gd7, gd8, gd9, gd10, gd11, gd12, gd13, inA_l, inW_l, inZ_l, inQ_l, aget_l, aset_l, qget_l, qset_l, isA_l, isA_q, alen_l, k2_i, k2_a, k2_n, k2_u, k2_l, ite_si, Option.isSome_some, List.cons_append, List.nil_append, List.length_cons, List.length_nil, Nat.reduceAdd, Nat.zero_add, Nat.reduceLT, Nat.reduceEqDiff, decide_true, decide_false, Bool.and_self, Bool.and_true, Bool.true_and, ↓reduceIte, List.set_cons_zero, List.set_cons_succ, Nat.reduceSub, Nat.add_left_cancel_iff, Nat.add_eq_left, Nat.left_eq_add, not_true_eq_false, not_false_eq_true, reduceCtorEq, i10, i01, ib10, ib01, beq_self_eq_true, eq_self, Int32.reduceLT, Int32.reduceToNatClampNeg, Int32.reduceAdd, Int32.reduceSub, Int32.reduceMul, Bool.or_true, Bool.true_or, Bool.or_false, Bool.false_or, Nat.reduceBEq, Nat.reduceMul, ec, c1, h0, k1, e]
  | succ u =>
    have i0 : ¬ nI u < 0 := nI_pos (by omega)
    have i1 : (nI u).toNatClampNeg = u := nI_clamp (by omega)
    have i2 : u < 20 := by omega
    have i3 : ¬ nI (u + 1) = 0 := nI_ne0 (by omega) (by omega)
    have i4 : nI (u + 1) - 1 = nI u := nI_pred u
    have hl : rf u + tf u = ln σ.1 u := by rw [(hrt u (by omega)).1, (hrt u (by omega)).2]; rfl
    have y1 : ¬ a + 84 = a + 86 := by omega
    have y2 : ¬ a + 85 = a + 86 := by omega
    have y3 : ¬ a + 85 = a + 84 := by omega
    have y4 : ¬ a + 82 = a + 86 := by omega
    have y5 : ¬ a + 83 = a + 86 := by omega
    have s1 : rn 87 162 [.ref a, .ref (a + 82), .ref (a + 83), .ref (a + 84), .ref (a + 85), .ref (a + 86), .ref (a + 87), .int y, .int x, .int 0, .int 0, unk, unk, unk, unk, unk, unk] [] (z, m) = rn 87 258 [.ref a, .ref (a + 82), .ref (a + 83), .ref (a + 84), .ref (a + 85), .ref (a + 86), .ref (a + 87), .int y, .int x, .int 0, .int 0, unk, unk, .int (nI u), unk, unk, unk] [] (z, mu (mu (mu m (a + 86) (.inl (0, 12, .inl (upd (upd cf 1 (nI u)) 4 (cf 4 + ln σ.1 u))))) (a + 84) (.inl (0, 20, .inl (upd pf u (-6))))) (a + 85) (.inl (0, 20, .inl (upd bf u (-6))))) := by
      simp only [q87_162, q87_162N, q87_164, q87_166, q87_167, q87_168, q87_169, q87_172, q87_172N, q87_173, q87_175, q87_178, q87_180, q87_183, q87_184, q87_187, q87_188, q87_189, q87_191, q87_194, q87_194N, q87_196, q87_197, q87_198, q87_199, q87_200, q87_203, q87_203N, q87_205, q87_206, q87_207, q87_207N, q87_209, q87_211, q87_212, q87_213, q87_215, q87_215N, q87_217, q87_219, q87_220, q87_221, q87_222, q87_223, q87_224, q87_225, q87_226, q87_226N, q87_228, q87_230, q87_231, q87_232, q87_233, q87_234, q87_234N, q87_235, q87_237, q87_238, q87_238N, q87_239, q87_241, q87_242, q87_243, q87_244, q87_245, q87_245N, q87_246, q87_248, q87_250, q87_251, q87_251N, q87_253, q87_255, q87_257, rv_v, rv_n, rh_v, mu_at, isF_r, isK_r, fld_r, fset_r, gd0, gd1, gd2, gd3, gd4, gd5, gd6, gd7, gd8, gd9, gd10, gd11, gd12, gd13, inA_l, inW_l, inZ_l, inQ_l, aget_l, aset_l, qget_l, qset_l, isA_l, isA_q, alen_l, k2_i, k2_a, k2_n, k2_u, k2_l, ite_si, Option.isSome_some, List.cons_append, List.nil_append, List.length_cons, List.length_nil, Nat.reduceAdd, Nat.zero_add, Nat.reduceLT, Nat.reduceEqDiff, decide_true, decide_false, Bool.and_self, Bool.and_true, Bool.true_and, ↓reduceIte, List.set_cons_zero, List.set_cons_succ, Nat.reduceSub, Nat.add_left_cancel_iff, Nat.add_eq_left, Nat.left_eq_add, not_true_eq_false, not_false_eq_true, reduceCtorEq, i10, i01, ib10, ib01, beq_self_eq_true, eq_self, Int32.reduceLT, Int32.reduceToNatClampNeg, Int32.reduceAdd, Int32.reduceSub, Int32.reduceMul, Bool.or_true, Bool.true_or, Bool.or_false, Bool.false_or, Nat.reduceBEq, Nat.reduceMul, er, et, ep, eb, ec, c1, h45, if_neg i3, i4, i0, i1, i2, hl, upd_at, mu_mu, y1, y2, y3, y4, y5]
    have hf : ∀ y, (y < a + 82 ∨ a + 88 ≤ y) → mu (mu (mu m (a + 86) (.inl (0, 12, .inl (upd (upd cf 1 (nI u)) 4 (cf 4 + ln σ.1 u))))) (a + 84) (.inl (0, 20, .inl (upd pf u (-6))))) (a + 85) (.inl (0, 20, .inl (upd bf u (-6)))) y = m y := fun y hy => by rw [mu_n _ _ (by omega), mu_n _ _ (by omega), mu_n _ _ (by omega)]
    have hW := hw.tk (i := u) (cf' := upd (upd cf 1 (nI u)) 4 (cf 4 + ln σ.1 u))
    generalize mu (mu (mu m (a + 86) (.inl (0, 12, .inl (upd (upd cf 1 (nI u)) 4 (cf 4 + ln σ.1 u))))) (a + 84) (.inl (0, 20, .inl (upd pf u (-6))))) (a + 85) (.inl (0, 20, .inl (upd bf u (-6)))) = mW at s1 hf hW
    obtain ⟨m1, e, g1, g2⟩ := c_take20 h45 h3 (show u < S by omega) hS (z, mW) (hC.fr (fun y q1 q2 => hf y (by omega)))
    have kW : mW a = _ := (hf a (by omega)).trans k1
    refine wlD.of (hW.fr (m' := m1) (fun y q1 q2 => g2 y (by omega))) g1 hQ0.up0 ?_ (fun y hy => (g2 y (by omega)).trans (hf y (by omega)))
    rw [s1]
    simp only [q87_258, q87_258N, q87_259, q87_261, q87_264, q87_266, q87_269, q87_270, q87_273, q87_274, rv_v, rv_n, rh_v, mu_at, isF_r, isK_r, fld_r, fset_r, gd0, gd1, gd2, gd3, gd4, gd5, gd6, gd7, gd8, gd9, gd10, gd11, gd12, gd13, inA_l, inW_l, inZ_l, inQ_l, aget_l, aset_l, qget_l, qset_l, isA_l, isA_q, alen_l, k2_i, k2_a, k2_n, k2_u, k2_l, ite_si, Option.isSome_some, List.cons_append, List.nil_append, List.length_cons, List.length_nil, Nat.reduceAdd, Nat.zero_add, Nat.reduceLT, Nat.reduceEqDiff, decide_true, decide_false, Bool.and_self, Bool.and_true, Bool.true_and, ↓reduceIte, List.set_cons_zero, List.set_cons_succ, Nat.reduceSub, Nat.add_left_cancel_iff, Nat.add_eq_left, Nat.left_eq_add, not_true_eq_false, not_false_eq_true, reduceCtorEq, i10, i01, ib10, ib01, beq_self_eq_true, eq_self, Int32.reduceLT, Int32.reduceToNatClampNeg, Int32.reduceAdd, Int32.reduceSub, Int32.reduceMul, Bool.or_true, Bool.true_or, Bool.or_false, Bool.false_or, Nat.reduceBEq, Nat.reduceMul, kW, e]
theorem p_actTake1 (hC : CC m a σ) (hw : wl6 m a rf tf pf bf cf nf) (hQ : wlQ k S u0 u1 σ.1 rf tf pf bf cf nf) : wlD k a z m (rn 87 162 [.ref a, .ref (a + 82), .ref (a + 83), .ref (a + 84), .ref (a + 85), .ref (a + 86), .ref (a + 87), .int y, .int x, .int 1, .int 6, unk, unk, unk, unk, unk, unk] [] (z, m)) := by
  have hQ0 := hQ; obtain ⟨hI, ⟨h3, h45, h50, hS, hu⟩, hc, ⟨n0, n1, n2, n3⟩, hrt, hp, hcar, z0, z1⟩ := hQ; obtain ⟨er, et, ep, eb, ec, en⟩ := hw; have hw : wl6 m a rf tf pf bf cf nf := ⟨er, et, ep, eb, ec, en⟩; have k1 := hC.1; unfold CO at k1; have hc0 := hc; obtain ⟨c0, c1, c2, c3, c4, c6, c7, c8, c9, c10, c5, c11⟩ := hc
  cases u1 with
  | zero =>
    have h0 : σ.1 50 = 0 := h50
    obtain ⟨m1, e, g1, g2⟩ := c_take11 h0 (z, m) hC
    refine wlD.of (hw.fr (fun y q1 q2 => g2 y (by omega))) g1 hQ0.nx ?_ (fun y hy => g2 y (by omega))
    simp only [q87_162, q87_162N, q87_164, q87_166, q87_167, q87_168, q87_169, q87_172, q87_172N, q87_173, q87_175, q87_178, q87_180, q87_183, q87_184, q87_187, q87_188, q87_189, q87_191, q87_194, q87_194N, q87_196, q87_197, q87_198, q87_199, q87_200, q87_203, q87_203N, q87_205, q87_206, q87_207, q87_207N, q87_209, q87_211, q87_212, q87_213, q87_215, q87_215N, q87_217, q87_219, q87_220, q87_221, q87_222, q87_223, q87_224, q87_225, q87_226, q87_226N, q87_228, q87_230, q87_231, q87_232, q87_233, q87_234, q87_234N, q87_235, q87_237, q87_238, q87_238N, q87_239, q87_241, q87_242, q87_243, q87_244, q87_245, q87_245N, q87_246, q87_248, q87_250, q87_251, q87_251N, q87_253, q87_255, q87_257, q87_258, q87_258N, q87_259, q87_261, q87_264, q87_266, q87_269, q87_270, q87_273, q87_274, rv_v, rv_n, rh_v, mu_at, isF_r, isK_r, fld_r, fset_r, gd0, gd1, gd2, gd3, gd4, gd5, gd6, gd7, gd8, gd9, gd10, gd11, gd12, gd13, inA_l, inW_l, inZ_l, inQ_l, aget_l, aset_l, qget_l, qset_l, isA_l, isA_q, alen_l, k2_i, k2_a, k2_n, k2_u, k2_l, ite_si, Option.isSome_some, List.cons_append, List.nil_append, List.length_cons, List.length_nil, Nat.reduceAdd, Nat.zero_add, Nat.reduceLT, Nat.reduceEqDiff, decide_true, decide_false, Bool.and_self, Bool.and_true, Bool.true_and, ↓reduceIte, List.set_cons_zero, List.set_cons_succ, Nat.reduceSub, Nat.add_left_cancel_iff, Nat.add_eq_left, Nat.left_eq_add, not_true_eq_false, not_false_eq_true, reduceCtorEq, i10, i01, ib10, ib01, beq_self_eq_true, eq_self, Int32.reduceLT, Int32.reduceToNatClampNeg, Int32.reduceAdd, Int32.reduceSub, Int32.reduceMul, Bool.or_true, Bool.true_or, Bool.or_false, Bool.false_or, Nat.reduceBEq, Nat.reduceMul, ec, c7, h0, k1, e]
  | succ u =>
    have hup := hQ0.up1
    obtain ⟨m1', hh⟩ : ∃ q : Nat, q = 0 := ⟨0, rfl⟩
    have i3 : ¬ nI (u + 1) = 0 := nI_ne0 (by omega) (by omega)
    have i4 : nI (u + 1) - 1 = nI u := nI_pred u
    have hn3 : nf 3 = nI S := n3.trans h3
    have i5 : nI S - nI (u + 1) = nI (S - (u + 1)) := pk_sub (by omega)
    have ct := c_take21 (a := a) (σ := σ) h50 h3 (show u < S by omega) hS
    have hi : S - (u + 1) < 20 := by omega
    have hiS : S - (u + 1) < S := by omega
    generalize S - (u + 1) = i at *
    have i0 : ¬ nI i < 0 := nI_pos (by omega)
    have i1 : (nI i).toNatClampNeg = i := nI_clamp (by omega)
    have hl : rf i + tf i = ln σ.1 i := by rw [(hrt i hiS).1, (hrt i hiS).2]; rfl
    have y1 : ¬ a + 84 = a + 86 := by omega
    have y2 : ¬ a + 85 = a + 86 := by omega
    have y3 : ¬ a + 85 = a + 84 := by omega
    have y4 : ¬ a + 82 = a + 86 := by omega
    have y5 : ¬ a + 83 = a + 86 := by omega
    have s1 : rn 87 162 [.ref a, .ref (a + 82), .ref (a + 83), .ref (a + 84), .ref (a + 85), .ref (a + 86), .ref (a + 87), .int y, .int x, .int 1, .int 6, unk, unk, unk, unk, unk, unk] [] (z, m) = rn 87 258 [.ref a, .ref (a + 82), .ref (a + 83), .ref (a + 84), .ref (a + 85), .ref (a + 86), .ref (a + 87), .int y, .int x, .int 1, .int 6, unk, unk, .int (nI i), unk, unk, unk] [] (z, mu (mu (mu m (a + 86) (.inl (0, 12, .inl (upd (upd cf 7 (nI u)) 10 (cf 10 + ln σ.1 i))))) (a + 84) (.inl (0, 20, .inl (upd pf i (-6))))) (a + 85) (.inl (0, 20, .inl (upd bf i (-6))))) := by
      simp only [q87_162, q87_162N, q87_164, q87_166, q87_167, q87_168, q87_169, q87_172, q87_172N, q87_173, q87_175, q87_178, q87_180, q87_183, q87_184, q87_187, q87_188, q87_189, q87_191, q87_194, q87_194N, q87_196, q87_197, q87_198, q87_199, q87_200, q87_203, q87_203N, q87_205, q87_206, q87_207, q87_207N, q87_209, q87_211, q87_212, q87_213, q87_215, q87_215N, q87_217, q87_219, q87_220, q87_221, q87_222, q87_223, q87_224, q87_225, q87_226, q87_226N, q87_228, q87_230, q87_231, q87_232, q87_233, q87_234, q87_234N, q87_235, q87_237, q87_238, q87_238N, q87_239, q87_241, q87_242, q87_243, q87_244, q87_245, q87_245N, q87_246, q87_248, q87_250, q87_251, q87_251N, q87_253, q87_255, q87_257, rv_v, rv_n, rh_v, mu_at, isF_r, isK_r, fld_r, fset_r, gd0, gd1, gd2, gd3, gd4, gd5, gd6, gd7, gd8, gd9, gd10, gd11, gd12, gd13, inA_l, inW_l, inZ_l, inQ_l, aget_l, aset_l, qget_l, qset_l, isA_l, isA_q, alen_l, k2_i, k2_a, k2_n, k2_u, k2_l, ite_si, Option.isSome_some, List.cons_append, List.nil_append, List.length_cons, List.length_nil, Nat.reduceAdd, Nat.zero_add, Nat.reduceLT, Nat.reduceEqDiff, decide_true, decide_false, Bool.and_self, Bool.and_true, Bool.true_and, ↓reduceIte, List.set_cons_zero, List.set_cons_succ, Nat.reduceSub, Nat.add_left_cancel_iff, Nat.add_eq_left, Nat.left_eq_add, not_true_eq_false, not_false_eq_true, reduceCtorEq, i10, i01, ib10, ib01, beq_self_eq_true, eq_self, Int32.reduceLT, Int32.reduceToNatClampNeg, Int32.reduceAdd, Int32.reduceSub, Int32.reduceMul, Bool.or_true, Bool.true_or, Bool.or_false, Bool.false_or, Nat.reduceBEq, Nat.reduceMul, er, et, ep, eb, ec, en, c7, h50, hn3, i5, if_neg i3, i4, i0, i1, hi, hl, upd_at, mu_mu, y1, y2, y3, y4, y5]
    have hf : ∀ y, (y < a + 82 ∨ a + 88 ≤ y) → mu (mu (mu m (a + 86) (.inl (0, 12, .inl (upd (upd cf 7 (nI u)) 10 (cf 10 + ln σ.1 i))))) (a + 84) (.inl (0, 20, .inl (upd pf i (-6))))) (a + 85) (.inl (0, 20, .inl (upd bf i (-6)))) y = m y := fun y hy => by rw [mu_n _ _ (by omega), mu_n _ _ (by omega), mu_n _ _ (by omega)]
    have hW := hw.tk (i := i) (cf' := upd (upd cf 7 (nI u)) 10 (cf 10 + ln σ.1 i))
    generalize mu (mu (mu m (a + 86) (.inl (0, 12, .inl (upd (upd cf 7 (nI u)) 10 (cf 10 + ln σ.1 i))))) (a + 84) (.inl (0, 20, .inl (upd pf i (-6))))) (a + 85) (.inl (0, 20, .inl (upd bf i (-6)))) = mW at s1 hf hW
    obtain ⟨m1, e, g1, g2⟩ := ct (z, mW) (hC.fr (fun y q1 q2 => hf y (by omega)))
    have kW : mW a = _ := (hf a (by omega)).trans k1
    refine wlD.of (hW.fr (m' := m1) (fun y q1 q2 => g2 y (by omega))) g1 hup ?_ (fun y hy => (g2 y (by omega)).trans (hf y (by omega)))
    rw [s1]
    simp only [q87_258, q87_258N, q87_259, q87_261, q87_264, q87_266, q87_269, q87_270, q87_273, q87_274, rv_v, rv_n, rh_v, mu_at, isF_r, isK_r, fld_r, fset_r, gd0, gd1, gd2, gd3, gd4, gd5, gd6, gd7, gd8, gd9, gd10, gd11, gd12, gd13, inA_l, inW_l, inZ_l, inQ_l, aget_l, aset_l, qget_l, qset_l, isA_l, isA_q, alen_l, k2_i, k2_a, k2_n, k2_u, k2_l, ite_si, Option.isSome_some, List.cons_append, List.nil_append, List.length_cons, List.length_nil, Nat.reduceAdd, Nat.zero_add, Nat.reduceLT, Nat.reduceEqDiff, decide_true, decide_false, Bool.and_self, Bool.and_true, Bool.true_and, ↓reduceIte, List.set_cons_zero, List.set_cons_succ, Nat.reduceSub, Nat.add_left_cancel_iff, Nat.add_eq_left, Nat.left_eq_add, not_true_eq_false, not_false_eq_true, reduceCtorEq, i10, i01, ib10, ib01, beq_self_eq_true, eq_self, Int32.reduceLT, Int32.reduceToNatClampNeg, Int32.reduceAdd, Int32.reduceSub, Int32.reduceMul, Bool.or_true, Bool.true_or, Bool.or_false, Bool.false_or, Nat.reduceBEq, Nat.reduceMul, kW, e]
end
