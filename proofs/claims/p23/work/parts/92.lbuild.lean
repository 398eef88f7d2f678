/-! the law's changes -/
def wl6 (m : xM) (a : Nat) (rf tf pf bf cf nf : Nat → Int32) : Prop := m (a + 82) = .inl (0, 20, .inl rf) ∧ m (a + 83) = .inl (0, 20, .inl tf) ∧ m (a + 84) = .inl (0, 20, .inl pf) ∧ m (a + 85) = .inl (0, 20, .inl bf) ∧ m (a + 86) = .inl (0, 12, .inl cf) ∧ m (a + 87) = .inl (0, 4, .inl nf)
theorem wl6.fr {m m' : xM} {a : Nat} {rf tf pf bf cf nf : Nat → Int32} (h : wl6 m a rf tf pf bf cf nf) (e : ∀ x, a + 82 ≤ x → x < a + 88 → m' x = m x) : wl6 m' a rf tf pf bf cf nf :=
  ⟨by rw [e _ (by omega) (by omega)]; exact h.1, by rw [e _ (by omega) (by omega)]; exact h.2.1, by rw [e _ (by omega) (by omega)]; exact h.2.2.1, by rw [e _ (by omega) (by omega)]; exact h.2.2.2.1, by rw [e _ (by omega) (by omega)]; exact h.2.2.2.2.1, by rw [e _ (by omega) (by omega)]; exact h.2.2.2.2.2⟩
/-- program and law alike behind k turns -/
def wlI (k a : Nat) (m : xM) (σ : AS) : Prop := ∃ (S u0 u1 : Nat) (rf tf pf bf cf nf : Nat → Int32), CC m a σ ∧ wl6 m a rf tf pf bf cf nf ∧ wlQ k S u0 u1 σ.1 rf tf pf bf cf nf
def wlD (k a : Nat) (z : Nat × Nat) (m : xM) (o : Option (Option Value × xH)) : Prop := ∃ m' σ', o = some (some (.int 1), (z, m')) ∧ wlI (k + 1) a m' σ' ∧ ∀ x, (x < a ∨ a + 88 ≤ x) → m' x = m x
theorem wlQ.nx {k S u0 u1 : Nat} {r : Row} {rf tf pf bf cf nf : Nat → Int32} (h : wlQ k S u0 u1 r rf tf pf bf cf nf) : wlQ (k + 1) S u0 u1 r rf tf pf bf cf nf := ⟨h.1.mono (by omega), h.2⟩
theorem bw_in {n a c : Nat} {x y : Int32} (hx : x = nI a) (hy : y = nI c) (h1 : a ≤ n) (h2 : n ≤ c) (hc : c < 2 ^ 31) : ¬ bw (nI n) x y = 0 := by
  subst hx; subst hy
  rw [bwY h1 h2 hc]
  decide
section
variable {k a S u0 u1 : Nat} {z : Nat × Nat} {m : xM} {σ : AS} {rf tf pf bf cf nf : Nat → Int32}
/-- the program answers, the stairs of the law stand -/
theorem wlD.of {m m1 : xM} {σ' : AS} {o : Option (Option Value × xH)} (hw : wl6 m1 a rf tf pf bf cf nf) (hC : CC m1 a σ') (hQ : wlQ (k + 1) S u0 u1 σ'.1 rf tf pf bf cf nf) (ho : o = some (some (.int 1), (z, m1))) (hf : ∀ x, (x < a ∨ a + 88 ≤ x) → m1 x = m x) : wlD k a z m o :=
  ⟨m1, σ', ho, ⟨S, u0, u1, rf, tf, pf, bf, cf, nf, hC, hw, hQ⟩, hf⟩
theorem p_builds (x : Int32) (hC : CC m a σ) (hw : wl6 m a rf tf pf bf cf nf) (hQ : wlQ k S u0 u1 σ.1 rf tf pf bf cf nf) : wlD k a z m (cl 85 [.ref a, .ref (a + 82), .ref (a + 83), .ref (a + 84), .ref (a + 85), .ref (a + 86), .ref (a + 87), .int x] (z, m)) := by
  have hQ0 := hQ
  obtain ⟨hI, ⟨h3, h45, h50, hS, hu⟩, hc, ⟨n0, n1, n2, n3⟩, hrt, hp, hcar, z0, z1⟩ := hQ
  obtain ⟨er, et, ep, eb, ec, en⟩ := hw
  have hw : wl6 m a rf tf pf bf cf nf := ⟨er, et, ep, eb, ec, en⟩
  have k1 := hC.1
  unfold CO at k1
  have c1 := hc.2.1
  have c7 := hc.2.2.2.2.2.2.1
  have w1 := p_low x (D := 16) (d := 16) (by omega) (by omega) rfl (z, m)
  have w2 := p_low (x >>> (4 &&& 31)) (D := 26) (d := 26) (by omega) (by omega) rfl (z, m)
  have e1 : (10 : Int32) + nI (lw x 16) = nI (10 + lw x 16) := nI_add 10 _
  have e2 : (15 : Int32) + nI (lw (x >>> (4 &&& 31)) 26) = nI (15 + lw (x >>> (4 &&& 31)) 26) := nI_add 15 _
  have hX := lw_lt x (show 0 < 16 by omega)
  have hY := lw_lt (x >>> (4 &&& 31)) (show 0 < 26 by omega)
  generalize lw x 16 = X at *
  generalize lw (x >>> (4 &&& 31)) 26 = Y at *
  have bX : ¬ bw (nI (10 + X)) 10 25 = 0 := bw_in (a := 10) (c := 25) rfl rfl (by omega) (by omega) (by omega)
  have bY : ¬ bw (nI (15 + Y)) 15 40 = 0 := bw_in (a := 15) (c := 40) rfl rfl (by omega) (by omega) (by omega)
  have hn3 : nf 3 = nI S := n3.trans h3
  by_cases hl : 0 < σ.1 45 + σ.1 50
  · obtain ⟨m1, e, g1, g2⟩ := c_build1 (nI (10 + X)) (nI (15 + Y)) bX bY hl (z, m) hC
    have ec' : m1 (a + 86) = _ := (g2 (a + 86) (by omega)).trans ec
    refine wlD.of (hw.fr (fun y q1 q2 => g2 y (by omega))) g1 hQ0.nx ?_ (fun y hy => g2 y (by omega))
    simp only [c85, q85_0, q85_2, q85_4, q85_6, q85_9, q85_10, q85_12, q85_14, q85_16, q85_17, q85_18, q85_20, q85_23, q85_24, q85_26, q85_26N, q85_28, q85_29, q85_30, q85_30N, q85_32, q85_34, q85_35, q85_36, q85_39, q85_39N, q85_41, q85_42, q85_43, q85_45, q85_48, q85_48N, q85_49, q85_51, q85_53, q85_56, q85_56N, q85_58, q85_59, q85_60, q85_60N, q85_62, q85_64, q85_65, q85_66, q85_69, q85_71, q85_74, q85_76, q85_79, q85_80, q85_83, q85_84, q85_85, q85_85N, q85_86, q85_86N, q85_88, q85_89, q85_90, q85_92, q85_93, q85_93N, q85_94, q85_94N, q85_96, q85_97, q85_98, q85_100, q85_101, q85_101N, q85_102, q85_102N, q85_104, q85_105, q85_106, q85_108, q85_109, q85_109N, q85_111, q85_111N, q85_113, q85_114, q85_115, q85_117, q85_118, q85_118N, q85_120, q85_121, q85_122, q85_123, q85_124, q85_125, q85_126, q85_126N, q85_127, q85_129, q85_131, q85_134, q85_134N, q85_136, q85_137, q85_138, q85_139, q85_140, q85_143, q85_144, q85_147, q85_148, rv_v, rv_n, rh_v, mu_at, isF_r, isK_r, fld_r, fset_r, gd0, gd1, gd2, gd3, gd4, gd5, gd6, gd7, gd8, gd9, gd10, gd11, gd12, gd13, inA_l, inW_l, inZ_l, inQ_l, aget_l, aset_l, qget_l, qset_l, isA_l, isA_q, alen_l, k2_i, k2_a, k2_n, k2_u, k2_l, ite_si, Option.isSome_some, List.cons_append, List.nil_append, List.length_cons, List.length_nil, Nat.reduceAdd, Nat.zero_add, Nat.reduceLT, Nat.reduceEqDiff, decide_true, decide_false, Bool.and_self, Bool.and_true, Bool.true_and, ↓reduceIte, List.set_cons_zero, List.set_cons_succ, Nat.reduceSub, Nat.add_left_cancel_iff, Nat.add_eq_left, Nat.left_eq_add, not_true_eq_false, not_false_eq_true, reduceCtorEq, i10, i01, ib10, ib01, beq_self_eq_true, eq_self, Int32.reduceLT, Int32.reduceToNatClampNeg, Int32.reduceAdd, Int32.reduceSub, Int32.reduceMul, Bool.or_true, Bool.true_or, Bool.or_false, Bool.false_or, Nat.reduceBEq, Nat.reduceMul, ec, en, c1, c7, w1, w2, e1, e2, if_pos hl, k1, e, ec']
  · by_cases h20 : S = 20
    · subst h20
      have h3' : σ.1 3 = 20 := h3
      have hn3' : nf 3 = 20 := hn3
      obtain ⟨m1, e, g1, g2⟩ := c_build2 (nI (10 + X)) (nI (15 + Y)) bX bY hl h3' (z, m) hC
      have ec' : m1 (a + 86) = _ := (g2 (a + 86) (by omega)).trans ec
      refine wlD.of (hw.fr (fun y q1 q2 => g2 y (by omega))) g1 hQ0.nx ?_ (fun y hy => g2 y (by omega))
      simp only [c85, q85_0, q85_2, q85_4, q85_6, q85_9, q85_10, q85_12, q85_14, q85_16, q85_17, q85_18, q85_20, q85_23, q85_24, q85_26, q85_26N, q85_28, q85_29, q85_30, q85_30N, q85_32, q85_34, q85_35, q85_36, q85_39, q85_39N, q85_41, q85_42, q85_43, q85_45, q85_48, q85_48N, q85_49, q85_51, q85_53, q85_56, q85_56N, q85_58, q85_59, q85_60, q85_60N, q85_62, q85_64, q85_65, q85_66, q85_69, q85_71, q85_74, q85_76, q85_79, q85_80, q85_83, q85_84, q85_85, q85_85N, q85_86, q85_86N, q85_88, q85_89, q85_90, q85_92, q85_93, q85_93N, q85_94, q85_94N, q85_96, q85_97, q85_98, q85_100, q85_101, q85_101N, q85_102, q85_102N, q85_104, q85_105, q85_106, q85_108, q85_109, q85_109N, q85_111, q85_111N, q85_113, q85_114, q85_115, q85_117, q85_118, q85_118N, q85_120, q85_121, q85_122, q85_123, q85_124, q85_125, q85_126, q85_126N, q85_127, q85_129, q85_131, q85_134, q85_134N, q85_136, q85_137, q85_138, q85_139, q85_140, q85_143, q85_144, q85_147, q85_148, rv_v, rv_n, rh_v, mu_at, isF_r, isK_r, fld_r, fset_r, gd0, gd1, gd2, gd3, gd4, gd5, gd6, gd7, gd8, gd9, gd10, gd11, gd12, gd13, inA_l, inW_l, inZ_l, inQ_l, aget_l, aset_l, qget_l, qset_l, isA_l, isA_q, alen_l, k2_i, k2_a, k2_n, k2_u, k2_l, ite_si, Option.isSome_some, List.cons_append, List.nil_append, List.length_cons, List.length_nil, Nat.reduceAdd, Nat.zero_add, Nat.reduceLT, Nat.reduceEqDiff, decide_true, decide_false, Bool.and_self, Bool.and_true, Bool.true_and, ↓reduceIte, List.set_cons_zero, List.set_cons_succ, Nat.reduceSub, Nat.add_left_cancel_iff, Nat.add_eq_left, Nat.left_eq_add, not_true_eq_false, not_false_eq_true, reduceCtorEq, i10, i01, ib10, ib01, beq_self_eq_true, eq_self, Int32.reduceLT, Int32.reduceToNatClampNeg, Int32.reduceAdd, Int32.reduceSub, Int32.reduceMul, Bool.or_true, Bool.true_or, Bool.or_false, Bool.false_or, Nat.reduceBEq, Nat.reduceMul, ec, en, c1, c7, hn3', w1, w2, e1, e2, if_neg hl, k1, e, ec']
    · have hu0 : u0 = 0 ∧ u1 = 0 := by
        rw [h45, h50, show nI u0 + nI u1 = nI (u0 + u1) from nI_add _ _] at hl
        by_cases hz : 0 < u0 + u1
        · exact absurd (nI_0lt hz (by omega)) hl
        · omega
      have i0 : ¬ nI S < 0 := nI_pos (by omega)
      have i1 : (nI S).toNatClampNeg = S := nI_clamp (by omega)
      have i2 : S < 20 := by omega
      have i3 : ¬ nI S = 20 := fun q => h20 (nI_inj (y := 20) (by omega) (by omega) q)
      have i4 : nI (S + 1) - 1 = nI S := nI_pred S
      have y1 : ¬ a + 87 = a + 82 := by omega
      have y2 : ¬ a + 87 = a + 83 := by omega
      have y3 : ¬ a + 87 = a + 84 := by omega
      have y4 : ¬ a + 87 = a + 85 := by omega
      have y5 : ¬ a + 83 = a + 82 := by omega
      have y6 : ¬ a + 84 = a + 82 := by omega
      have y7 : ¬ a + 84 = a + 83 := by omega
      have y8 : ¬ a + 85 = a + 82 := by omega
      have y9 : ¬ a + 85 = a + 83 := by omega
      have y10 : ¬ a + 85 = a + 84 := by omega
      have s1 : cl 85 [.ref a, .ref (a + 82), .ref (a + 83), .ref (a + 84), .ref (a + 85), .ref (a + 86), .ref (a + 87), .int x] (z, m) = rn 85 126 [.ref a, .ref (a + 82), .ref (a + 83), .ref (a + 84), .ref (a + 85), .ref (a + 86), .ref (a + 87), .int x, .int (nI (10 + X)), .int (nI (15 + Y))] [] (z, mu (mu (mu (mu (mu m (a + 82) (.inl (0, 20, .inl (upd rf S (nI (10 + X)))))) (a + 83) (.inl (0, 20, .inl (upd tf S (nI (15 + Y)))))) (a + 84) (.inl (0, 20, .inl (upd pf S (-6))))) (a + 85) (.inl (0, 20, .inl (upd bf S (-6))))) (a + 87) (.inl (0, 4, .inl (upd nf 3 (nI (S + 1)))))) := by
        simp only [c85, q85_0, q85_2, q85_4, q85_6, q85_9, q85_10, q85_12, q85_14, q85_16, q85_17, q85_18, q85_20, q85_23, q85_24, q85_26, q85_26N, q85_28, q85_29, q85_30, q85_30N, q85_32, q85_34, q85_35, q85_36, q85_39, q85_39N, q85_41, q85_42, q85_43, q85_45, q85_48, q85_48N, q85_49, q85_51, q85_53, q85_56, q85_56N, q85_58, q85_59, q85_60, q85_60N, q85_62, q85_64, q85_65, q85_66, q85_69, q85_71, q85_74, q85_76, q85_79, q85_80, q85_83, q85_84, q85_85, q85_85N, q85_86, q85_86N, q85_88, q85_89, q85_90, q85_92, q85_93, q85_93N, q85_94, q85_94N, q85_96, q85_97, q85_98, q85_100, q85_101, q85_101N, q85_102, q85_102N, q85_104, q85_105, q85_106, q85_108, q85_109, q85_109N, q85_111, q85_111N, q85_113, q85_114, q85_115, q85_117, q85_118, q85_118N, q85_120, q85_121, q85_122, q85_123, q85_124, q85_125, rv_v, rv_n, rh_v, mu_at, isF_r, isK_r, fld_r, fset_r, gd0, gd1, gd2, gd3, gd4, gd5, gd6, gd7, gd8, gd9, gd10, gd11, gd12, gd13, inA_l, inW_l, inZ_l, inQ_l, aget_l, aset_l, qget_l, qset_l, isA_l, isA_q, alen_l, k2_i, k2_a, k2_n, k2_u, k2_l, ite_si, Option.isSome_some, List.cons_append, List.nil_append, List.length_cons, List.length_nil, Nat.reduceAdd, Nat.zero_add, Nat.reduceLT, Nat.reduceEqDiff, decide_true, decide_false, Bool.and_self, Bool.and_true, Bool.true_and, ↓reduceIte, List.set_cons_zero, List.set_cons_succ, Nat.reduceSub, Nat.add_left_cancel_iff, Nat.add_eq_left, Nat.left_eq_add, not_true_eq_false, not_false_eq_true, reduceCtorEq, i10, i01, ib10, ib01, beq_self_eq_true, eq_self, Int32.reduceLT, Int32.reduceToNatClampNeg, Int32.reduceAdd, Int32.reduceSub, Int32.reduceMul, Bool.or_true, Bool.true_or, Bool.or_false, Bool.false_or, Nat.reduceBEq, Nat.reduceMul, er, et, ep, eb, ec, en, c1, c7, hn3, w1, w2, e1, e2, if_neg hl, if_neg i3, i0, i1, i2, y1, y2, y3, y4, y5, y6, y7, y8, y9, y10, nI_1]
      have hf : ∀ y, (y < a + 82 ∨ a + 88 ≤ y) → mu (mu (mu (mu (mu m (a + 82) (.inl (0, 20, .inl (upd rf S (nI (10 + X)))))) (a + 83) (.inl (0, 20, .inl (upd tf S (nI (15 + Y)))))) (a + 84) (.inl (0, 20, .inl (upd pf S (-6))))) (a + 85) (.inl (0, 20, .inl (upd bf S (-6))))) (a + 87) (.inl (0, 4, .inl (upd nf 3 (nI (S + 1))))) y = m y := fun y hy => by rw [mu_n _ _ (by omega), mu_n _ _ (by omega), mu_n _ _ (by omega), mu_n _ _ (by omega), mu_n _ _ (by omega)]
      have hW : wl6 (mu (mu (mu (mu (mu m (a + 82) (.inl (0, 20, .inl (upd rf S (nI (10 + X)))))) (a + 83) (.inl (0, 20, .inl (upd tf S (nI (15 + Y)))))) (a + 84) (.inl (0, 20, .inl (upd pf S (-6))))) (a + 85) (.inl (0, 20, .inl (upd bf S (-6))))) (a + 87) (.inl (0, 4, .inl (upd nf 3 (nI (S + 1)))))) a (upd rf S (nI (10 + X))) (upd tf S (nI (15 + Y))) (upd pf S (-6)) (upd bf S (-6)) cf (upd nf 3 (nI (S + 1))) := by
        refine ⟨?_, ?_, ?_, ?_, ?_, ?_⟩
        · rw [mu_n _ _ (by omega), mu_n _ _ (by omega), mu_n _ _ (by omega), mu_n _ _ (by omega), mu_s]
        · rw [mu_n _ _ (by omega), mu_n _ _ (by omega), mu_n _ _ (by omega), mu_s]
        · rw [mu_n _ _ (by omega), mu_n _ _ (by omega), mu_s]
        · rw [mu_n _ _ (by omega), mu_s]
        · rw [mu_n _ _ (by omega), mu_n _ _ (by omega), mu_n _ _ (by omega), mu_n _ _ (by omega), mu_n _ _ (by omega)]
          exact ec
        · rw [mu_s]
      generalize mu (mu (mu (mu (mu m (a + 82) (.inl (0, 20, .inl (upd rf S (nI (10 + X)))))) (a + 83) (.inl (0, 20, .inl (upd tf S (nI (15 + Y)))))) (a + 84) (.inl (0, 20, .inl (upd pf S (-6))))) (a + 85) (.inl (0, 20, .inl (upd bf S (-6))))) (a + 87) (.inl (0, 4, .inl (upd nf 3 (nI (S + 1))))) = mW at s1 hf hW
      obtain ⟨m1, e, g1, g2⟩ := c_build3 (nI (10 + X)) (nI (15 + Y)) bX bY hl h3 i2 (z, mW) (hC.fr (fun y q1 q2 => hf y (by omega)))
      have hW1 := hW.fr (m' := m1) (fun y q1 q2 => g2 y (by omega))
      have en1 := hW1.2.2.2.2.2
      have kW : mW a = _ := (hf a (by omega)).trans k1
      refine wlD.of hW1 g1 (hQ0.bd hu0.1 hu0.2 i2 (show 10 ≤ 10 + X by omega) (by omega) (show 15 ≤ 15 + Y by omega) (by omega)) ?_ (fun y hy => (g2 y (by omega)).trans (hf y (by omega)))
      rw [s1]
      simp only [q85_126, q85_126N, q85_127, q85_129, q85_131, q85_134, q85_134N, q85_136, q85_137, q85_138, q85_139, q85_140, q85_143, q85_144, q85_147, q85_148, rv_v, rv_n, rh_v, mu_at, isF_r, isK_r, fld_r, fset_r, gd0, gd1, gd2, gd3, gd4, gd5, gd6, gd7, gd8, gd9, gd10, gd11, gd12, gd13, inA_l, inW_l, inZ_l, inQ_l, aget_l, aset_l, qget_l, qset_l, isA_l, isA_q, alen_l, k2_i, k2_a, k2_n, k2_u, k2_l, ite_si, Option.isSome_some, List.cons_append, List.nil_append, List.length_cons, List.length_nil, Nat.reduceAdd, Nat.zero_add, Nat.reduceLT, Nat.reduceEqDiff, decide_true, decide_false, Bool.and_self, Bool.and_true, Bool.true_and, ↓reduceIte, List.set_cons_zero, List.set_cons_succ, Nat.reduceSub, Nat.add_left_cancel_iff, Nat.add_eq_left, Nat.left_eq_add, not_true_eq_false, not_false_eq_true, reduceCtorEq, i10, i01, ib10, ib01, beq_self_eq_true, eq_self, Int32.reduceLT, Int32.reduceToNatClampNeg, Int32.reduceAdd, Int32.reduceSub, Int32.reduceMul, Bool.or_true, Bool.true_or, Bool.or_false, Bool.false_or, Nat.reduceBEq, Nat.reduceMul, kW, e, en1, upd_at, i4]
end
