theorem sC7z {b s f : Nat} {st le nu : Int32} : fset (MC b st le s nu f) 7 (.int 0) = MC b st 0 s nu f := rfl
theorem stp_len : ∀ (F : List Fl), (∀ o, o ∈ F → FW o) → (stp F).length ≤ 20 * F.length
  | [], _ => Nat.le_refl _
  | o :: F, h => by
    have := stp_len F (fun o' q => h o' (List.mem_cons_of_mem _ q))
    have := (h o List.mem_cons_self).c
    rw [stp, List.length_append, List.length_replicate, List.length_cons]
    omega
theorem TX_ok (L : List Int32) : ∀ o, o ∈ (TX L).1 → FW o := tx_ok L 61 0 [] (fun o h => by simp at h)
theorem TX_len {L : List Int32} (hL : L.length ≤ 60) : (TX L).1.length ≤ 15 := by
  have := tx_len L 61 0 [] (Nat.zero_le _) (by decide)
  unfold TX
  omega
section
variable {b : Nat} {h : xH} {σ : AS}
theorem mm_read0 (ht : (TX σ.2.2.2).2.2 = 0) : mDo 146 b [] σ (-3) σ := by
  intro h hM
  obtain ⟨v1, v2, v3, v4, v5, v6, v7, v8, v9, v10, v11, v12, v13, h1⟩ := hM.obj
  obtain ⟨m', nu', mn', rs', ts', e, hM', hB, -⟩ := mm_isText hM
  refine ⟨m', ?_, hM', hB⟩
  simp only [c146, q146_0, q146_1, q146_4, q146_7, q146_9, q146_10, q146_11, q146_12, q146_15, q146_18, q146_20, q146_21, q146_22, q146_25, q146_26, q146_27, q146_28, q146_29, q146_31, q146_32, q146_35, q146_38, q146_39, q146_40, q146_43, q146_44, q146_45, q146_46, q146_47, q146_50, q146_53, q146_54, q146_56, q146_59, q146_61, q146_62, q146_63, q146_66, q146_67, q146_69, q146_70, q146_73, q146_76, q146_77, q146_79, q146_80, q146_83, q146_84, q146_85, q146_88, q146_89, q146_90, q146_93, q146_94, q146_95, q146_96, q146_99, q146_100, q146_101, q146_104, q146_107, q146_113, q146_117, q146_118, q146_121, q146_122, q146_125, q146_126, q146_127, rv_v, rv_n, rh_v, mu_at, isF_r, isK_r, fld_r, fset_r, gd0, gd1, gd2, gd3, gd4, gd5, gd6, gd7, gd8, gd9, gd10, gd11, gd12, gd13, inA_l, inW_l, inZ_l, inQ_l, aget_l, aset_l, qget_l, qset_l, isA_l, isA_q, alen_l, k2_i, k2_a, k2_n, k2_u, k2_l, ite_si, Option.isSome_some, List.cons_append, List.nil_append, List.length_cons, List.length_nil, Nat.reduceAdd, Nat.zero_add, Nat.reduceLT, Nat.reduceEqDiff, decide_true, decide_false, Bool.and_self, Bool.and_true, Bool.true_and, ↓reduceIte, List.set_cons_zero, List.set_cons_succ, Nat.reduceSub, Nat.add_left_cancel_iff, Nat.add_eq_left, Nat.left_eq_add, not_true_eq_false, not_false_eq_true, reduceCtorEq, i10, i01, ib10, ib01, beq_self_eq_true, eq_self, Int32.reduceLT, Int32.reduceToNatClampNeg, Int32.reduceAdd, Int32.reduceSub, Int32.reduceMul, Bool.or_true, Bool.true_or, Bool.or_false, Bool.false_or, Nat.reduceBEq, Nat.reduceMul, h1, e, if_pos ht]
theorem mm_read1 (ht : ¬ (TX σ.2.2.2).2.2 = 0) (hl : 0 < σ.1 45 + σ.1 50) : mDo 146 b [] σ (-5) σ := by
  intro h hM
  obtain ⟨v1, v2, v3, v4, v5, v6, v7, v8, v9, v10, v11, v12, v13, h1⟩ := hM.obj
  obtain ⟨m', nu', mn', rs', ts', e, hM', hB, hC, -⟩ := mm_isText hM
  have e1 := m_both1 (h := (h.1, m')) hC hM'.rw
  refine ⟨m', ?_, hM', hB⟩
  simp only [c146, q146_0, q146_1, q146_4, q146_7, q146_9, q146_10, q146_11, q146_12, q146_15, q146_18, q146_20, q146_21, q146_22, q146_25, q146_26, q146_27, q146_28, q146_29, q146_31, q146_32, q146_35, q146_38, q146_39, q146_40, q146_43, q146_44, q146_45, q146_46, q146_47, q146_50, q146_53, q146_54, q146_56, q146_59, q146_61, q146_62, q146_63, q146_66, q146_67, q146_69, q146_70, q146_73, q146_76, q146_77, q146_79, q146_80, q146_83, q146_84, q146_85, q146_88, q146_89, q146_90, q146_93, q146_94, q146_95, q146_96, q146_99, q146_100, q146_101, q146_104, q146_107, q146_113, q146_117, q146_118, q146_121, q146_122, q146_125, q146_126, q146_127, rv_v, rv_n, rh_v, mu_at, isF_r, isK_r, fld_r, fset_r, gd0, gd1, gd2, gd3, gd4, gd5, gd6, gd7, gd8, gd9, gd10, gd11, gd12, gd13, inA_l, inW_l, inZ_l, inQ_l, aget_l, aset_l, qget_l, qset_l, isA_l, isA_q, alen_l, k2_i, k2_a, k2_n, k2_u, k2_l, ite_si, Option.isSome_some, List.cons_append, List.nil_append, List.length_cons, List.length_nil, Nat.reduceAdd, Nat.zero_add, Nat.reduceLT, Nat.reduceEqDiff, decide_true, decide_false, Bool.and_self, Bool.and_true, Bool.true_and, ↓reduceIte, List.set_cons_zero, List.set_cons_succ, Nat.reduceSub, Nat.add_left_cancel_iff, Nat.add_eq_left, Nat.left_eq_add, not_true_eq_false, not_false_eq_true, reduceCtorEq, i10, i01, ib10, ib01, beq_self_eq_true, eq_self, Int32.reduceLT, Int32.reduceToNatClampNeg, Int32.reduceAdd, Int32.reduceSub, Int32.reduceMul, Bool.or_true, Bool.true_or, Bool.or_false, Bool.false_or, Nat.reduceBEq, Nat.reduceMul, isF_C, isK_C, fC0, fC1, fC6, fC7, fC8, fC9, fC10, fC11, fC12, fC13, sC7z, sC8, sC8z, sC9, sC10, sC10z, sw7, sw8, sw9, h1, e, hC, if_neg ht, e1, if_pos hl]
theorem m_read30 {S : Nat} {m' : xM} {nu' : Int32} {mn' rs' ts' : Nat → Int32} (ht : ¬ (TX σ.2.2.2).2.2 = 0) (hl : ¬ 0 < σ.1 45 + σ.1 50) (h3 : σ.1 3 = nI S) (hM : MM h.2 b σ) (e : cl 144 [.ref b] h = some (some (.int (TX σ.2.2.2).2.2), (h.1, m'))) (hM' : MM m' b σ) (hC : m' b = MC b (nI σ.2.1.length) (nI σ.2.2.2.length) (TX σ.2.2.2).2.1 nu' (TX σ.2.2.2).1.length) (hA : FA b m' m' mn' rs' ts') (hF : HF mn' rs' ts' (TX σ.2.2.2).1) : cl 146 [.ref b] h = rn 146 53 [.ref b, .int (nI (S + (stp (TX σ.2.2.2).1).length)), .int (nI (TX σ.2.2.2).1.length), unk] [] (h.1, m') := by
  obtain ⟨v1, v2, v3, v4, v5, v6, v7, v8, v9, v10, v11, v12, v13, h1⟩ := hM.obj
  have hL : σ.2.2.2.length ≤ 60 := by
    obtain ⟨sp, nu, fl, hf, sf, bf, asd, pf, mn, rs, ts, a1, a2, a3, a4, a5, a6, a7, a8, a9, a10, a11, a12, a13, a14, a15, a16, a17, a18⟩ := hM
    exact a15
  have hr := hM'.rw
  have e1 := m_both1 (h := (h.1, m')) hC hr
  have e2 := m_rdSum (h := (h.1, m')) (TX_len hL) hF (TX_ok _) hC hA.1 (TX σ.2.2.2).1.length 0 S (by omega)
  rw [show nI 0 = 0 from rfl, List.drop_zero] at e2
  rw [← e2]
  simp only [c146, q146_0, q146_1, q146_4, q146_7, q146_9, q146_10, q146_11, q146_12, q146_15, q146_18, q146_20, q146_21, q146_22, q146_25, q146_26, q146_27, q146_28, q146_29, q146_31, q146_32, q146_35, q146_38, q146_39, q146_40, q146_43, q146_44, q146_45, q146_46, q146_47, q146_50, q146_53, q146_54, q146_56, q146_59, q146_61, q146_62, q146_63, q146_66, q146_67, q146_69, q146_70, q146_73, q146_76, q146_77, q146_79, q146_80, q146_83, q146_84, q146_85, q146_88, q146_89, q146_90, q146_93, q146_94, q146_95, q146_96, q146_99, q146_100, q146_101, q146_104, q146_107, q146_113, q146_117, q146_118, q146_121, q146_122, q146_125, q146_126, q146_127, rv_v, rv_n, rh_v, mu_at, isF_r, isK_r, fld_r, fset_r, gd0, gd1, gd2, gd3, gd4, gd5, gd6, gd7, gd8, gd9, gd10, gd11, gd12, gd13, inA_l, inW_l, inZ_l, inQ_l, aget_l, aset_l, qget_l, qset_l, isA_l, isA_q, alen_l, k2_i, k2_a, k2_n, k2_u, k2_l, ite_si, Option.isSome_some, List.cons_append, List.nil_append, List.length_cons, List.length_nil, Nat.reduceAdd, Nat.zero_add, Nat.reduceLT, Nat.reduceEqDiff, decide_true, decide_false, Bool.and_self, Bool.and_true, Bool.true_and, ↓reduceIte, List.set_cons_zero, List.set_cons_succ, Nat.reduceSub, Nat.add_left_cancel_iff, Nat.add_eq_left, Nat.left_eq_add, not_true_eq_false, not_false_eq_true, reduceCtorEq, i10, i01, ib10, ib01, beq_self_eq_true, eq_self, Int32.reduceLT, Int32.reduceToNatClampNeg, Int32.reduceAdd, Int32.reduceSub, Int32.reduceMul, Bool.or_true, Bool.true_or, Bool.or_false, Bool.false_or, Nat.reduceBEq, Nat.reduceMul, isF_C, isK_C, fC0, fC1, fC6, fC7, fC8, fC9, fC10, fC11, fC12, fC13, sC7z, sC8, sC8z, sC9, sC10, sC10z, sw7, sw8, sw9, h1, e, hC, hr, if_neg ht, e1, if_neg hl, h3]
theorem mm_read2 {S : Nat} (ht : ¬ (TX σ.2.2.2).2.2 = 0) (hl : ¬ 0 < σ.1 45 + σ.1 50) (h3 : σ.1 3 = nI S) (hS : S ≤ 20) (hn : 20 < S + (stp (TX σ.2.2.2).1).length) : mDo 146 b [] σ (-4) σ := by
  intro h hM
  obtain ⟨m', nu', mn', rs', ts', e, hM', hB, hC, hA, hF⟩ := mm_isText hM
  have hL : σ.2.2.2.length ≤ 60 := by
    obtain ⟨sp, nu, fl, hf, sf, bf, asd, pf, mn, rs, ts, a1, a2, a3, a4, a5, a6, a7, a8, a9, a10, a11, a12, a13, a14, a15, a16, a17, a18⟩ := hM
    exact a15
  have hb := stp_len _ (TX_ok σ.2.2.2)
  have hb2 := TX_len hL
  have c1 : 20 < nI (S + (stp (TX σ.2.2.2).1).length) := nI_lt (a := 20) hn (by omega)
  refine ⟨m', ?_, hM', hB⟩
  show cl 146 [.ref b] h = _
  rw [m_read30 ht hl h3 hM e hM' hC hA hF]
  simp only [q146_0, q146_1, q146_4, q146_7, q146_9, q146_10, q146_11, q146_12, q146_15, q146_18, q146_20, q146_21, q146_22, q146_25, q146_26, q146_27, q146_28, q146_29, q146_31, q146_32, q146_35, q146_38, q146_39, q146_40, q146_43, q146_44, q146_45, q146_46, q146_47, q146_50, q146_53, q146_54, q146_56, q146_59, q146_61, q146_62, q146_63, q146_66, q146_67, q146_69, q146_70, q146_73, q146_76, q146_77, q146_79, q146_80, q146_83, q146_84, q146_85, q146_88, q146_89, q146_90, q146_93, q146_94, q146_95, q146_96, q146_99, q146_100, q146_101, q146_104, q146_107, q146_113, q146_117, q146_118, q146_121, q146_122, q146_125, q146_126, q146_127, rv_v, rv_n, rh_v, mu_at, isF_r, isK_r, fld_r, fset_r, gd0, gd1, gd2, gd3, gd4, gd5, gd6, gd7, gd8, gd9, gd10, gd11, gd12, gd13, inA_l, inW_l, inZ_l, inQ_l, aget_l, aset_l, qget_l, qset_l, isA_l, isA_q, alen_l, k2_i, k2_a, k2_n, k2_u, k2_l, ite_si, Option.isSome_some, List.cons_append, List.nil_append, List.length_cons, List.length_nil, Nat.reduceAdd, Nat.zero_add, Nat.reduceLT, Nat.reduceEqDiff, decide_true, decide_false, Bool.and_self, Bool.and_true, Bool.true_and, ↓reduceIte, List.set_cons_zero, List.set_cons_succ, Nat.reduceSub, Nat.add_left_cancel_iff, Nat.add_eq_left, Nat.left_eq_add, not_true_eq_false, not_false_eq_true, reduceCtorEq, i10, i01, ib10, ib01, beq_self_eq_true, eq_self, Int32.reduceLT, Int32.reduceToNatClampNeg, Int32.reduceAdd, Int32.reduceSub, Int32.reduceMul, Bool.or_true, Bool.true_or, Bool.or_false, Bool.false_or, Nat.reduceBEq, Nat.reduceMul, if_pos c1]
theorem mm_read3 {S : Nat} (ht : ¬ (TX σ.2.2.2).2.2 = 0) (hl : ¬ 0 < σ.1 45 + σ.1 50) (h3 : σ.1 3 = nI S) (hn : S + (stp (TX σ.2.2.2).1).length ≤ 20) : mDo 146 b [] σ (nI (S + (stp (TX σ.2.2.2).1).length)) (bldL σ.1 S (stp (TX σ.2.2.2).1), pushH σ.2.1 σ.1, σ.2.2.1, []) := by
  intro h hM
  obtain ⟨m', nu', mn', rs', ts', e, hM', hB, hC, hA, hF⟩ := mm_isText hM
  have e0 := m_read30 ht hl h3 hM e hM' hC hA hF
  have hL : σ.2.2.2.length ≤ 60 := by
    obtain ⟨sp, nu, fl, hf, sf, bf, asd, pf, mn, rs, ts, a1, a2, a3, a4, a5, a6, a7, a8, a9, a10, a11, a12, a13, a14, a15, a16, a17, a18⟩ := hM
    exact a15
  have hlen := TX_len hL
  have hok := TX_ok σ.2.2.2
  generalize hT : (TX σ.2.2.2).1 = F at *
  generalize hs : (TX σ.2.2.2).2.1 = s at *
  have c1 : ¬ 20 < nI (S + (stp F).length) := nI_nlt (a := 20) hn (by decide)
  obtain ⟨sp, nu, fl, hf, sf, bf, asd, pf, mn, rs, ts, a1, a2, a3, a4, a5, a6, a7, a8, a9, a10, a11, a12, a13, a14, a15, a16, a17, a18⟩ := hM'
  obtain ⟨g7, g8, g9, -⟩ := hA
  obtain ⟨hf', er, hR⟩ := m_record (h := (h.1, m')) (L := σ.2.1) (r := σ.1) a2 hC a3 a4 a5
  have hp : (pushH σ.2.1 σ.1).length ≤ 6 := by unfold pushH; split <;> simp <;> omega
  have er : cl 100 [.ref b] (h.1, m') = some (none, (h.1, mu (mu m' (b + 2) (.inl (0, 324, .inl hf'))) b (MC b (nI (pushH σ.2.1 σ.1).length) (nI σ.2.2.2.length) s nu' F.length))) := er
  generalize hm2 : mu (mu m' (b + 2) (.inl (0, 324, .inl hf'))) b (MC b (nI (pushH σ.2.1 σ.1).length) (nI σ.2.2.2.length) s nu' F.length) = m2 at er
  have i0 : m2 b = MC b (nI (pushH σ.2.1 σ.1).length) (nI σ.2.2.2.length) s nu' F.length := by rw [← hm2, mu_s]
  have i2 : m2 (b + 2) = .inl (0, 324, .inl hf') := by rw [← hm2, mu_n _ _ (by omega), mu_s]
  have ik : ∀ q, q ≠ b → q ≠ b + 2 → m2 q = m' q := fun q q1 q2 => by rw [← hm2, mu_n _ _ q1, mu_n _ _ q2]
  have i1 : m2 (b + 1) = .inl (0, 54, .inl σ.1) := by rw [ik _ (by omega) (by omega)]; exact a3
  obtain ⟨v3', eo⟩ := m_rdOut (h := (h.1, m2)) (al := nI (S + (stp F).length)) hlen hF hok i0 (by show m2 _ = _; rw [ik _ (by omega) (by omega)]; exact g7) (by show m2 _ = _; rw [ik _ (by omega) (by omega)]; exact g8) (by show m2 _ = _; rw [ik _ (by omega) (by omega)]; exact g9) F.length 0 S σ.1 unk (by omega) (by rw [List.drop_zero]; exact hn) h3
  rw [show nI 0 = 0 from rfl, List.drop_zero, hw_eq (h := (h.1, m2)) i1] at eo
  have f1 : (hw (h.1, m2) (b + 1) (bldL σ.1 S (stp F))).2 b = _ := hw_n (h := (h.1, m2)) i0 (by omega)
  have f2 := hw_w (h.1, m2) (b + 1) (bldL σ.1 S (stp F))
  have f3 := bldL_3 (stp F) σ.1 S h3
  refine ⟨mu (mu m2 (b + 1) (.inl (0, 54, .inl (bldL σ.1 S (stp F))))) b (MC b (nI (pushH σ.2.1 σ.1).length) 0 s nu' F.length), ?_, ⟨nI s, nu', nI F.length, hf', sf, bf, asd, pf, mn, rs, ts, mu_s _ _ _, hp, by rw [mu_n _ _ (by omega), mu_s], by rw [mu_n _ _ (by omega), mu_n _ _ (by omega)]; exact i2, hR, by rw [mu_n _ _ (by omega), mu_n _ _ (by omega), ik _ (by omega) (by omega)]; exact a6, a7, a8, by rw [mu_n _ _ (by omega), mu_n _ _ (by omega), ik _ (by omega) (by omega)]; exact a9, a10, a11, by rw [mu_n _ _ (by omega), mu_n _ _ (by omega), ik _ (by omega) (by omega)]; exact a12, by rw [mu_n _ _ (by omega), mu_n _ _ (by omega), ik _ (by omega) (by omega)]; exact a13, fun j x hx => by simp at hx, Nat.zero_le _, by rw [mu_n _ _ (by omega), mu_n _ _ (by omega), ik _ (by omega) (by omega)]; exact a16, by rw [mu_n _ _ (by omega), mu_n _ _ (by omega), ik _ (by omega) (by omega)]; exact a17, by rw [mu_n _ _ (by omega), mu_n _ _ (by omega), ik _ (by omega) (by omega)]; exact a18⟩, fun q hq => by rw [mu_n _ _ (by omega), mu_n _ _ (by omega), ik _ (by omega) (by omega)]; exact hB q hq⟩
  show cl 146 [.ref b] h = _
  have s2 : rn 146 53 [.ref b, .int (nI (S + (stp F).length)), .int (nI F.length), unk] [] (h.1, m') = rn 146 68 [.ref b, .int (nI (S + (stp F).length)), .int 0, unk] [] (h.1, m2) := by
    simp only [q146_0, q146_1, q146_4, q146_7, q146_9, q146_10, q146_11, q146_12, q146_15, q146_18, q146_20, q146_21, q146_22, q146_25, q146_26, q146_27, q146_28, q146_29, q146_31, q146_32, q146_35, q146_38, q146_39, q146_40, q146_43, q146_44, q146_45, q146_46, q146_47, q146_50, q146_53, q146_54, q146_56, q146_59, q146_61, q146_62, q146_63, q146_66, q146_67, q146_69, q146_70, q146_73, q146_76, q146_77, q146_79, q146_80, q146_83, q146_84, q146_85, q146_88, q146_89, q146_90, q146_93, q146_94, q146_95, q146_96, q146_99, q146_100, q146_101, q146_104, q146_107, q146_113, q146_117, q146_118, q146_121, q146_122, q146_125, q146_126, q146_127, rv_v, rv_n, rh_v, mu_at, isF_r, isK_r, fld_r, fset_r, gd0, gd1, gd2, gd3, gd4, gd5, gd6, gd7, gd8, gd9, gd10, gd11, gd12, gd13, inA_l, inW_l, inZ_l, inQ_l, aget_l, aset_l, qget_l, qset_l, isA_l, isA_q, alen_l, k2_i, k2_a, k2_n, k2_u, k2_l, ite_si, Option.isSome_some, List.cons_append, List.nil_append, List.length_cons, List.length_nil, Nat.reduceAdd, Nat.zero_add, Nat.reduceLT, Nat.reduceEqDiff, decide_true, decide_false, Bool.and_self, Bool.and_true, Bool.true_and, ↓reduceIte, List.set_cons_zero, List.set_cons_succ, Nat.reduceSub, Nat.add_left_cancel_iff, Nat.add_eq_left, Nat.left_eq_add, not_true_eq_false, not_false_eq_true, reduceCtorEq, i10, i01, ib10, ib01, beq_self_eq_true, eq_self, Int32.reduceLT, Int32.reduceToNatClampNeg, Int32.reduceAdd, Int32.reduceSub, Int32.reduceMul, Bool.or_true, Bool.true_or, Bool.or_false, Bool.false_or, Nat.reduceBEq, Nat.reduceMul, isF_C, isK_C, fC0, fC1, fC6, fC7, fC8, fC9, fC10, fC11, fC12, fC13, sC7z, sC8, sC8z, sC9, sC10, sC10z, sw7, sw8, sw9, hC, er, if_neg c1]
  rw [e0, s2, eo]
  simp only [q146_0, q146_1, q146_4, q146_7, q146_9, q146_10, q146_11, q146_12, q146_15, q146_18, q146_20, q146_21, q146_22, q146_25, q146_26, q146_27, q146_28, q146_29, q146_31, q146_32, q146_35, q146_38, q146_39, q146_40, q146_43, q146_44, q146_45, q146_46, q146_47, q146_50, q146_53, q146_54, q146_56, q146_59, q146_61, q146_62, q146_63, q146_66, q146_67, q146_69, q146_70, q146_73, q146_76, q146_77, q146_79, q146_80, q146_83, q146_84, q146_85, q146_88, q146_89, q146_90, q146_93, q146_94, q146_95, q146_96, q146_99, q146_100, q146_101, q146_104, q146_107, q146_113, q146_116, q146_117, q146_118, q146_121, q146_122, q146_125, q146_126, q146_127, rv_v, rv_n, rh_v, mu_at, isF_r, isK_r, fld_r, fset_r, gd0, gd1, gd2, gd3, gd4, gd5, gd6, gd7, gd8, gd9, gd10, gd11, gd12, gd13, inA_l, inW_l, inZ_l, inQ_l, aget_l, aset_l, qget_l, qset_l, isA_l, isA_q, alen_l, k2_i, k2_a, k2_n, k2_u, k2_l, ite_si, Option.isSome_some, List.cons_append, List.nil_append, List.length_cons, List.length_nil, Nat.reduceAdd, Nat.zero_add, Nat.reduceLT, Nat.reduceEqDiff, decide_true, decide_false, Bool.and_self, Bool.and_true, Bool.true_and, ↓reduceIte, List.set_cons_zero, List.set_cons_succ, Nat.reduceSub, Nat.add_left_cancel_iff, Nat.add_eq_left, Nat.left_eq_add, not_true_eq_false, not_false_eq_true, reduceCtorEq, i10, i01, ib10, ib01, beq_self_eq_true, eq_self, Int32.reduceLT, Int32.reduceToNatClampNeg, Int32.reduceAdd, Int32.reduceSub, Int32.reduceMul, Bool.or_true, Bool.true_or, Bool.or_false, Bool.false_or, Nat.reduceBEq, Nat.reduceMul, isF_C, isK_C, fC0, fC1, fC6, fC7, fC8, fC9, fC10, fC11, fC12, fC13, sC7z, sC8, sC8z, sC9, sC10, sC10z, sw7, sw8, sw9, f1, f2, f3]
  rfl
end
