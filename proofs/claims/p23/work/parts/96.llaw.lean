section
variable {k a bs L : Nat} {z : Nat × Nat} {m : xM} {σ : AS} {xs : Nat → Int32}
/-- what is asked after each change -/
theorem p_asks (h : wlI k a m σ) (hk : k < 800) : cl 81 [.ref a, .ref (a + 82), .ref (a + 83), .ref (a + 84), .ref (a + 85), .ref (a + 87)] (z, m) = some (some (.int 1), (z, m)) ∧ cl 83 [.ref a, .ref (a + 82), .ref (a + 83), .ref (a + 84), .ref (a + 85), .ref (a + 86), .ref (a + 87)] (z, m) = some (some (.int 1), (z, m)) := by
  obtain ⟨S, u0, u1, rf, tf, pf, bf, cf, nf, hC, ⟨er, et, ep, eb, ec, en⟩, hQ⟩ := h
  have hmp := hQ.mp
  have hsg := hQ.sg
  obtain ⟨hI, ⟨h3, h45, h50, hS, hu⟩, hc, ⟨n0, n1, n2, n3⟩, hrt, hp, hcar, z0, z1⟩ := hQ
  exact ⟨p_areSteps er et ep eb en hC hI (by omega) h3 hS hrt hmp n0 n3, p_areCrews er et ep eb ec en hC hI (by omega) h3 hS h45 h50 hu hc n0 n1 n2 n3 hcar hrt (fun j hj => ((hp j (by omega)).1 hj).1) (fun j hj hj2 => ((hp j hj).2.2 hj2).1) hsg⟩
theorem p_woulds {s1 s2 : Nat} (h : wlI k a m σ) (hk : k < 800) (hq : a + 88 ≤ s1) : ∃ (m' : xM) (d : Nat), cl 84 [.ref a, .ref (a + 82), .ref (a + 83), .ref (a + 86), .ref (a + 87)] ((s1, s2), m) = some (some (.int 1), ((s1 + 3 * d, s2 + 52 * d), m')) ∧ d ≤ 21 ∧ wlI k a m' σ ∧ ∀ x, x < a → m' x = m x := by
  obtain ⟨S, u0, u1, rf, tf, pf, bf, cf, nf, hC, hw, hQ⟩ := h
  have hQ0 := hQ
  obtain ⟨hI, ⟨h3, h45, h50, hS, hu⟩, hc, ⟨n0, n1, n2, n3⟩, hrt, hp, hcar, z0, z1⟩ := hQ
  obtain ⟨m', d, e, hd, g1, g2⟩ := p_would (s2 := s2) hq hC ⟨hw.1, hw.2.1, hw.2.2.2.2.1, hw.2.2.2.2.2⟩ hI hk h3 hS n0 n1 n3 hc hrt
  exact ⟨m', d, e, hd, ⟨S, u0, u1, rf, tf, pf, bf, cf, nf, g1, hw.fr (fun x q1 q2 => g2 x (by omega) (by omega)), hQ0⟩, fun x hx => g2 x (by omega) (by omega)⟩
theorem p_turn {s1 s2 t : Nat} {v10 : Value} (hb : bs < a) (hm : m bs = .inl (3, L, .inl xs)) (hL : L < 1000) (ht : t < 50) (hI : wlI t a m σ) (hq : a + 88 ≤ s1) : ∃ (m' : xM) (σ' : AS) (d : Nat) (w10 : Value), rn 88 113 [.ref bs, .ref a, .ref (a + 82), .ref (a + 83), .ref (a + 84), .ref (a + 85), .ref (a + 86), .ref (a + 87), .int 1, .int (nI t), v10] [] ((s1, s2), m) = rn 88 113 [.ref bs, .ref a, .ref (a + 82), .ref (a + 83), .ref (a + 84), .ref (a + 85), .ref (a + 86), .ref (a + 87), .int 1, .int (nI (t + 1)), w10] [] ((s1 + 3 * d, s2 + 52 * d), m') ∧ d ≤ 21 ∧ wlI (t + 1) a m' σ' ∧ m' bs = .inl (3, L, .inl xs) := by
  have q1 : nI t < 50 := nI_lt (b := 50) ht (by omega)
  have wc := p_cell (h := ((s1, s2), m)) (k := t) hm hL (by omega)
  generalize cel L xs t = X at wc
  have key : ∀ K : Nat, K < 15 → rn 88 113 [.ref bs, .ref a, .ref (a + 82), .ref (a + 83), .ref (a + 84), .ref (a + 85), .ref (a + 86), .ref (a + 87), .int 1, .int (nI t), v10] [] ((s1, s2), m) = rn 88 164 [.ref bs, .ref a, .ref (a + 82), .ref (a + 83), .ref (a + 84), .ref (a + 85), .ref (a + 86), .ref (a + 87), .int 1, .int (nI t), .int X] [.int (nI K), .ref (a + 87), .ref (a + 86), .ref (a + 85), .ref (a + 84), .ref (a + 83), .ref (a + 82), .ref a] ((s1, s2), m) → ∃ (m' : xM) (σ' : AS) (d : Nat) (w10 : Value), rn 88 113 [.ref bs, .ref a, .ref (a + 82), .ref (a + 83), .ref (a + 84), .ref (a + 85), .ref (a + 86), .ref (a + 87), .int 1, .int (nI t), v10] [] ((s1, s2), m) = rn 88 113 [.ref bs, .ref a, .ref (a + 82), .ref (a + 83), .ref (a + 84), .ref (a + 85), .ref (a + 86), .ref (a + 87), .int 1, .int (nI (t + 1)), w10] [] ((s1 + 3 * d, s2 + 52 * d), m') ∧ d ≤ 21 ∧ wlI (t + 1) a m' σ' ∧ m' bs = .inl (3, L, .inl xs) := by
    intro K hK e0
    obtain ⟨S, u0, u1, rf, tf, pf, bf, cf, nf, hC, hw, hQ⟩ := hI
    obtain ⟨m1, σ1, ea, hI1, hf1⟩ := p_acts (k := t) (z := (s1, s2)) (x := X) (by omega) hK hC hw hQ
    obtain ⟨ek1, ek2⟩ := p_asks (z := (s1, s2)) hI1 (by omega)
    have hm1 : m1 bs = _ := (hf1 bs (by omega)).trans hm
    have hne : ¬ (5 : Int32) = 0 := by decide
    have e5 : nI t - nI t / 5 * 5 = nI (t % 5) := pk_rem (d := 5) (by omega) (by omega) (by omega)
    by_cases h4 : t % 5 = 4
    · have c4 : nI (t % 5) = 4 := by rw [h4]; rfl
      obtain ⟨m2, d, ew, hd, hI2, hf2⟩ := p_woulds (s2 := s2) hI1 (show t + 1 < 800 by omega) hq
      refine ⟨m2, σ1, d, .int X, ?_, hd, hI2, (hf2 bs hb).trans hm1⟩
      rw [e0]
      simp only [q88_164, q88_166, q88_169, q88_172, q88_172N, q88_173, q88_173N, q88_174, q88_174N, q88_175, q88_175N, q88_177, q88_177N, q88_179, q88_179N, q88_181, q88_184, q88_187, q88_187N, q88_188, q88_188N, q88_189, q88_189N, q88_190, q88_190N, q88_192, q88_192N, q88_194, q88_194N, q88_196, q88_196N, q88_198, q88_201, q88_204, q88_206, q88_207, q88_208, q88_209, q88_212, q88_212N, q88_213, q88_213N, q88_214, q88_214N, q88_215, q88_215N, q88_217, q88_217N, q88_219, q88_222, q88_225, q88_226, q88_229, q88_230, q88_232, q88_235, rv_v, rv_n, rh_v, mu_at, isF_r, isK_r, fld_r, fset_r, gd0, gd1, gd2, gd3, gd4, gd5, gd6, gd7, gd8, gd9, gd10, gd11, gd12, gd13, inA_l, inW_l, inZ_l, inQ_l, aget_l, aset_l, qget_l, qset_l, isA_l, isA_q, alen_l, k2_i, k2_a, k2_n, k2_u, k2_l, ite_si, Option.isSome_some, List.cons_append, List.nil_append, List.length_cons, List.length_nil, Nat.reduceAdd, Nat.zero_add, Nat.reduceLT, Nat.reduceEqDiff, decide_true, decide_false, Bool.and_self, Bool.and_true, Bool.true_and, ↓reduceIte, List.set_cons_zero, List.set_cons_succ, Nat.reduceSub, Nat.add_left_cancel_iff, Nat.add_eq_left, Nat.left_eq_add, not_true_eq_false, not_false_eq_true, reduceCtorEq, i10, i01, ib10, ib01, beq_self_eq_true, eq_self, Int32.reduceLT, Int32.reduceToNatClampNeg, Int32.reduceAdd, Int32.reduceSub, Int32.reduceMul, Bool.or_true, Bool.true_or, Bool.or_false, Bool.false_or, Nat.reduceBEq, Nat.reduceMul, ea, ek1, ek2, hne, e5, c4, ew, nI_1]
    · have c4 : ¬ nI (t % 5) = 4 := fun q => h4 (nI_inj (y := 4) (by omega) (by omega) q)
      refine ⟨m1, σ1, 0, .int X, ?_, by omega, hI1, hm1⟩
      rw [e0]
      simp only [q88_164, q88_166, q88_169, q88_172, q88_172N, q88_173, q88_173N, q88_174, q88_174N, q88_175, q88_175N, q88_177, q88_177N, q88_179, q88_179N, q88_181, q88_184, q88_187, q88_187N, q88_188, q88_188N, q88_189, q88_189N, q88_190, q88_190N, q88_192, q88_192N, q88_194, q88_194N, q88_196, q88_196N, q88_198, q88_201, q88_204, q88_206, q88_207, q88_208, q88_209, q88_212, q88_212N, q88_213, q88_213N, q88_214, q88_214N, q88_215, q88_215N, q88_217, q88_217N, q88_219, q88_222, q88_225, q88_226, q88_229, q88_230, q88_232, q88_235, rv_v, rv_n, rh_v, mu_at, isF_r, isK_r, fld_r, fset_r, gd0, gd1, gd2, gd3, gd4, gd5, gd6, gd7, gd8, gd9, gd10, gd11, gd12, gd13, inA_l, inW_l, inZ_l, inQ_l, aget_l, aset_l, qget_l, qset_l, isA_l, isA_q, alen_l, k2_i, k2_a, k2_n, k2_u, k2_l, ite_si, Option.isSome_some, List.cons_append, List.nil_append, List.length_cons, List.length_nil, Nat.reduceAdd, Nat.zero_add, Nat.reduceLT, Nat.reduceEqDiff, decide_true, decide_false, Bool.and_self, Bool.and_true, Bool.true_and, ↓reduceIte, List.set_cons_zero, List.set_cons_succ, Nat.reduceSub, Nat.add_left_cancel_iff, Nat.add_eq_left, Nat.left_eq_add, not_true_eq_false, not_false_eq_true, reduceCtorEq, i10, i01, ib10, ib01, beq_self_eq_true, eq_self, Int32.reduceLT, Int32.reduceToNatClampNeg, Int32.reduceAdd, Int32.reduceSub, Int32.reduceMul, Bool.or_true, Bool.true_or, Bool.or_false, Bool.false_or, Nat.reduceBEq, Nat.reduceMul, ea, ek1, ek2, hne, e5, if_neg c4, nI_1, Nat.mul_zero, Nat.add_zero]
  by_cases h5 : t < 5
  · have c5 : nI t < 5 := nI_lt (b := 5) h5 (by omega)
    refine key 0 (by omega) ?_
    rw [q88_113]
    simp only [q88_115, q88_117, q88_120, q88_122, q88_125, q88_125N, q88_126, q88_128, q88_131, q88_133, q88_133N, q88_134, q88_134N, q88_135, q88_135N, q88_136, q88_136N, q88_138, q88_138N, q88_140, q88_140N, q88_142, q88_142N, q88_144, q88_146, q88_147, q88_150, q88_151, q88_154, q88_156, q88_158, q88_159, q88_161, rv_v, rv_n, rh_v, mu_at, isF_r, isK_r, fld_r, fset_r, gd0, gd1, gd2, gd3, gd4, gd5, gd6, gd7, gd8, gd9, gd10, gd11, gd12, gd13, inA_l, inW_l, inZ_l, inQ_l, aget_l, aset_l, qget_l, qset_l, isA_l, isA_q, alen_l, k2_i, k2_a, k2_n, k2_u, k2_l, ite_si, Option.isSome_some, List.cons_append, List.nil_append, List.length_cons, List.length_nil, Nat.reduceAdd, Nat.zero_add, Nat.reduceLT, Nat.reduceEqDiff, decide_true, decide_false, Bool.and_self, Bool.and_true, Bool.true_and, ↓reduceIte, List.set_cons_zero, List.set_cons_succ, Nat.reduceSub, Nat.add_left_cancel_iff, Nat.add_eq_left, Nat.left_eq_add, not_true_eq_false, not_false_eq_true, reduceCtorEq, i10, i01, ib10, ib01, beq_self_eq_true, eq_self, Int32.reduceLT, Int32.reduceToNatClampNeg, Int32.reduceAdd, Int32.reduceSub, Int32.reduceMul, Bool.or_true, Bool.true_or, Bool.or_false, Bool.false_or, Nat.reduceBEq, Nat.reduceMul, if_pos q1, wc, if_pos c5]
    rfl
  · have c5 : ¬ nI t < 5 := nI_nlt (b := 5) (by omega) (by omega)
    have wl := p_low (X >>> (18 &&& 31)) (D := 15) (d := 15) (by omega) (by omega) rfl ((s1, s2), m)
    refine key (lw (X >>> (18 &&& 31)) 15) (lw_lt _ (by omega)) ?_
    rw [q88_113]
    simp only [q88_115, q88_117, q88_120, q88_122, q88_125, q88_125N, q88_126, q88_128, q88_131, q88_133, q88_133N, q88_134, q88_134N, q88_135, q88_135N, q88_136, q88_136N, q88_138, q88_138N, q88_140, q88_140N, q88_142, q88_142N, q88_144, q88_146, q88_147, q88_150, q88_151, q88_154, q88_156, q88_158, q88_159, q88_161, rv_v, rv_n, rh_v, mu_at, isF_r, isK_r, fld_r, fset_r, gd0, gd1, gd2, gd3, gd4, gd5, gd6, gd7, gd8, gd9, gd10, gd11, gd12, gd13, inA_l, inW_l, inZ_l, inQ_l, aget_l, aset_l, qget_l, qset_l, isA_l, isA_q, alen_l, k2_i, k2_a, k2_n, k2_u, k2_l, ite_si, Option.isSome_some, List.cons_append, List.nil_append, List.length_cons, List.length_nil, Nat.reduceAdd, Nat.zero_add, Nat.reduceLT, Nat.reduceEqDiff, decide_true, decide_false, Bool.and_self, Bool.and_true, Bool.true_and, ↓reduceIte, List.set_cons_zero, List.set_cons_succ, Nat.reduceSub, Nat.add_left_cancel_iff, Nat.add_eq_left, Nat.left_eq_add, not_true_eq_false, not_false_eq_true, reduceCtorEq, i10, i01, ib10, ib01, beq_self_eq_true, eq_self, Int32.reduceLT, Int32.reduceToNatClampNeg, Int32.reduceAdd, Int32.reduceSub, Int32.reduceMul, Bool.or_true, Bool.true_or, Bool.or_false, Bool.false_or, Nat.reduceBEq, Nat.reduceMul, if_pos q1, wc, if_neg c5, wl]
theorem p_lawLoop (hb : bs < a) (hL : L < 1000) : ∀ (d t s1 s2 : Nat) (m : xM) (σ : AS) (v10 : Value), t + d = 50 → m bs = .inl (3, L, .inl xs) → wlI t a m σ → a + 88 ≤ s1 → ∃ hf : xH, rn 88 113 [.ref bs, .ref a, .ref (a + 82), .ref (a + 83), .ref (a + 84), .ref (a + 85), .ref (a + 86), .ref (a + 87), .int 1, .int (nI t), v10] [] ((s1, s2), m) = some (some (.int 1), hf) ∧ hf.1.1 ≤ s1 + 63 * d ∧ hf.1.2 ≤ s2 + 1092 * d := by
  intro d
  induction d with
  | zero =>
    intro t s1 s2 m σ v10 ht hm hI hq
    obtain rfl : t = 50 := by omega
    have q1 : ¬ nI 50 < 50 := by decide
    refine ⟨((s1, s2), m), ?_, Nat.le_refl _, Nat.le_refl _⟩
    rw [q88_113]
    simp only [q88_115, q88_117, q88_120, q88_122, q88_125, q88_125N, q88_126, q88_128, q88_131, q88_133, q88_133N, q88_134, q88_134N, q88_135, q88_135N, q88_136, q88_136N, q88_138, q88_138N, q88_140, q88_140N, q88_142, q88_142N, q88_144, q88_146, q88_147, q88_150, q88_151, q88_154, q88_156, q88_158, q88_159, q88_161, q88_164, q88_166, q88_169, q88_172, q88_172N, q88_173, q88_173N, q88_174, q88_174N, q88_175, q88_175N, q88_177, q88_177N, q88_179, q88_179N, q88_181, q88_184, q88_187, q88_187N, q88_188, q88_188N, q88_189, q88_189N, q88_190, q88_190N, q88_192, q88_192N, q88_194, q88_194N, q88_196, q88_196N, q88_198, q88_201, q88_204, q88_206, q88_207, q88_208, q88_209, q88_212, q88_212N, q88_213, q88_213N, q88_214, q88_214N, q88_215, q88_215N, q88_217, q88_217N, q88_219, q88_222, q88_225, q88_226, q88_229, q88_230, q88_232, q88_235, q88_238, q88_240, rv_v, rv_n, rh_v, mu_at, isF_r, isK_r, fld_r, fset_r, gd0, gd1, gd2, gd3, gd4, gd5, gd6, gd7, gd8, gd9, gd10, gd11, gd12, gd13, inA_l, inW_l, inZ_l, inQ_l, aget_l, aset_l, qget_l, qset_l, isA_l, isA_q, alen_l, k2_i, k2_a, k2_n, k2_u, k2_l, ite_si, Option.isSome_some, List.cons_append, List.nil_append, List.length_cons, List.length_nil, Nat.reduceAdd, Nat.zero_add, Nat.reduceLT, Nat.reduceEqDiff, decide_true, decide_false, Bool.and_self, Bool.and_true, Bool.true_and, ↓reduceIte, List.set_cons_zero, List.set_cons_succ, Nat.reduceSub, Nat.add_left_cancel_iff, Nat.add_eq_left, Nat.left_eq_add, not_true_eq_false, not_false_eq_true, reduceCtorEq, i10, i01, ib10, ib01, beq_self_eq_true, eq_self, Int32.reduceLT, Int32.reduceToNatClampNeg, Int32.reduceAdd, Int32.reduceSub, Int32.reduceMul, Bool.or_true, Bool.true_or, Bool.or_false, Bool.false_or, Nat.reduceBEq, Nat.reduceMul, if_neg q1]
  | succ d ih =>
    intro t s1 s2 m σ v10 ht hm hI hq
    obtain ⟨m1, σ1, d1, w10, e1, hd1, hI1, hm1⟩ := p_turn (s2 := s2) (v10 := v10) hb hm hL (show t < 50 by omega) hI hq
    obtain ⟨hf, e2, b1, b2⟩ := ih (t + 1) (s1 + 3 * d1) (s2 + 52 * d1) m1 σ1 w10 (by omega) hm1 hI1 (by omega)
    refine ⟨hf, e1.trans e2, ?_, ?_⟩
    · have : 3 * d1 ≤ 3 * 21 := Nat.mul_le_mul_left _ hd1
      omega
    · have : 52 * d1 ≤ 52 * 21 := Nat.mul_le_mul_left _ hd1
      omega
theorem wlQ.s0 : wlQ 0 0 0 0 r0 (fun _ => 0) (fun _ => 0) (fun _ => 0) (fun _ => 0) (fun _ => 0) (upd (upd (fun _ => 0) 0 24) 1 120) := by
  have e47 : r0 47 = 0 := by rw [r0_at]; rfl
  have e52 : r0 52 = 0 := by rw [r0_at]; rfl
  refine ⟨RI0, ⟨by rw [r0_at]; rfl, by rw [r0_at]; rfl, by rw [r0_at]; rfl, by omega, by omega⟩, ⟨?_, ?_, ?_, ?_, ?_, ?_, ?_, ?_, ?_, ?_, fun q => absurd e47 q, fun q => absurd e52 q⟩, ⟨?_, ?_, ?_, ?_⟩, fun j hj => absurd hj (by omega), fun j hj => absurd hj (by omega), ?_, fun _ => rfl, fun _ => rfl⟩
  · rw [r0_at]; rfl
  · rw [r0_at]; rfl
  · rw [r0_at]; rfl
  · rw [r0_at]; rfl
  · rw [r0_at]; rfl
  · rw [r0_at]; rfl
  · rw [r0_at]; rfl
  · rw [r0_at]; rfl
  · rw [r0_at]; rfl
  · rw [r0_at]; rfl
  · rw [r0_at]; rfl
  · rw [r0_at]; rfl
  · rw [r0_at]; rfl
  · rw [r0_at]; rfl
  · have e48 : r0 48 = 0 := by rw [r0_at]; rfl
    have e53 : r0 53 = 0 := by rw [r0_at]; rfl
    have e46 : r0 46 = 0 := by rw [r0_at]; rfl
    have e51 : r0 51 = 0 := by rw [r0_at]; rfl
    rw [e47, e52, e48, e53, e46, e51]
    show r0 1 * (0 + 0) = 0 + 0 + (0 + 0) + (0 + 0)
    generalize r0 1 = w
    grind
theorem p_law (hb : bs < a) (hL : L < 1000) (hm : m bs = .inl (3, L, .inl xs)) : ∃ hf : xH, rn 88 0 [.ref bs, unk, unk, unk, unk, unk, unk, unk, unk, unk, unk] [] ((a, 0), m) = some (some (.int 1), hf) ∧ hf.1.1 ≤ a + 4000 ∧ hf.1.2 ≤ 60000 := by
  obtain ⟨m1, e1, g1, f1⟩ := p_iMC (a := a) (s := 7) (m := mu m a (.inr (7, [.null, .null, .null, .null, .null, .null, .null]))) (mu_s _ _ _)
  have hm1 : m1 bs = .inl (3, L, .inl xs) := by
    rw [f1 bs (by omega), mu_n _ _ (by omega)]
    exact hm
  simp only [Nat.add_assoc, Nat.reduceAdd] at e1
  have s1 : rn 88 0 [.ref bs, unk, unk, unk, unk, unk, unk, unk, unk, unk, unk] [] ((a, 0), m) = rn 88 53 [.ref bs, .ref a, .ref (a + 82), .ref (a + 83), .ref (a + 84), .ref (a + 85), .ref (a + 86), .ref (a + 87), unk, unk, unk] [] ((a + 88, 1076), mu (mu (mu (mu (mu (mu m1 (a + 82) (.inl (0, 20, .inl (fun _ => 0)))) (a + 83) (.inl (0, 20, .inl (fun _ => 0)))) (a + 84) (.inl (0, 20, .inl (fun _ => 0)))) (a + 85) (.inl (0, 20, .inl (fun _ => 0)))) (a + 86) (.inl (0, 12, .inl (fun _ => 0)))) (a + 87) (.inl (0, 4, .inl (upd (upd (fun _ => 0) 0 24) 1 120)))) := by
    simp only [q88_0, q88_3, q88_4, q88_7, q88_7N, q88_8, q88_10, q88_12, q88_12N, q88_13, q88_15, q88_17, q88_17N, q88_18, q88_20, q88_22, q88_22N, q88_24, q88_26, q88_28, q88_28N, q88_30, q88_32, q88_34, q88_34N, q88_36, q88_37, q88_39, q88_39N, q88_41, q88_41N, q88_43, q88_44, q88_46, q88_47, q88_47N, q88_49, q88_50, q88_52, rv_v, rv_n, rh_v, mu_at, isF_r, isK_r, fld_r, fset_r, gd0, gd1, gd2, gd3, gd4, gd5, gd6, gd7, gd8, gd9, gd10, gd11, gd12, gd13, inA_l, inW_l, inZ_l, inQ_l, aget_l, aset_l, qget_l, qset_l, isA_l, isA_q, alen_l, k2_i, k2_a, k2_n, k2_u, k2_l, ite_si, Option.isSome_some, List.cons_append, List.nil_append, List.length_cons, List.length_nil, Nat.reduceAdd, Nat.zero_add, Nat.reduceLT, Nat.reduceEqDiff, decide_true, decide_false, Bool.and_self, Bool.and_true, Bool.true_and, ↓reduceIte, List.set_cons_zero, List.set_cons_succ, Nat.reduceSub, Nat.add_left_cancel_iff, Nat.add_eq_left, Nat.left_eq_add, not_true_eq_false, not_false_eq_true, reduceCtorEq, i10, i01, ib10, ib01, beq_self_eq_true, eq_self, Int32.reduceLT, Int32.reduceToNatClampNeg, Int32.reduceAdd, Int32.reduceSub, Int32.reduceMul, Bool.or_true, Bool.true_or, Bool.or_false, Bool.false_or, Nat.reduceBEq, Nat.reduceMul, Nat.add_assoc, Nat.reduceLeDiff, and_self, true_and, and_true, mu_mu, e1]
  have hW : wl6 (mu (mu (mu (mu (mu (mu m1 (a + 82) (.inl (0, 20, .inl (fun _ => 0)))) (a + 83) (.inl (0, 20, .inl (fun _ => 0)))) (a + 84) (.inl (0, 20, .inl (fun _ => 0)))) (a + 85) (.inl (0, 20, .inl (fun _ => 0)))) (a + 86) (.inl (0, 12, .inl (fun _ => 0)))) (a + 87) (.inl (0, 4, .inl (upd (upd (fun _ => 0) 0 24) 1 120)))) a (fun _ => 0) (fun _ => 0) (fun _ => 0) (fun _ => 0) (fun _ => 0) (upd (upd (fun _ => 0) 0 24) 1 120) := by
    refine ⟨?_, ?_, ?_, ?_, ?_, mu_s _ _ _⟩
    · rw [mu_n _ _ (by omega), mu_n _ _ (by omega), mu_n _ _ (by omega), mu_n _ _ (by omega), mu_n _ _ (by omega), mu_s]
    · rw [mu_n _ _ (by omega), mu_n _ _ (by omega), mu_n _ _ (by omega), mu_n _ _ (by omega), mu_s]
    · rw [mu_n _ _ (by omega), mu_n _ _ (by omega), mu_n _ _ (by omega), mu_s]
    · rw [mu_n _ _ (by omega), mu_n _ _ (by omega), mu_s]
    · rw [mu_n _ _ (by omega), mu_s]
  have hf : ∀ x, (x < a + 82 ∨ a + 88 ≤ x) → mu (mu (mu (mu (mu (mu m1 (a + 82) (.inl (0, 20, .inl (fun _ => 0)))) (a + 83) (.inl (0, 20, .inl (fun _ => 0)))) (a + 84) (.inl (0, 20, .inl (fun _ => 0)))) (a + 85) (.inl (0, 20, .inl (fun _ => 0)))) (a + 86) (.inl (0, 12, .inl (fun _ => 0)))) (a + 87) (.inl (0, 4, .inl (upd (upd (fun _ => 0) 0 24) 1 120))) x = m1 x := fun x hx => by rw [mu_n _ _ (by omega), mu_n _ _ (by omega), mu_n _ _ (by omega), mu_n _ _ (by omega), mu_n _ _ (by omega), mu_n _ _ (by omega)]
  generalize mu (mu (mu (mu (mu (mu m1 (a + 82) (.inl (0, 20, .inl (fun _ => 0)))) (a + 83) (.inl (0, 20, .inl (fun _ => 0)))) (a + 84) (.inl (0, 20, .inl (fun _ => 0)))) (a + 85) (.inl (0, 20, .inl (fun _ => 0)))) (a + 86) (.inl (0, 12, .inl (fun _ => 0)))) (a + 87) (.inl (0, 4, .inl (upd (upd (fun _ => 0) 0 24) 1 120))) = mW at s1 hW hf
  have hC : CC mW a s0 := g1.fr (fun x q1 q2 => hf x (by omega))
  have hI : wlI 0 a mW s0 := ⟨0, 0, 0, _, _, _, _, _, _, hC, hW, wlQ.s0⟩
  obtain ⟨ek1, ek2⟩ := p_asks (z := (a + 88, 1076)) hI (by omega)
  have k1 := hC.1
  unfold CO at k1
  have e3 : s0.1 3 = 0 := by show r0 3 = 0; rw [r0_at]; rfl
  have w1 : cl 65 [.ref a] ((a + 88, 1076), mW) = some (some (.int (-6)), ((a + 88, 1076), mW)) := c_least0 e3 _ hC
  have w2 : cl 63 [.ref a, .int 0] ((a + 88, 1076), mW) = some (some (.int (-1)), ((a + 88, 1076), mW)) := c_ifLaid1 (Or.inl (by rw [e3]; decide)) RI0 _ hC
  obtain ⟨hf2, e4, b1, b2⟩ := p_lawLoop (xs := xs) hb hL 50 0 (a + 88) 1076 mW s0 unk (by omega) ((hf bs (by omega)).trans hm1) hI (by omega)
  rw [show nI 0 = 0 from rfl] at e4
  refine ⟨hf2, ?_, by omega, by omega⟩
  rw [s1]
  simp only [q88_53, q88_53N, q88_54, q88_54N, q88_55, q88_55N, q88_56, q88_56N, q88_58, q88_58N, q88_60, q88_60N, q88_62, q88_65, q88_68, q88_68N, q88_69, q88_69N, q88_70, q88_70N, q88_71, q88_71N, q88_73, q88_73N, q88_75, q88_75N, q88_77, q88_77N, q88_79, q88_82, q88_85, q88_85N, q88_86, q88_89, q88_91, q88_94, q88_94N, q88_95, q88_96, q88_99, q88_100, q88_103, q88_104, q88_107, q88_108, q88_110, q88_111, rv_v, rv_n, rh_v, mu_at, isF_r, isK_r, fld_r, fset_r, gd0, gd1, gd2, gd3, gd4, gd5, gd6, gd7, gd8, gd9, gd10, gd11, gd12, gd13, inA_l, inW_l, inZ_l, inQ_l, aget_l, aset_l, qget_l, qset_l, isA_l, isA_q, alen_l, k2_i, k2_a, k2_n, k2_u, k2_l, ite_si, Option.isSome_some, List.cons_append, List.nil_append, List.length_cons, List.length_nil, Nat.reduceAdd, Nat.zero_add, Nat.reduceLT, Nat.reduceEqDiff, decide_true, decide_false, Bool.and_self, Bool.and_true, Bool.true_and, ↓reduceIte, List.set_cons_zero, List.set_cons_succ, Nat.reduceSub, Nat.add_left_cancel_iff, Nat.add_eq_left, Nat.left_eq_add, not_true_eq_false, not_false_eq_true, reduceCtorEq, i10, i01, ib10, ib01, beq_self_eq_true, eq_self, Int32.reduceLT, Int32.reduceToNatClampNeg, Int32.reduceAdd, Int32.reduceSub, Int32.reduceMul, Bool.or_true, Bool.true_or, Bool.or_false, Bool.false_or, Nat.reduceBEq, Nat.reduceMul, ek1, ek2, k1, w1, w2, e4]
end
