theorem x_clsRC : ∀ (ci : Nat) (r : vw_C), x_CLS[ci]? = some r → x_RC ci = r.1
  | 0, r, h => by cases h; rfl
  | 1, r, h => by cases h; rfl
  | 2, r, h => by cases h; rfl
  | 3, r, h => by cases h; rfl
  | 4, r, h => by cases h; rfl
  | 5, r, h => by cases h; rfl
  | 6, r, h => by cases h; rfl
  | 7, r, h => by cases h; rfl
  | n + 8, r, h => by simp at h
theorem isF_of {x : va_E} {ci k : Nat} (h : isF x ci k = true) : ∃ fs : List Value, x = .inr (ci, fs) ∧ k < fs.length := by
  unfold isF at h
  split at h
  next cj fs =>
    simp only [Bool.and_eq_true, decide_eq_true_eq] at h
    obtain ⟨rfl, h2⟩ := h
    exact ⟨fs, rfl, h2⟩
  next => cases h
theorem x_hts {p : Program} {R : Room} {s : State} {m : MethodId} {args : Array Value} {meth : Method} {c : Code} {D : va_G} {T3 : Nat → ClassId} {y : Nat} {SX : Nat → Nat → (Nat → Int32) → Prop} {A : Nat → Prop} {H0 : Heap} (hC : CX SX A H0 D T3 p R s m args meth c y) : ∀ w ∈ x_TG, w.before args s = true := hC.2.2.2.2.1
theorem x_own {p : Program} {R : Room} {s : State} {m : MethodId} {args : Array Value} {meth : Method} {c : Code} {D : va_G} {T3 : Nat → ClassId} {y : Nat} {SX : Nat → Nat → (Nat → Int32) → Prop} {A : Nat → Prop} {H0 : Heap} (hC : CX SX A H0 D T3 p R s m args meth c y) : s.vm.findClass (x_RC (x_kl y)) = some m.cls := hC.2.2.2.1
theorem x_KK {p : Program} {R : Room} {s : State} {m : MethodId} {args : Array Value} {meth : Method} {c : Code} {D : va_G} {T3 : Nat → ClassId} {y : Nat} {SX : Nat → Nat → (Nat → Int32) → Prop} {A : Nat → Prop} {H0 : Heap} (hC : CX SX A H0 D T3 p R s m args meth c y) : KK D T3 s := hC.2.2.2.2.2.1
theorem s_get {p : Program} {l : Launch} {e : Env} {R : Room} {s : State} {m : MethodId} {args : Array Value} {below : List Frame} {meth : Method} {c : Code} {Q : State → Prop} {D : va_G} {T3 : Nat → ClassId} {A : Nat → Prop} {H0 : Heap} {z0 : Nat × Nat} {y : Nat} {SX : Nat → Nat → (Nat → Int32) → Prop} {pc pc' : Nat} {L st L' st' : List Value} {h h' : xH} (hC : CX SX A H0 D T3 p R s m args meth c y) {ix : Nat} (hd : decode (x_cd y) pc = .ok (.getfield ix, 3)) (hs : xGet y ix pc L st h = some (.inl (pc', L', st', h'))) (hk : WS p l e R s m args below meth c Q D T3 SX A H0 z0 y pc' L' st' h') : WS p l e R s m args below meth c Q D T3 SX A H0 z0 y pc L st h := by
  unfold xGet at hs
  split at hs
  next a t =>
    split at hs
    next ci k hg =>
      split at hs
      next hf =>
        cases hs
        intro ls H locs cells slots hst
        obtain ⟨C, T, N, h1, h2, h3, h4⟩ := x_gfl _ (x_find_mem _ _ _ _ hg)
        obtain ⟨fs, he, hlen⟩ := isF_of hf
        have hat := hst.2.2.1.2.1 a (by rw [he]; exact decide_eq_true (x_clsN h1))
        rw [he] at hat
        have hv : fs[k]? = some (fld (h.2 a) k) := by
          rw [he]
          show _ = some (fs.getD k .null)
          rw [List.getD_eq_getElem?_getD, List.getElem?_eq_getElem hlen]
          rfl
        have hsame : ∀ x, s.fieldFound? (T k).1 (T k).2.1 (T k).2.2.1 = some x → s.fieldFound? C (T k).2.1 (T k).2.2.1 = some x := fun x hx => by
          have h3' : (T k).1 = C := h3
          rw [h3'] at hx; exact hx
        have hcl := x_clA ci C T N h1
        rcases h4 with hl | ⟨host, hl⟩
        · exact va_get hC.1 hC.2.1 (x_hts hC) hcl.1 (x_own hC) (x_KK hC).1 (va_one hat) 0 rfl h1 k h2 (x_hts hC _ hl) hsame hv hd (hk _ _ _ _ _ hst)
        · exact va_getN hC.1 hC.2.1 (x_hts hC) hcl.1 (x_own hC) (x_KK hC).1 (va_one hat) 0 rfl h1 k h2 (va_Nw.use rfl ((x_KK hC).2.1 _ hl)) hsame hv hd (hk _ _ _ _ _ hst)
      next => cases hs
    next => cases hs
  next => cases hs
theorem x_fits_of {ty : FieldType} {v : Value} (h : x_fits ty v = true) : narrow ty v = v ∧ fits ty v = true := by
  unfold x_fits at h
  split at h
  · exact ⟨rfl, rfl⟩
  · next v =>
    simp only [Bool.or_eq_true, beq_iff_eq] at h
    rcases h with rfl | rfl
    · exact ⟨rfl, rfl⟩
    · exact ⟨rfl, rfl⟩
  · exact ⟨rfl, rfl⟩
  · exact ⟨rfl, rfl⟩
  · exact ⟨rfl, rfl⟩
  · exact ⟨rfl, rfl⟩
  · cases h
theorem ST.put {D : va_G} {T3 : Nat → ClassId} {SX : Nat → Nat → (Nat → Int32) → Prop} {A : Nat → Prop} {H0 H H' : Heap} {z0 : Nat × Nat} {s0 y : Nat} {ls : Array Slot} {L : List Value} {h : xH} {locs : List Loc} {cells slots a k : Nat} {x : va_E} (hst : ST D T3 SX A H0 z0 s0 y ls L h H locs cells slots) (h3 : ∀ n f, x ≠ .inl (3, n, .inl f)) (ha : A a) (hz : H'.size = H.size) (he : va_at D x_CLS (a, x_cell T3 x) H') (ho : ∀ q : Nat, q ≠ a → H'[q]? = H[q]?) : ST D T3 SX A H0 z0 s0 y ls L (h.1, mu h.2 a x) H' (locs ++ [⟨a, k⟩]) cells slots :=
  ⟨hst.1, hst.2.1, hst.2.2.1.put h3 ha hz he ho, hst.2.2.2.1.put hz ho ha, hst.2.2.2.2⟩
theorem s_put {p : Program} {l : Launch} {e : Env} {R : Room} {s : State} {m : MethodId} {args : Array Value} {below : List Frame} {meth : Method} {c : Code} {Q : State → Prop} {D : va_G} {T3 : Nat → ClassId} {A : Nat → Prop} {H0 : Heap} {z0 : Nat × Nat} {y : Nat} {SX : Nat → Nat → (Nat → Int32) → Prop} {pc pc' : Nat} {L st L' st' : List Value} {h h' : xH} (hC : CX SX A H0 D T3 p R s m args meth c y) {ix : Nat} (hd : decode (x_cd y) pc = .ok (.putfield ix, 3)) (hs : xPut y ix pc L st h = some (.inl (pc', L', st', h'))) (hk : WS p l e R s m args below meth c Q D T3 SX A H0 z0 y pc' L' st' h') : WS p l e R s m args below meth c Q D T3 SX A H0 z0 y pc L st h := by
  unfold xPut at hs
  split at hs
  next v a t =>
    split at hs
    next ci k fin hg =>
      split at hs
      next hf =>
        cases hs
        intro ls H locs cells slots hst
        obtain ⟨C, T, N, h1, h2, h3, h4, h5⟩ := x_pfl _ (x_find_mem _ _ _ _ hg)
        simp only [Bool.and_eq_true] at hf
        obtain ⟨hf1, hf2, hf3⟩ := hf
        obtain ⟨fs, he, hlen⟩ := isF_of hf1
        have hset : fset (h.2 a) k v = .inr (ci, fs.set k v) := by rw [he]; rfl
        have hat := hst.2.2.1.2.1 a (by rw [he]; exact decide_eq_true (x_clsN h1))
        have hAa : A a := hst.2.2.1.2.2.1 a (by rw [he]; exact decide_eq_true (x_clsN h1))
        rw [he] at hat
        have hsame : ∀ x, s.fieldFound? (T k).1 (T k).2.1 (T k).2.2.1 = some x → s.fieldFound? C (T k).2.1 (T k).2.2.1 = some x := fun x hx => by
          have h3' : (T k).1 = C := h3
          rw [h3'] at hx; exact hx
        have hcl := x_clA ci C T N h1
        have hap := va_apart (own := x_RC (x_kl y)) (x_hts hC) hcl.1 (x_TY ci) hcl.2.1 hcl.2.2 (x_KK hC).1 h1
        have hty := hcl.2.1 k h2
        obtain ⟨hn, hfit⟩ := x_fits_of hf2
        obtain ⟨r, hr1, cell, q1, q2, q3, q4⟩ := hat
        have hr : r = (C, T, N) := Option.some.inj (hr1.symm.trans h1)
        subst hr
        obtain ⟨hS, hfc, kC, hkC, hkind⟩ := (x_KK hC).1.1 ci _ h1
        obtain ⟨cf, kf, fi, f, hi, hsl⟩ := hS k h2
        have hlay := x_hts hC _ (hcl.1 _ (u_in_lay h2))
        have hstat := (u_facts hfc hkC (u_lays (x_hts hC) hcl.1 h2) hi).1
        unfold u_lay at hlay
        have hfin : (T k).2.2.2 = fin := h4
        have fin_ok : ∀ H' : Heap, H'[a]? = some (cell.setSlot (D.2 ci k) v) → H'.size = H.size → (∀ q : Nat, q ≠ a → H'[q]? = H[q]?) → W p l e R s m args below meth c H' (locs ++ [⟨a, D.2 ci k⟩]) cells slots Q (F0 m (pc + 3) ls st') := by
          intro H' e1 e2 e3
          refine hk ls H' _ cells slots ?_
          rw [hset]
          refine hst.put (fun _ _ q => by cases q) hAa e2 ?_ e3
          exact ⟨_, h1, t_OB.to (V := updV (vp_V fs) k v) ⟨_, e1, q2, q3, t_set q4 hap h2 v⟩ (fun j _ => vp_updV_set hlen v j)⟩
        cases fin with
        | false =>
          rw [if_neg (by rw [hfin]; decide)] at hlay
          have h6 := u_store hfc hkC hkind hlay hi hty hn hfit
          rcases h5 with hl | ⟨-, host, hl⟩
          · refine W.putK hC.1 hC.2.1 (f := f) ⟨x_own hC, x_hts hC _ hl, ⟨_, _, _, hsame _ hi⟩, hstat⟩ (by rw [q2]; exact h6) q1 q3 (by rw [hsl]; exact k2_hasslot (q4 k h2)) rfl rfl hd fun H' e1 e2 e3 => ?_
            rw [hsl] at e1 ⊢
            exact fin_ok H' e1 e2 e3
          · refine va_WputK hC.1 hC.2.1 (f := f) (x_own hC) (va_Nw.use rfl ((x_KK hC).2.1 _ hl)) (hsame _ hi) hstat (by rw [q2]; exact h6) q1 q3 (by rw [hsl]; exact k2_hasslot (q4 k h2)) rfl rfl hd fun H' e1 e2 e3 => ?_
            rw [hsl] at e1 ⊢
            exact fin_ok H' e1 e2 e3
        | true =>
          rw [if_pos hfin] at hlay
          rcases h5 with hl | ⟨hff, -⟩
          · simp only [Bool.not_true, Bool.false_or, Bool.and_eq_true, decide_eq_true_eq] at hf3
            have hci : x_RC (x_kl y) = C := by
              rw [← hf3.2]
              have h7 : ∀ (ci : Nat) (r : vw_C), x_CLS[ci]? = some r → x_RC ci = r.1 := x_clsRC
              exact h7 ci _ h1
            have hdecl : (T k).1 = x_RC (x_kl y) := by rw [hci]; exact h3
            have hcf : m.cls = cf := by
              obtain ⟨_, _, c', _, _, _, -, -, hf', -, -, -, hown2, -⟩ := Cond.laysFinal_spec hlay
              have e1 : c' = cf := by have := hi.symm.trans hf'; simp at this; exact this.1.symm
              rw [hdecl] at hown2
              rw [← e1]; exact Option.some.inj ((x_own hC).symm.trans hown2)
            have h6 := u_fits hfc hkC hkind (Or.inr hlay) hi hty hn hfit
            refine W.putFinK hC.1 hC.2.1 (x_own hC) (x_hts hC _ hl) (hsame _ hi) hstat hcf (hC.2.2.2.2.2.2.2.2.1 hf3.1) (by rw [q2]; exact h6) q1 q3 (by rw [hsl]; exact k2_hasslot (q4 k h2)) rfl rfl hd fun H' e1 e2 e3 => ?_
            rw [hsl] at e1 ⊢
            exact fin_ok H' e1 e2 e3
          · cases hff
      next => cases hs
    next => cases hs
  next => cases hs
theorem inA_of {y : Nat} {x : va_E} {i : Int32} (h : inA y x i = true) : ∃ (t n : Nat) (f : Nat → Int32), x = .inl (t, n, .inl f) ∧ (t = 0 ∨ t = 3) ∧ vp_in i n := by
  unfold inA at h
  split at h
  next t n f =>
    simp only [Bool.and_eq_true, Bool.or_eq_true, decide_eq_true_eq] at h
    exact ⟨t, n, f, rfl, h.1, fun q => q.elim h.2.1 (fun q => Nat.not_le.mpr h.2.2 q)⟩
  next => cases h
theorem inW_of {x : va_E} {i : Int32} (h : inW x i = true) : ∃ (n : Nat) (f : Nat → Int32), x = .inl (0, n, .inl f) ∧ vp_in i n := by
  unfold inW at h
  split at h
  next t n f =>
    simp only [Bool.and_eq_true, decide_eq_true_eq] at h
    obtain ⟨rfl, h1, h2⟩ := h
    exact ⟨n, f, rfl, fun q => q.elim h1 (fun q => Nat.not_le.mpr h2 q)⟩
  next => cases h
theorem inZ_of {x : va_E} {i : Int32} (h : inZ x i = true) : ∃ (n : Nat) (f : Nat → Int32), x = .inl (1, n, .inl f) ∧ vp_in i n := by
  unfold inZ at h
  split at h
  next t n f =>
    simp only [Bool.and_eq_true, decide_eq_true_eq] at h
    obtain ⟨rfl, h1, h2⟩ := h
    exact ⟨n, f, rfl, fun q => q.elim h1 (fun q => Nat.not_le.mpr h2 q)⟩
  next => cases h
theorem inQ_of {x : va_E} {i : Int32} (h : inQ x i = true) : ∃ (n : Nat) (f : Nat → Option Nat), x = .inl (2, n, .inr (.inr (.inr (.inr f)))) ∧ vp_in i n := by
  unfold inQ at h
  split at h
  next t n f =>
    simp only [Bool.and_eq_true, decide_eq_true_eq] at h
    obtain ⟨rfl, h1, h2⟩ := h
    exact ⟨n, f, rfl, fun q => q.elim h1 (fun q => Nat.not_le.mpr h2 q)⟩
  next => cases h
theorem isK_of {x : va_E} {ci : Nat} (h : isK x ci = true) : ∃ fs : List Value, x = .inr (ci, fs) := by
  unfold isK at h
  split at h
  next cj fs =>
    simp only [decide_eq_true_eq] at h
    subst h
    exact ⟨fs, rfl⟩
  next => cases h
theorem s_iald {p : Program} {l : Launch} {e : Env} {R : Room} {s : State} {m : MethodId} {args : Array Value} {below : List Frame} {meth : Method} {c : Code} {Q : State → Prop} {D : va_G} {T3 : Nat → ClassId} {A : Nat → Prop} {H0 : Heap} {z0 : Nat × Nat} {y : Nat} {SX : Nat → Nat → (Nat → Int32) → Prop} {pc pc' : Nat} {L st L' st' : List Value} {h h' : xH} (hC : CX SX A H0 D T3 p R s m args meth c y) (hd : decode (x_cd y) pc = .ok (.iaload, 1)) (hs : xIald y pc L st h = some (.inl (pc', L', st', h'))) (hk : WS p l e R s m args below meth c Q D T3 SX A H0 z0 y pc' L' st' h') : WS p l e R s m args below meth c Q D T3 SX A H0 z0 y pc L st h := by
  unfold xIald at hs
  split at hs
  next i a t =>
    split at hs
    next hf =>
      cases hs
      intro ls H locs cells slots hst
      obtain ⟨tg, n, f, he, ht, hin⟩ := inA_of hf
      have hg : aget (h.2 a) i = f i.toNatClampNeg := by rw [he]; rfl
      rw [hg] at hk
      rcases ht with rfl | rfl
      · have hat := hst.2.2.1.2.1 a (by rw [he]; rfl)
        rw [he] at hat
        exact va_iald hC.1 hC.2.1 (x_KK hC).1 (va_one hat) 0 0 rfl rfl hin hd (hk _ _ _ _ _ hst)
      · obtain ⟨g1, g2, g3⟩ := hC.2.2.2.2.2.2.2.2.2 _ _ _ (hst.2.2.1.2.2.2 _ _ _ he)
        exact va_sld hC.1 hC.2.1 g1 g2 g3 hst.2.2.2.1 hin hd (hk _ _ _ _ _ hst)
    next => cases hs
  next => cases hs
theorem s_aald {p : Program} {l : Launch} {e : Env} {R : Room} {s : State} {m : MethodId} {args : Array Value} {below : List Frame} {meth : Method} {c : Code} {Q : State → Prop} {D : va_G} {T3 : Nat → ClassId} {A : Nat → Prop} {H0 : Heap} {z0 : Nat × Nat} {y : Nat} {SX : Nat → Nat → (Nat → Int32) → Prop} {pc pc' : Nat} {L st L' st' : List Value} {h h' : xH} (hC : CX SX A H0 D T3 p R s m args meth c y) (hd : decode (x_cd y) pc = .ok (.aaload, 1)) (hs : xAald pc L st h = some (.inl (pc', L', st', h'))) (hk : WS p l e R s m args below meth c Q D T3 SX A H0 z0 y pc' L' st' h') : WS p l e R s m args below meth c Q D T3 SX A H0 z0 y pc L st h := by
  unfold xAald at hs
  split at hs
  next i a t =>
    split at hs
    next hf =>
      cases hs
      intro ls H locs cells slots hst
      obtain ⟨n, f, he, hin⟩ := inQ_of hf
      have hat := hst.2.2.1.2.1 a (by rw [he]; rfl)
      have hg : qget (h.2 a) i = va_rf (f i.toNatClampNeg) := by rw [he]; rfl
      rw [he] at hat
      rw [hg] at hk
      exact va_aldq hC.1 hC.2.1 (x_KK hC).1 (va_one hat) 0 2 rfl rfl hin hd (hk _ _ _ _ _ hst)
    next => cases hs
  next => cases hs
theorem s_iast {p : Program} {l : Launch} {e : Env} {R : Room} {s : State} {m : MethodId} {args : Array Value} {below : List Frame} {meth : Method} {c : Code} {Q : State → Prop} {D : va_G} {T3 : Nat → ClassId} {A : Nat → Prop} {H0 : Heap} {z0 : Nat × Nat} {y : Nat} {SX : Nat → Nat → (Nat → Int32) → Prop} {pc pc' : Nat} {L st L' st' : List Value} {h h' : xH} (hC : CX SX A H0 D T3 p R s m args meth c y) (hd : decode (x_cd y) pc = .ok (.iastore, 1)) (hs : xIast pc L st h = some (.inl (pc', L', st', h'))) (hk : WS p l e R s m args below meth c Q D T3 SX A H0 z0 y pc' L' st' h') : WS p l e R s m args below meth c Q D T3 SX A H0 z0 y pc L st h := by
  unfold xIast at hs
  split at hs
  next x i a t =>
    split at hs
    next hf =>
      cases hs
      intro ls H locs cells slots hst
      obtain ⟨n, f, he, hin⟩ := inW_of hf
      have hat := hst.2.2.1.2.1 a (by rw [he]; rfl)
      have hAa : A a := hst.2.2.1.2.2.1 a (by rw [he]; rfl)
      have hg : aset (h.2 a) i x = .inl (0, n, .inl (upd f i.toNatClampNeg x)) := by rw [he]; rfl
      rw [he] at hat
      rw [hg] at hk
      refine W.iast hC.1 hC.2.1 hat (((x_KK hC).1.2 0 _ rfl).1 n (fun j => .int (f j))) (fun q => by cases q) (by show ¬ (i < 0 ∨ (arrV _ _ _).slots.size ≤ _); rw [arrV_size]; exact hin) rfl rfl hd fun H1 e1 z oq => ?_
      refine hk _ _ _ _ _ (hst.put (fun _ _ q => by cases q) hAa z ?_ oq)
      show H1[a]? = some (vp_cell _ _)
      rw [e1]
      rw [vp_cell_i, vp_cell_i, arrV_store]
      congr 2
      funext q
      by_cases hq : q = i.toNatClampNeg
      · subst hq
        simp [updV, upd]
      · simp [updV, upd, hq]
    next => cases hs
  next => cases hs
theorem s_aast {p : Program} {l : Launch} {e : Env} {R : Room} {s : State} {m : MethodId} {args : Array Value} {below : List Frame} {meth : Method} {c : Code} {Q : State → Prop} {D : va_G} {T3 : Nat → ClassId} {A : Nat → Prop} {H0 : Heap} {z0 : Nat × Nat} {y : Nat} {SX : Nat → Nat → (Nat → Int32) → Prop} {pc pc' : Nat} {L st L' st' : List Value} {h h' : xH} (hC : CX SX A H0 D T3 p R s m args meth c y) (hd : decode (x_cd y) pc = .ok (.aastore, 1)) (hs : xAast pc L st h = some (.inl (pc', L', st', h'))) (hk : WS p l e R s m args below meth c Q D T3 SX A H0 z0 y pc' L' st' h') : WS p l e R s m args below meth c Q D T3 SX A H0 z0 y pc L st h := by
  unfold xAast at hs
  split at hs
  next v i a t =>
    split at hs
    next hf =>
      cases hs
      intro ls H locs cells slots hst
      simp only [Bool.and_eq_true] at hf
      obtain ⟨n, f, he, hin⟩ := inQ_of hf.1
      obtain ⟨vs, hev⟩ := isK_of hf.2
      have hat := hst.2.2.1.2.1 a (by rw [he]; rfl)
      have hatv := hst.2.2.1.2.1 v (by rw [hev]; rfl)
      have hAa : A a := hst.2.2.1.2.2.1 a (by rw [he]; rfl)
      have hg : qset (h.2 a) i v = .inl (2, n, .inr (.inr (.inr (.inr (va_up f i.toNatClampNeg (some v)))))) := by rw [he]; rfl
      rw [he] at hat
      rw [hev] at hatv
      rw [hg] at hk
      have hlt : i.toNatClampNeg < n := Nat.not_le.mp fun q => hin (Or.inr q)
      have h0 : ¬ i < 0 := fun q => hin (Or.inl q)
      obtain ⟨r', hr', cellV, g1, g2, g3, -⟩ := hatv
      have hr0 : r'.1 = x_AOC := by cases hr'; rfl
      have hcls := ((x_KK hC).1.1 x_AOI r' hr').2
      obtain ⟨kA, comp, k1, k2', k3, -⟩ := ((x_KK hC).1.2 2 _ rfl).2
      have hcls1 : s.vm.findClass x_AOC = some (D.1 x_AOI) := by rw [← hr0]; exact hcls.1
      have hcomp : comp = D.1 x_AOI := Option.some.inj (k3.symm.trans hcls1)
      subst hcomp
      obtain ⟨kC, hkC, -⟩ := hcls.2
      refine W.aast hC.1 hC.2.1 hat (fun q h => by cases h) (fun h => by cases h) k1 k2' rfl hkC ⟨h0, by show _ < (arrV _ _ _).slots.size; rw [arrV_size]; exact hlt⟩ g1 (fun q h => by rw [g3] at h; cases h) (by rw [g2]; exact hkC) (by rw [g2]; exact va_assign hcls) rfl rfl hd fun H1 e1 z oq => ?_
      refine hk _ _ _ _ _ (hst.put (fun _ _ q => by cases q) hAa z ?_ oq)
      show H1[a]? = some (vp_cell _ _)
      rw [e1]
      rw [vp_cell_q, vp_cell_q, arrV_store]
      congr 2
      funext q
      by_cases hq : q = i.toNatClampNeg
      · subst hq
        simp [updV, va_up, va_rf]
      · simp [updV, va_up, hq]
    next => cases hs
  next => cases hs
theorem s_alen {p : Program} {l : Launch} {e : Env} {R : Room} {s : State} {m : MethodId} {args : Array Value} {below : List Frame} {meth : Method} {c : Code} {Q : State → Prop} {D : va_G} {T3 : Nat → ClassId} {A : Nat → Prop} {H0 : Heap} {z0 : Nat × Nat} {y : Nat} {SX : Nat → Nat → (Nat → Int32) → Prop} {pc pc' : Nat} {L st L' st' : List Value} {h h' : xH} (hC : CX SX A H0 D T3 p R s m args meth c y) (hd : decode (x_cd y) pc = .ok (.arraylength, 1)) (hs : xAlen y pc L st h = some (.inl (pc', L', st', h'))) (hk : WS p l e R s m args below meth c Q D T3 SX A H0 z0 y pc' L' st' h') : WS p l e R s m args below meth c Q D T3 SX A H0 z0 y pc L st h := by
  unfold xAlen at hs
  split at hs
  next a t =>
    split at hs
    next hf =>
      cases hs
      intro ls H locs cells slots hst
      have key : ∀ (tg n : Nat) (x : (Nat → Int32) ⊕ (Nat → Int64) ⊕ (Nat → UInt32) ⊕ (Nat → UInt64) ⊕ (Nat → Option Nat)), h.2 a = .inl (tg, n, x) → tg < 3 → W p l e R s m args below meth c H locs cells slots Q (F0 m pc ls (.ref a :: t)) := by
        intro tg n x he ht
        have hat := hst.2.2.1.2.1 a (by rw [he]; exact decide_eq_true ht)
        rw [he] at hat hk
        have hty : ∀ k : Nat, k < 3 → ∃ (t0 : Nat) (ty : FieldType), (x_tys T3)[t0]? = some (T3 k, ty) := by
          intro k hk
          rcases (show k = 0 ∨ k = 1 ∨ k = 2 by omega) with rfl | rfl | rfl
          · exact ⟨0, _, rfl⟩
          · exact ⟨1, _, rfl⟩
          · exact ⟨2, _, rfl⟩
        obtain ⟨t0, ty, ht0⟩ := hty tg ht
        exact va_alen hC.1 hC.2.1 (x_KK hC).1 (va_one hat) 0 t0 rfl ht0 rfl hd (hk _ _ _ _ _ hst)
      cases he : h.2 a with
      | inr o => rw [he] at hf; cases hf
      | inl o =>
        obtain ⟨tg, n, x⟩ := o
        rw [he] at hf
        cases x with
        | inr x => exact key tg n (.inr x) he (of_decide_eq_true hf)
        | inl f =>
          have hf : (decide (tg < 3) || decide (tg = 3)) = true := hf
          simp only [Bool.or_eq_true, decide_eq_true_eq] at hf
          rcases hf with ht | rfl
          · exact key tg n (.inl f) he ht
          · obtain ⟨g1, g2, g3⟩ := hC.2.2.2.2.2.2.2.2.2 _ _ _ (hst.2.2.1.2.2.2 _ _ _ he)
            rw [he] at hk
            exact va_slen hC.1 hC.2.1 g1 g2 g3 hst.2.2.2.1 hd (hk _ _ _ _ _ hst)
    next => cases hs
  next => cases hs
theorem ST.alloc {D : va_G} {T3 : Nat → ClassId} {SX : Nat → Nat → (Nat → Int32) → Prop} {A : Nat → Prop} {H0 H H' : Heap} {z0 : Nat × Nat} {y : Nat} {ls : Array Slot} {L : List Value} {h : xH} {locs : List Loc} {cells slots w : Nat} {x : va_E} (hst : ST D T3 SX A H0 z0 H0.size y ls L h H locs cells slots) (h3 : ∀ n f, x ≠ .inl (3, n, .inl f)) (hz : H'.size = h.1.1 + 1) (he : va_at D x_CLS (h.1.1, x_cell T3 x) H') (ho : ∀ q : Nat, q < h.1.1 → H'[q]? = H[q]?) : ST D T3 SX A H0 z0 H0.size y ls L ((h.1.1 + 1, h.1.2 + w), mu h.2 h.1.1 x) H' locs (cells + 1) (slots + w) := by
  have hs := hst.2.2.1.1
  refine ⟨hst.1, hst.2.1, hst.2.2.1.new h3 (hst.2.2.2.2.2.2 _ hst.2.2.2.1.1) (by rw [hz, hs]) (by rw [hs]; exact he) (by rw [hs]; exact ho), hst.2.2.2.1.new (by rw [hz, hs]) (by rw [hs]; exact ho), ?_, ?_, hst.2.2.2.2.2.2⟩
  · show h.1.1 + 1 = _; have := hst.2.2.2.2.1; omega
  · show h.1.2 + w = _; have := hst.2.2.2.2.2.1; omega
theorem s_new {p : Program} {l : Launch} {e : Env} {R : Room} {s : State} {m : MethodId} {args : Array Value} {below : List Frame} {meth : Method} {c : Code} {Q : State → Prop} {D : va_G} {T3 : Nat → ClassId} {A : Nat → Prop} {H0 : Heap} {z0 : Nat × Nat} {y : Nat} {SX : Nat → Nat → (Nat → Int32) → Prop} {pc pc' : Nat} {L st L' st' : List Value} {h h' : xH} (hC : CX SX A H0 D T3 p R s m args meth c y) (hr1 : h'.1.1 ≤ z0.1 + R.cells) (hr2 : h'.1.2 ≤ z0.2 + R.slots) {ix : Nat} (hd : decode (x_cd y) pc = .ok (.new ix, 3)) (hs : xNew y ix pc L st h = some (.inl (pc', L', st', h'))) (hk : WS p l e R s m args below meth c Q D T3 SX A H0 z0 y pc' L' st' h') : WS p l e R s m args below meth c Q D T3 SX A H0 z0 y pc L st h := by
  unfold xNew at hs
  split at hs
  next ci hg =>
    cases hs
    intro ls H locs cells slots hst
    obtain ⟨C, T, N, h1, h2, h3, h4, h5, h6⟩ := x_nwl _ (x_find_mem _ _ _ _ hg)
    have h2 : (x_dfl ci).length = N := h2
    have hcl := x_clA ci C T N h1
    have hKn := (x_KK hC).1.1 ci _ h1
    have a1 := hst.2.2.2.2.1
    have a2 := hst.2.2.2.2.2.1
    have hr1 : h.1.1 + 1 ≤ z0.1 + R.cells := hr1
    have hr2 : h.1.2 + (x_dfl ci).length ≤ z0.2 + R.slots := hr2
    rw [h2] at hr2
    refine W.newcK hC.1 hC.2.1 (x_own hC) (x_hts hC _ h4) (x_hts hC _ h5) (x_hts hC _ h6) rfl hd (by omega) (by omega) hKn.2.1 hst.2.2.1.1 fun H1 kC hkC e1 z1 o1 => ?_
    have hh := hst.alloc (w := (x_dfl ci).length) (x := .inr (ci, x_dfl ci)) (fun _ _ q => by cases q) z1 ⟨_, h1, (u_born (x_TY ci) (x_hts hC) hcl.1 hKn hkC e1 hcl.2.1).to h3⟩ o1
    have := hk _ _ _ _ _ hh
    rw [h2] at this
    exact this
  next => cases hs
theorem s_narrI {p : Program} {l : Launch} {e : Env} {R : Room} {s : State} {m : MethodId} {args : Array Value} {below : List Frame} {meth : Method} {c : Code} {Q : State → Prop} {D : va_G} {T3 : Nat → ClassId} {A : Nat → Prop} {H0 : Heap} {z0 : Nat × Nat} {y : Nat} {SX : Nat → Nat → (Nat → Int32) → Prop} {pc pc' : Nat} {L st L' st' : List Value} {h h' : xH} (hC : CX SX A H0 D T3 p R s m args meth c y) (hr1 : h'.1.1 ≤ z0.1 + R.cells) (hr2 : h'.1.2 ≤ z0.2 + R.slots) (hd : decode (x_cd y) pc = .ok (.newarray .int, 2)) (hs : xNarr pc 0 L st h = some (.inl (pc', L', st', h'))) (hk : WS p l e R s m args below meth c Q D T3 SX A H0 z0 y pc' L' st' h') : WS p l e R s m args below meth c Q D T3 SX A H0 z0 y pc L st h := by
  unfold xNarr at hs
  split at hs
  next n t =>
    split at hs
    next hn =>
      cases hs
      intro ls H locs cells slots hst
      have a1 := hst.2.2.2.2.1
      have a2 := hst.2.2.2.2.2.1
      have hr1 : h.1.1 + 1 ≤ z0.1 + R.cells := hr1
      have hr2 : h.1.2 + n.toNatClampNeg ≤ z0.2 + R.slots := hr2
      refine va_newaK (atype := .int) hC.1 hC.2.1 (x_hts hC _ x_acI) rfl hd rfl hn.1 rfl hn.2 (by omega) (by omega) hst.2.2.1.1 fun H1 cA e1 z1 o1 hAr hNm => ?_
      have hcA : cA = T3 0 := by
        have h0 := ((x_KK hC).1.2 0 _ rfl).2
        exact Option.some.inj (hNm.symm.trans h0)
      subst hcA
      exact hk _ _ _ _ _ (hst.alloc (w := n.toNatClampNeg) (x := .inl (0, n.toNatClampNeg, .inl (fun _ => 0))) (fun _ _ q => by cases q) z1 e1 o1)
    next => cases hs
  next => cases hs
theorem s_anew {p : Program} {l : Launch} {e : Env} {R : Room} {s : State} {m : MethodId} {args : Array Value} {below : List Frame} {meth : Method} {c : Code} {Q : State → Prop} {D : va_G} {T3 : Nat → ClassId} {A : Nat → Prop} {H0 : Heap} {z0 : Nat × Nat} {y : Nat} {SX : Nat → Nat → (Nat → Int32) → Prop} {pc pc' : Nat} {L st L' st' : List Value} {h h' : xH} (hC : CX SX A H0 D T3 p R s m args meth c y) (hr1 : h'.1.1 ≤ z0.1 + R.cells) (hr2 : h'.1.2 ≤ z0.2 + R.slots) {ix : Nat} (hd : decode (x_cd y) pc = .ok (.anewarray ix, 3)) (hs : xAnew y ix pc L st h = some (.inl (pc', L', st', h'))) (hk : WS p l e R s m args below meth c Q D T3 SX A H0 z0 y pc' L' st' h') : WS p l e R s m args below meth c Q D T3 SX A H0 z0 y pc L st h := by
  unfold xAnew at hs
  split at hs
  next n t =>
    split at hs
    next ci hg =>
      split at hs
      next hn =>
        cases hs
        intro ls H locs cells slots hst
        obtain ⟨hci, hn1, hn2⟩ := hn
        subst hci
        obtain ⟨C, T, N, h1, h2, h3, h4, h5, h6⟩ := x_nwl _ (x_find_mem _ _ _ _ hg)
        have hC0 : C = x_AOC := by cases h1; rfl
        subst hC0
        have a1 := hst.2.2.2.2.1
        have a2 := hst.2.2.2.2.2.1
        have hr1 : h.1.1 + 1 ≤ z0.1 + R.cells := hr1
        have hr2 : h.1.2 + n.toNatClampNeg ≤ z0.2 + R.slots := hr2
        have hsz := hst.2.2.1.1
        refine W.anew hC.1 hC.2.1 (x_own hC) (x_hts hC _ h4) (va_AO.use (x_KK hC).2.2) rfl hd rfl hn1 hn2 (by omega) (by omega) fun cA kA comp f1 f2 f3 f4 => ?_
        have hcA : cA = T3 2 := by
          obtain ⟨_, _, _, _, _, h0⟩ := ((x_KK hC).1.2 2 _ rfl).2
          exact Option.some.inj (f1.symm.trans h0)
        subst hcA
        generalize hH1 : H.push ({ cls := T3 2, slots := Array.replicate n.toNatClampNeg .null, vm := .none } : Cell) = H1
        have z1 : H1.size = h.1.1 + 1 := by rw [← hH1, Array.size_push, hsz]
        have e1 : H1[h.1.1]? = some (arrV (T3 2) n.toNatClampNeg (fun _ => .null)) := by rw [← hH1, ← hsz, Array.getElem?_push_size, ← arrV_new]
        have o1 : ∀ q : Nat, q < h.1.1 → H1[q]? = H[q]? := fun q hq => by rw [← hsz] at hq; rw [← hH1, Array.getElem?_push, if_neg (Nat.ne_of_lt hq)]
        have := hk _ _ _ _ _ (hst.alloc (w := n.toNatClampNeg) (x := .inl (2, n.toNatClampNeg, .inr (.inr (.inr (.inr (fun _ => none)))))) (fun _ _ q => by cases q) z1 e1 o1)
        rw [hsz]
        exact this
      next => cases hs
    next => cases hs
  next => cases hs
theorem cats_le : ∀ (t : List Value), (t.map fun v => v.category).sum ≤ 2 * t.length
  | [] => by simp
  | v :: t => by
    have := cats_le t
    have h2 : v.category ≤ 2 := by cases v <;> simp [Value.category]
    simp only [List.map_cons, List.sum_cons, List.length_cons]
    omega
theorem s_oinit {p : Program} {l : Launch} {e : Env} {R : Room} {s : State} {m : MethodId} {args : Array Value} {below : List Frame} {meth : Method} {c : Code} {Q : State → Prop} {D : va_G} {T3 : Nat → ClassId} {A : Nat → Prop} {H0 : Heap} {z0 : Nat × Nat} {y : Nat} {SX : Nat → Nat → (Nat → Int32) → Prop} {pc pc' : Nat} {L st L' st' : List Value} {h h' : xH} (hC : CX SX A H0 D T3 p R s m args meth c y) {ix : Nat} (hd : decode (x_cd y) pc = .ok (.invokespecial ix, 3)) (ho : x_oi (x_kl y) ix = true) (hs : (match st with | .ref _ :: t => (if 1 ≤ x_fr y ∧ 20 ≤ x_lo y ∧ t.length ≤ 4 then nx (pc + 3) L t h else none) | _ => none) = some (.inl (pc', L', st', h'))) (hk : WS p l e R s m args below meth c Q D T3 SX A H0 z0 y pc' L' st' h') : WS p l e R s m args below meth c Q D T3 SX A H0 z0 y pc L st h := by
  split at hs
  next a t =>
    split at hs
    next hr =>
      cases hs
      intro ls H locs cells slots hst
      obtain ⟨u, hu⟩ := Option.isSome_iff_exists.mp ho
      have hw : Jvm.Cond.methodLink (x_RC (x_kl y)) ix objectInit ∈ x_TG := x_oil _ (x_find_mem _ _ _ _ hu)
      have c1 := cats_le st'
      have c2 := hC.2.2.2.2.2.2.1
      have c3 := hC.2.2.2.2.2.2.2.1
      refine W.objInit hC.1 hC.2.1 (x_own hC) (x_hts hC _ hw) (x_hts hC _ x_oiI) (x_hts hC _ x_oiC) rfl (by rw [hC.2.2.1]; exact hst.1) rfl hd (by omega) (by show 2 * 0 + _ + 12 ≤ _; omega) ?_
      exact hk _ _ _ _ _ hst
    next => cases hs
  next => cases hs
theorem s_math {p : Program} {l : Launch} {e : Env} {R : Room} {s : State} {m : MethodId} {args : Array Value} {below : List Frame} {meth : Method} {c : Code} {Q : State → Prop} {D : va_G} {T3 : Nat → ClassId} {A : Nat → Prop} {H0 : Heap} {z0 : Nat × Nat} {y : Nat} {SX : Nat → Nat → (Nat → Int32) → Prop} {pc pc' : Nat} {L st L' st' : List Value} {h h' : xH} (hC : CX SX A H0 D T3 p R s m args meth c y) (hr1 : h'.1.1 ≤ z0.1 + R.cells) (hr2 : h'.1.2 ≤ z0.2 + R.slots) {ix : Nat} {b : Bool} (hd : decode (x_cd y) pc = .ok (.invokestatic ix, 3)) (hb : x_mm (x_kl y) ix = some b) (hs : (match st with | .int w :: .int v :: t => (if 1 ≤ x_fr y ∧ 21 ≤ x_lo y ∧ t.length ≤ 4 then nx (pc + 3) L (.int (mx b v w) :: t) h else none) | _ => none) = some (.inl (pc', L', st', h'))) (hk : WS p l e R s m args below meth c Q D T3 SX A H0 z0 y pc' L' st' h') : WS p l e R s m args below meth c Q D T3 SX A H0 z0 y pc L st h := by
  split at hs
  next w v t =>
    split at hs
    next hr =>
      cases hs
      intro ls H locs cells slots hst
      have hw := x_mml _ (x_find_mem _ _ _ _ hb)
      have c1 := cats_le t
      have c2 := hC.2.2.2.2.2.2.1
      have c3 := hC.2.2.2.2.2.2.2.1
      have a1 := hst.2.2.2.2.1
      have a2 := hst.2.2.2.2.2.1
      cases b with
      | true =>
        exact va_mmax hC.1 hC.2.1 (by rw [hC.2.2.1]; exact hst.1.symm) (x_own hC) (x_hts hC _ hw) (x_hts hC _ x_jmS_max) (x_hts hC _ x_jmI) (x_hts hC _ x_jmC_max) (by omega) (by omega) (by omega) (by omega) hd (hk _ _ _ _ _ hst)
      | false =>
        exact va_mmin hC.1 hC.2.1 (by rw [hC.2.2.1]; exact hst.1.symm) (x_own hC) (x_hts hC _ hw) (x_hts hC _ x_jmS_min) (x_hts hC _ x_jmI) (x_hts hC _ x_jmC_min) (by omega) (by omega) (by omega) (by omega) hd (hk _ _ _ _ _ hst)
    next => cases hs
  next => cases hs
