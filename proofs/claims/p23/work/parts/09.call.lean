def x_ws (z : Nat) : List Jvm.Cond := Jvm.Cond.code (x_nm z) (x_cd z) (x_ml z) (x_rt z) :: x_TG
def x_rm (z mc ms : Nat) : Room := { frames := x_fr z, cells := mc, slots := ms, locals := x_lo z }
/-- what a callee may write -/
def x_A (h : xH) : Nat → Prop := fun q => x_wr (h.2 q) = true ∨ h.1.1 ≤ q
def x_Pc (D : va_G) (T3 : Nat → ClassId) (SX : Nat → Nat → (Nat → Int32) → Prop) (as : List Value) (h : xH) : Array Value → State → Prop := va_Pc as (fun U => RelH D T3 SX (x_A h) h U.heap ∧ KK D T3 U ∧ ∀ q n f, SX q n f → va_X q n f U U.heap ∧ q < U.heap.size ∧ ¬ x_A h q)
def x_Qc (D : va_G) (T3 : Nat → ClassId) (SX : Nat → Nat → (Nat → Int32) → Prop) (h h' : xH) (v : Option Value) : Array Value → State → Outcome → State → Prop := fun _ st o t => o = .returned v ∧ RelH D T3 SX (x_A h) h' t.heap ∧ va_F (x_A h) st t
def x_met (l : Launch) (z : Nat) (as : List Value) (h h' : xH) (v : Option Value) : Prop := ∀ (D : va_G) (T3 : Nat → ClassId) (SX : Nat → Nat → (Nat → Int32) → Prop), Met l (x_nm z) (x_ws z) (x_rm z (h'.1.1 - h.1.1) (h'.1.2 - h.1.2)) (x_Pc D T3 SX as h) (x_Qc D T3 SX h h' v) (h'.1.1 - h.1.1) (h'.1.2 - h.1.2) (x_A h)
theorem KK.warm {D : va_G} {T3 : Nat → ClassId} {s U : State} (hW : s.WarmedH U.vm) (h : KK D T3 s) : KK D T3 U := by
  refine ⟨va_K.moved hW.alike h.1, fun w hw => ?_, va_AO.moved hW.alike h.2.2⟩
  have h1 := h.2.1 w hw
  have h2 : x_isN w = true := (List.mem_filter.mp hw).2
  cases w with
  | fieldLinkNest a b c d e f => exact va_Nw.warmF hW h1
  | methodLinkNest a b c d => exact va_Nw.warmM hW h1
  | _ => cases h2
theorem KK.calling {D : va_G} {T3 : Nat → ClassId} {U : State} {g : JFrame} {mk : MethodId} {a : Array Value} (h : KK D T3 U) : KK D T3 (U.calling g mk a) := by
  refine ⟨va_K.moved (u := U) (U := U.calling g mk a) (Vm.Alike.refl U.vm) h.1, fun w hw => ?_, va_AO.moved (u := U) (U := U.calling g mk a) (Vm.Alike.refl U.vm) h.2.2⟩
  have h1 := h.2.1 w hw
  have h2 : x_isN w = true := (List.mem_filter.mp hw).2
  have h3 : w.onTables = true := by cases w <;> first | rfl | cases h2
  exact va_Nw.same (u := U) (U := U.calling g mk a) h3 rfl h1
theorem x_blind {D : va_G} {T3 : Nat → ClassId} {SX : Nat → Nat → (Nat → Int32) → Prop} {as : List Value} {h : xH} : FrameBlind (x_Pc D T3 SX as h) := by
  intro a U g mk q
  obtain ⟨q1, q2, q3, q4⟩ := q
  exact ⟨q1, q2, q3.calling, fun b n f hb => ⟨va_X.moved (u := U) (U := U.calling g mk a) (Vm.Alike.refl U.vm) (q4 b n f hb).1, (q4 b n f hb).2⟩⟩
/-- the callee's cells are its caller's -/
theorem x_A_sub {D : va_G} {T3 : Nat → ClassId} {SX : Nat → Nat → (Nat → Int32) → Prop} {A : Nat → Prop} {H0 H : Heap} {z0 : Nat × Nat} {y : Nat} {ls : Array Slot} {L : List Value} {h : xH} {locs : List Loc} {cells slots : Nat} (hst : ST D T3 SX A H0 z0 H0.size y ls L h H locs cells slots) : ∀ q, x_A h q → A q := by
  intro q hq
  rcases hq with hq | hq
  · exact hst.2.2.1.2.2.1 q hq
  · refine hst.2.2.2.2.2.2 q (Nat.le_trans hst.2.2.2.1.1 ?_)
    rw [hst.2.2.1.1]
    exact hq
/-- the script is the callee's too -/
theorem x_scr {p : Program} {R : Room} {s : State} {m : MethodId} {args : Array Value} {meth : Method} {c : Code} {D : va_G} {T3 : Nat → ClassId} {y : Nat} {SX : Nat → Nat → (Nat → Int32) → Prop} {A : Nat → Prop} {H0 : Heap} {H : Heap} {z0 : Nat × Nat} {ls : Array Slot} {L : List Value} {h : xH} {locs : List Loc} {cells slots : Nat} (hC : CX SX A H0 D T3 p R s m args meth c y) (hst : ST D T3 SX A H0 z0 H0.size y ls L h H locs cells slots) {U : State} (hU : U.heap = H) (hW : s.WarmedH U.vm) : ∀ q n f, SX q n f → va_X q n f U U.heap ∧ q < U.heap.size ∧ ¬ x_A h q := by
  intro q n f hq
  obtain ⟨g1, g2, g3⟩ := hC.2.2.2.2.2.2.2.2.2 q n f hq
  have hS := hst.2.2.2.1
  rw [hU]
  exact ⟨(g1.kept (hS.2.1 q g2 g3)).moved hW.alike, Nat.lt_of_lt_of_le g2 hS.1, fun z => g3 (x_A_sub hst q z)⟩
theorem run_cont {p : Program} {l : Launch} {e : Env} {R : Room} {s : State} {m : MethodId} {args : Array Value} {below : List Frame} {meth : Method} {c : Code} {Q : State → Prop} {D : va_G} {T3 : Nat → ClassId} {A : Nat → Prop} {H0 : Heap} {z0 : Nat × Nat} {y : Nat} {SX : Nat → Nat → (Nat → Int32) → Prop} {pc : Nat} {L st t : List Value} {h h1 : xH} {ls : Array Slot} {H : Heap} {locs : List Loc} {cells slots : Nat} {v : Option Value} {aa : Array Value} (hst : ST D T3 SX A H0 z0 H0.size y ls L h H locs cells slots) (hg1 : h.1.1 ≤ h1.1.1) (hg2 : h.1.2 ≤ h1.1.2)
    (hr : va_Run p l e R s m args below meth c H locs cells slots (h1.1.1 - h.1.1) (h1.1.2 - h.1.2) (F0 m pc ls st) t (x_Qc D T3 SX h h1 v aa) (x_A h)) (hk : WS p l e R s m args below meth c Q D T3 SX A H0 z0 y (pc + 3) L (v.toList ++ t) h1) : W p l e R s m args below meth c H locs cells slots Q (F0 m pc ls st) := by
  intro T hT X
  obtain ⟨v', st₀, t', T', Lc, h0, X', hL, e1, e2, ⟨hv, hR', hF⟩, hgo⟩ := hr T hT X
  cases hv
  have hsub := x_A_sub hst
  have hsz := hst.2.2.1.1
  have hH0 := hst.2.2.2.1
  have hF1 : H.size ≤ T'.heap.size := by have := hF.1; rw [h0] at this; rw [e1]; exact this
  have hF2 : ∀ q : Nat, q < H.size → ¬ x_A h q → T'.heap[q]? = H[q]? := fun q g1 g2 => by
    have := hF.2 q (by rw [h0]; exact g1) g2
    rw [h0] at this
    rw [e1]; exact this
  have hst1 : ST D T3 SX A H0 z0 H0.size y ls L h1 T'.heap (locs ++ Lc) (cells + (h1.1.1 - h.1.1)) (slots + (h1.1.2 - h.1.2)) := by
    refine ⟨hst.1, hst.2.1, ?_, ⟨Nat.le_trans hH0.1 hF1, fun q g1 g2 => ?_, fun q hq => ?_⟩, ?_, ?_, hst.2.2.2.2.2.2⟩
    · rw [e1]
      exact ⟨hR'.1, hR'.2.1, fun q hq => hsub q (hR'.2.2.1 q hq), hR'.2.2.2⟩
    · rw [hF2 q (Nat.lt_of_lt_of_le g1 hH0.1) (fun z => g2 (hsub q z))]
      exact hH0.2.1 q g1 g2
    · rcases List.mem_append.mp hq with g | g
      · exact hH0.2.2 q g
      · exact hsub _ (hL q g)
    · have := hst.2.2.2.2.1; omega
    · have := hst.2.2.2.2.2.1; omega
  obtain ⟨t2, a1, b1⟩ := hk ls T'.heap (locs ++ Lc) _ _ hst1 T' rfl X'
  exact ⟨t2, hgo t2 a1, b1⟩
theorem x_cats {t : List Value} (h : (t.map fun v => v.category).sum ≤ 8) : 2 * (F0 (m := (default : MethodId)) 0 #[] []).monitorRoom + (t.map fun v => v.category).sum ≤ 8 := by
  show 2 * 0 + _ ≤ 8
  omega
theorem x_hws {z : Nat} {p : Program} {R : Room} {s : State} {m : MethodId} {args : Array Value} {meth : Method} {c : Code} {D : va_G} {T3 : Nat → ClassId} {y : Nat} {SX : Nat → Nat → (Nat → Int32) → Prop} {A : Nat → Prop} {H0 : Heap} (hC : CX SX A H0 D T3 p R s m args meth c y) (hcode : Jvm.Cond.code (x_nm z) (x_cd z) (x_ml z) (x_rt z) ∈ x_TG) : ∀ w ∈ x_ws z, ∀ (a' : Array Value) (U : State), s.WarmedH U.vm → w.before a' U = true := by
  intro w hw a' U hW
  have hw' : w ∈ x_TG := by
    rcases List.mem_cons.mp hw with rfl | hw
    · exact hcode
    · exact hw
  exact word_at hW (good_of_word (List.mem_filter.mp hw').2) (x_hts hC w hw')
theorem x_s_isC {y pc : Nat} {L st : List Value} {h : xH} {i : Instr} {q : Nat × List Value × Nat × List Value × List Value} (hs : x_s y i pc L st h = some (.inr (.inr q))) : (∃ ix, i = .invokevirtual ix) ∨ (∃ ix, i = .invokestatic ix) ∨ ∃ ix, i = .invokespecial ix := by
  cases i with
  | invokevirtual ix => exact Or.inl ⟨ix, rfl⟩
  | invokestatic ix => exact Or.inr (Or.inl ⟨ix, rfl⟩)
  | invokespecial ix => exact Or.inr (Or.inr ⟨ix, rfl⟩)
  | newarray t =>
    exfalso
    have key : ∀ tg : Nat, xNarr pc tg L st h = some (.inr (.inr q)) → False := by
      intro tg hs
      unfold xNarr at hs
      split at hs
      · split at hs
        · cases hs
        · cases hs
      · cases hs
    cases t with
    | int => exact key 0 hs
    | _ => cases hs
  | _ =>
    exfalso
    simp only [x_s, nx, jp, xLi, xLl, xLa, xSi, xSa, xInc, x2i, x2l, xli, xIf, xGet, xPut, xIald, xIast, xZald, xZast, xAald, xAast, xAlen, xNew, xAnew, xIv, xIs, xIp, xInv, xTab, xLook, xRet, xRea, xRev] at hs
    repeat' split at hs
    all_goals cases hs
theorem x_s_isR {y pc : Nat} {L st : List Value} {h : xH} {i : Instr} {v : Option Value} (hs : x_s y i pc L st h = some (.inr (.inl v))) : i = .ireturn ∨ i = .areturn ∨ i = .return_ := by
  cases i with
  | ireturn => exact Or.inl rfl
  | areturn => exact Or.inr (Or.inl rfl)
  | return_ => exact Or.inr (Or.inr rfl)
  | newarray t =>
    exfalso
    have key : ∀ tg : Nat, xNarr pc tg L st h = some (.inr (.inl v)) → False := by
      intro tg hs
      unfold xNarr at hs
      split at hs
      · split at hs
        · cases hs
        · cases hs
      · cases hs
    cases t with
    | int => exact key 0 hs
    | _ => cases hs
  | _ =>
    exfalso
    simp only [x_s, nx, jp, xLi, xLl, xLa, xSi, xSa, xInc, x2i, x2l, xli, xIf, xGet, xPut, xIald, xIast, xZald, xZast, xAald, xAast, xAlen, xNew, xAnew, xIv, xIs, xIp, xInv, xTab, xLook, xRet, xRea, xRev] at hs
    repeat' split at hs
    all_goals cases hs
/-- a call, by the callee's contract -/
theorem x_call {p : Program} {l : Launch} {e : Env} {R : Room} {s : State} {m : MethodId} {args : Array Value} {below : List Frame} {meth : Method} {c : Code} {Q : State → Prop} {D : va_G} {T3 : Nat → ClassId} {A : Nat → Prop} {H0 : Heap} {z0 : Nat × Nat} {y : Nat} {SX : Nat → Nat → (Nat → Int32) → Prop} {pc pc' z len : Nat} {L st L' as t : List Value} {h h1 : xH} {i : Instr} {v : Option Value} (hC : CX SX A H0 D T3 p R s m args meth c y) (hf : x_fe y pc = some (i, len)) (hs : x_s y i pc L st h = some (.inr (.inr (z, as, pc', L', t)))) (hm : ∀ q : (Nat × Nat) × (Nat × Nat × Nat), q.2.2.1 = z → x_ivOK q → (xsp as).length ≤ x_ml z → z ≠ x_LAW → x_met l z as h h1 v) (hg1 : h.1.1 ≤ h1.1.1) (hg2 : h.1.2 ≤ h1.1.2) (hr1 : h1.1.1 ≤ z0.1 + R.cells) (hr2 : h1.1.2 ≤ z0.2 + R.slots)
    (hk : WS p l e R s m args below meth c Q D T3 SX A H0 z0 y pc' L' (v.toList ++ t) h1) : WS p l e R s m args below meth c Q D T3 SX A H0 z0 y pc L st h := by
  obtain ⟨hd, ho⟩ := x_fe_of hf
  have hfix : CallFix p m c (x_cd y) (x_ml y) s args x_TG (x_RC (x_kl y)) := ⟨hC.1, hC.2.1, hC.2.2.1, x_own hC, x_hts hC⟩
  have hfr := hC.2.2.2.2.2.2.1
  have hlo := hC.2.2.2.2.2.2.2.1
  cases i with
  | invokevirtual ix =>
    obtain rfl := eq_of_beq ho
    have hs : xIv y ix pc L st h = some (.inr (.inr (z, as, pc', L', t))) := hs
    unfold xIv at hs
    split at hs
    next zz n hiv =>
      split at hs
      next b t0 hdrop =>
        split at hs
        next hK =>
          split at hs
          next hlen =>
            unfold xInv at hs
            split at hs
            next hroom =>
              cases hs
              intro ls H locs cells slots hst
              obtain ⟨r1, r2, r3, r4, r5⟩ := hroom
              have hok := x_ivl _ (x_find_mem _ _ _ _ hiv)
              have hM := hm _ rfl hok r4 r5 D T3 SX
              obtain ⟨hlink, hcode, hini, hne, hpar, hpl, hcls, h0, -, -⟩ := hok
              obtain ⟨hinst, hsel, T, N, hcl⟩ := h0 rfl
              obtain ⟨fs, he⟩ := isK_of hK
              have hat := hst.2.2.1.2.1 b (by rw [he]; exact decide_eq_true (x_clsN hcl))
              rw [he] at hat
              have hst' : st = ((st.take n).reverse).reverse ++ .ref b :: t := by
                rw [List.reverse_reverse, ← hdrop, List.take_append_drop]
              have a1 := hst.2.2.2.2.1
              have a2 := hst.2.2.2.2.2.1
              have hp : PreV s H (x_nm z).cls b (x_Pc D T3 SX (.ref b :: (st.take n).reverse) h) (st.take n).reverse := by
                refine ⟨x_blind, va_recv (x_KK hC).1 (va_one hat) hcl (q0 := 0) rfl, fun U hU hW => ⟨rfl, ?_, (x_KK hC).warm hW, x_scr hC hst hU hW⟩⟩
                rw [hU]
                exact ⟨hst.2.2.1.1, hst.2.2.1.2.1, fun q hq => Or.inl hq, hst.2.2.1.2.2.2⟩
              have hsig : ∀ sig, parseMethodDescriptor (x_nm z).desc = some sig → n = sig.parameters.length := fun sig hsg => by
                have h2 := hpar
                dsimp only at h2
                rw [hsg] at h2
                exact (Option.some.inj h2).symm
              refine run_cont hst hg1 hg2 (v := v) (aa := (Value.ref b :: (st.take n).reverse).toArray) (t := t) ?_ hk
              rcases hlink with hl | ⟨host, hl⟩
              · exact va_runV (As := (st.take n).reverse) (rest := t) hfix hM ⟨⟨rfl, rfl, by show x_fr z + 1 ≤ _; omega, by show 8 + (x_ml z + 11) + x_lo z ≤ _; omega, x_hws hC hcode, List.mem_cons_self, x_hts hC _ hcode, x_hts hC _ hini, hne, hsig, x_hts hC _ hl⟩, x_hts hC _ hinst, x_hts hC _ hsel⟩ hp rfl (by rw [List.length_reverse]; exact hlen) hst.1 hst' (x_cats r3) hd ⟨by omega, by omega⟩
              · exact va_runVN (As := (st.take n).reverse) (rest := t) (C := (x_nm z).cls) hfix hM ⟨⟨⟨rfl, rfl, by show x_fr z + 1 ≤ _; omega, by show 8 + (x_ml z + 11) + x_lo z ≤ _; omega, x_hws hC hcode, List.mem_cons_self⟩, x_hts hC _ hcode, x_hts hC _ hini, hne, hsig, va_Nw.use rfl ((x_KK hC).2.1 _ hl)⟩, x_hts hC _ hinst, x_hts hC _ hsel⟩ hp rfl (by rw [List.length_reverse]; exact hlen) hst.1 hst' (x_cats r3) hd ⟨by omega, by omega⟩
            next => cases hs
          next => cases hs
        next => cases hs
      next => cases hs
    next => cases hs
  | invokestatic ix =>
    obtain rfl := eq_of_beq ho
    have hs : xIs y ix pc L st h = some (.inr (.inr (z, as, pc', L', t))) := hs
    unfold xIs at hs
    split at hs
    next b hb =>
      split at hs
      · split at hs
        · cases hs
        · cases hs
      · cases hs
    next =>
      split at hs
      next zz n hiv =>
        split at hs
        next hlen =>
          unfold xInv at hs
          split at hs
          next hroom =>
            cases hs
            intro ls H locs cells slots hst
            obtain ⟨r1, r2, r3, r4, r5⟩ := hroom
            have hok := x_ivl _ (x_find_mem _ _ _ _ hiv)
            have hM := hm _ rfl hok r4 r5 D T3 SX
            obtain ⟨hlink, hcode, hini, hne, hpar, hpl, hcls, -, h0, -⟩ := hok
            have hstat := h0 rfl
            have hst' : st = ((st.take n).reverse).reverse ++ st.drop n := by
              rw [List.reverse_reverse, List.take_append_drop]
            have a1 := hst.2.2.2.2.1
            have a2 := hst.2.2.2.2.2.1
            have hp : PreS s H (x_Pc D T3 SX (st.take n).reverse h) (st.take n).reverse := by
              refine ⟨x_blind, fun U hU hW => ⟨rfl, ?_, (x_KK hC).warm hW, x_scr hC hst hU hW⟩⟩
              rw [hU]
              exact ⟨hst.2.2.1.1, hst.2.2.1.2.1, fun q hq => Or.inl hq, hst.2.2.1.2.2.2⟩
            have hsig : ∀ sig, parseMethodDescriptor (x_nm z).desc = some sig → n = sig.parameters.length := fun sig hsg => by
              have h2 := hpar
              dsimp only at h2
              rw [hsg] at h2
              exact (Option.some.inj h2).symm
            refine run_cont hst hg1 hg2 (v := v) (aa := ((st.take n).reverse).toArray) (t := st.drop n) ?_ hk
            rcases hlink with hl | ⟨host, hl⟩
            · exact va_runS (As := (st.take n).reverse) (rest := st.drop n) hfix hM ⟨⟨rfl, rfl, by show x_fr z + 1 ≤ _; omega, by show 8 + (x_ml z + 11) + x_lo z ≤ _; omega, x_hws hC hcode, List.mem_cons_self, x_hts hC _ hcode, x_hts hC _ hini, hne, hsig, x_hts hC _ hl⟩, x_hts hC _ hstat⟩ hp rfl (by rw [List.length_reverse]; exact hlen) hst.1 hst' (x_cats r3) hd ⟨by omega, by omega⟩
            · exact va_runSN (As := (st.take n).reverse) (rest := st.drop n) hfix hM ⟨⟨⟨rfl, rfl, by show x_fr z + 1 ≤ _; omega, by show 8 + (x_ml z + 11) + x_lo z ≤ _; omega, x_hws hC hcode, List.mem_cons_self⟩, x_hts hC _ hcode, x_hts hC _ hini, hne, hsig, va_Nw.use rfl ((x_KK hC).2.1 _ hl)⟩, x_hts hC _ hstat, trivial⟩ hp rfl (by rw [List.length_reverse]; exact hlen) hst.1 hst' (x_cats r3) hd ⟨by omega, by omega⟩
          next => cases hs
        next => cases hs
      next => cases hs
  | invokespecial ix =>
    obtain rfl := eq_of_beq ho
    have hs : xIp y ix pc L st h = some (.inr (.inr (z, as, pc', L', t))) := hs
    unfold xIp at hs
    split at hs
    next hb =>
      split at hs
      · split at hs
        · cases hs
        · cases hs
      · cases hs
    next =>
      split at hs
      next zz n hiv =>
        split at hs
        next b t0 hdrop =>
          split at hs
          next hlen =>
            unfold xInv at hs
            split at hs
            next hroom =>
              cases hs
              intro ls H locs cells slots hst
              obtain ⟨r1, r2, r3, r4, r5⟩ := hroom
              have hok := x_ivl _ (x_find_mem _ _ _ _ hiv)
              have hM := hm _ rfl hok r4 r5 D T3 SX
              obtain ⟨hlink, hcode, hini, hne, hpar, hpl, hcls, -, -, h0⟩ := hok
              obtain ⟨hinst, hname, hret⟩ := h0 rfl
              have hst' : st = ((st.take n).reverse).reverse ++ .ref b :: t := by
                rw [List.reverse_reverse, ← hdrop, List.take_append_drop]
              have a1 := hst.2.2.2.2.1
              have a2 := hst.2.2.2.2.2.1
              have hp : PreS s H (x_Pc D T3 SX (.ref b :: (st.take n).reverse) h) (.ref b :: (st.take n).reverse) := by
                refine ⟨x_blind, fun U hU hW => ⟨rfl, ?_, (x_KK hC).warm hW, x_scr hC hst hU hW⟩⟩
                rw [hU]
                exact ⟨hst.2.2.1.1, hst.2.2.1.2.1, fun q hq => Or.inl hq, hst.2.2.1.2.2.2⟩
              have hret' : x_rt z = none := hret
              have hcode' : Jvm.Cond.code (x_nm z) (x_cd z) (x_ml z) none ∈ x_TG := by rw [← hret']; exact hcode
              have hmem : Jvm.Cond.code (x_nm z) (x_cd z) (x_ml z) none ∈ x_ws z := by unfold x_ws; rw [hret']; exact List.mem_cons_self
              have hsig : ∀ sig, parseMethodDescriptor (x_nm z).desc = some sig → n = sig.parameters.length := fun sig hsg => by
                have h2 := hpar
                dsimp only at h2
                rw [hsg] at h2
                exact (Option.some.inj h2).symm
              refine run_cont hst hg1 hg2 (v := v) (aa := (Value.ref b :: (st.take n).reverse).toArray) (t := t) ?_ hk
              rcases hlink with hl | ⟨host, hl⟩
              · exact va_runI (As := (st.take n).reverse) (rest := t) hfix hM ⟨⟨rfl, rfl, by show x_fr z + 1 ≤ _; omega, by show 8 + (x_ml z + 11) + x_lo z ≤ _; omega, x_hws hC hcode, hmem, x_hts hC _ hcode', x_hts hC _ hini, hne, hsig, x_hts hC _ hl⟩, hname, x_hts hC _ hinst⟩ hp rfl (by rw [List.length_reverse]; exact hlen) hst.1 hst' (x_cats r3) hd ⟨by omega, by omega⟩
              · exact va_runIN (As := (st.take n).reverse) (rest := t) hfix hM ⟨⟨⟨rfl, rfl, by show x_fr z + 1 ≤ _; omega, by show 8 + (x_ml z + 11) + x_lo z ≤ _; omega, x_hws hC hcode, hmem⟩, x_hts hC _ hcode', x_hts hC _ hini, hne, hsig, va_Nw.use rfl ((x_KK hC).2.1 _ hl)⟩, hname, x_hts hC _ hinst⟩ hp rfl (by rw [List.length_reverse]; exact hlen) hst.1 hst' (x_cats r3) hd ⟨by omega, by omega⟩
            next => cases hs
          next => cases hs
        next => cases hs
      next => cases hs
  | _ => exact absurd (x_s_isC hs) (by rintro (⟨_, q⟩ | ⟨_, q⟩ | ⟨_, q⟩) <;> cases q)
