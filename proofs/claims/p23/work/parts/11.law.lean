-- ===== end of PART A; then your names; then what follows =====
/-! THE CLAIM OUT OF ONE WALK OF THE LAW'S BODY. Your part is whole_start (and what it stands on); all else here is the same for every law, but numbers. -/
def R_law : String := "MeetingCarpetsLaw"
def lw_P (b : Addr) (xs : List Int32) (args : Array Value) (s : State) : Prop := args = #[.ref b] ∧ s.IntsAt b xs ∧ xs.length ≤ 260 ∧ (Jvm.Cond.and given_1 narrow_1).before args s = true
def lw_Q (_ : Array Value) (s : State) (o : Outcome) (t : State) : Prop := o = .returned (some (.int 1)) ∧ Framed s o t [] 600000 7302250
def lw_Z (below : List Frame) (a : Array Value) (s : State) : State → Prop := fun t => ∃ o, t.status = .running ∧ Ended t below o ∧ lw_Q a s o t
/-- the law's own end, with 1 on the stack, nothing written that was there before, its room as the claim has it -/
theorem lw_ret {p : Program} {l : Launch} {e : Env} {s : State} {m : MethodId} {below : List Frame} {meth : Method} {c : Code} {b : Nat} (hx : p.tables.exec = Jvm.exec) (hb : c.code = code) (hr : meth.sig.returnType = ret) (hlocks : meth.locks = false) {pc : Nat} {H : Heap} {ls : Array Slot} (hdg : decode code pc = .ok (.ireturn, 1)) : W p l e room_1 s m #[Value.ref b] below meth c H [] 600000 7302250 (lw_Z below #[Value.ref b] s) (F0 m pc ls [.int 1]) := by
  intro T hT X
  obtain ⟨fs, hret, hrun, hended, hW, hframe⟩ := X.leave (v := some (.int 1)) (hlocks := hlocks) (fun h => by rw [hr] at h; cases h)
  have hmeth' : T.vm.method? m = some meth := X.method'
  refine ⟨T.setFrames fs, ?_, .returned (some (.int 1)), hrun, hended, rfl, ⟨_, rfl⟩, hW, hframe⟩
  jvm_step X.here [X.here.top, hx, hb, hdg, hmeth', hr, ret, narrow_b1]
  (try refine ⟨rfl, ?_⟩); (try refine ⟨rfl, ?_⟩)
  first | (intro acts; rw [hret _ acts rfl rfl rfl]) | rw [hret _ _ rfl rfl rfl]
  exact Steps.refl _
/-- what holds at the law's entry: the machine, the code, the tables' words (any of lw_tbl by 'hts w (by decide +kernel)'), the script of L ints xs at the cell b, what the Statement gives of the start (any of its parts by flat_of_before) -/
def lw_At (p : Program) (s : State) (m : MethodId) (meth : Method) (c : Code) (b L : Nat) (xs : Nat → Int32) : Prop :=
  p.tables.exec = Jvm.exec ∧ c.code = code ∧ meth.sig.returnType = ret ∧ c.maxLocals = 11 ∧ s.vm.findClass R_law = some m.cls ∧ (∀ w ∈ lw_tbl, w.before #[Value.ref b] s = true) ∧ va_X b L xs s s.heap ∧ b < s.heap.size ∧ meth.locks = false ∧ (Jvm.Cond.and given_1 narrow_1).before #[Value.ref b] s = true
theorem x_ins : ∀ (ci : Nat) (C : String) (T : u_T) (N : Nat), x_CLS[ci]? = some (C, T, N) → Jvm.Cond.instantiable C N ∈ x_TG
  | 0, _, _, _, h => by cases h; exact x_tg 92 (by decide +kernel) (by decide +kernel)
  | 1, _, _, _, h => by cases h; exact x_tg 154 (by decide +kernel) (by decide +kernel)
  | 2, _, _, _, h => by cases h; exact x_tg 64 (by decide +kernel) (by decide +kernel)
  | 3, _, _, _, h => by cases h; exact x_tg 189 (by decide +kernel) (by decide +kernel)
  | 4, _, _, _, h => by cases h; exact x_tg 203 (by decide +kernel) (by decide +kernel)
  | 5, _, _, _, h => by cases h; exact x_tg 174 (by decide +kernel) (by decide +kernel)
  | 6, _, _, _, h => by cases h; exact x_tg 70 (by decide +kernel) (by decide +kernel)
  | 7, _, _, _, h => by cases h; exact x_tg 56 (by decide +kernel) (by decide +kernel)
  | n + 8, _, _, _, h => by simp at h
/-- the law's start: the script alone -/
def x_h0 (b L : Nat) (xs : Nat → Int32) : xM := fun q => if q = b then .inl (3, L, .inl xs) else .inr (99, [])
set_option maxHeartbeats 4000000 in
theorem x_whole {p : Program} {e : Env} {s : State} {m : MethodId} {below : List Frame} {meth : Method} {c : Code} (l : Launch) {b L : Nat} {xs : Nat → Int32} (C0 : lw_At p s m meth c b L xs) (hrun : ∃ hf : xH, rn x_LAW 0 [.ref b, unk, unk, unk, unk, unk, unk, unk, unk, unk, unk] [] ((s.heap.size, 0), x_h0 b L xs) = some (some (.int 1), hf) ∧ hf.1.1 ≤ s.heap.size + 600000 ∧ hf.1.2 ≤ 7302250) : W p l e room_1 s m #[Value.ref b] below meth c s.heap [] 0 0 (lw_Z below #[Value.ref b] s) (entryFrame m ([Value.ref b] : List Value).toArray 11) := by
  obtain ⟨hx, hb, hr, hml, hown, hts0, hX, hbl, hlocks, hgv⟩ := C0
  obtain ⟨hf, hrn, hc1, hc2⟩ := hrun
  have hts : ∀ w ∈ x_TG, w.before #[Value.ref b] s = true := fun w hw => hts0 w (List.mem_filter.mp hw).1
  have hcl : ∀ k : Nat, ∃ cC : ClassId, ∃ iS : Nat → Nat, ∀ r : vw_C, x_CLS[k]? = some r → u_Kn s r.1 r.2.1 r.2.2 cC iS := by
    intro k
    cases hk : x_CLS[k]? with
    | none => exact ⟨0, fun _ => 0, fun r h => by cases h⟩
    | some r =>
      obtain ⟨C, T, N⟩ := r
      obtain ⟨cC, iS, h⟩ := u_known (C := C) (T := T) (N := N) (n := N) hts (x_clA k C T N hk).1 (hts _ (x_ins k C T N hk))
      exact ⟨cC, iS, fun r hr => by cases hr; exact h⟩
  obtain ⟨dC, hdC⟩ := Classical.axiomOfChoice hcl
  obtain ⟨dI, hdI⟩ := Classical.axiomOfChoice hdC
  obtain ⟨cI, kI, pI, i1, i2, i3⟩ := Cond.arrayClass_spec (hts _ x_acI)
  have hAO : va_AO x_AOC s := va_AO.of (hts0 (.arrayOver (.object x_AOC)) (List.mem_of_getElem? (i := 160) (by decide +kernel)))
  obtain ⟨pH, cH, kH, g1, -, g3, g4, g5⟩ := Cond.arrayOver_spec hAO
  have hKK : KK (dC, dI) (fun k => if k = 0 then cI else if k = 1 then cI else cH) s := by
    refine ⟨⟨fun k r hk => hdI k r hk, fun k q hk => ?_⟩, fun w hw => ?_, hAO⟩
    · match k, hk with
      | 0, hk => cases hk; exact ⟨fun n z => ⟨fun k h => (by cases h), kI, i2, pI, i3⟩, i1⟩
      | 1, hk => cases hk; exact ⟨fun n z => ⟨fun k h => (by cases h), kI, i2, pI, i3⟩, i1⟩
      | 2, hk => cases hk; exact ⟨fun n z => ⟨fun k h => (by cases h), kH, g3, pH, g4⟩, kH, pH, g3, g4, g1, g5⟩
      | k + 3, hk => simp [x_tys] at hk
    · have h1 := hts0 w (List.mem_filter.mp hw).1
      have h2 : x_isN w = true := (List.mem_filter.mp hw).2
      have h3 : w.onTables = true := by cases w <;> first | rfl | cases h2
      exact va_Nw.of h3 h1
  have hC : CX (fun q n f => q = b ∧ n = L ∧ f = xs) (fun q => s.heap.size ≤ q) s.heap (dC, dI) (fun k => if k = 0 then cI else if k = 1 then cI else cH) p room_1 s m #[Value.ref b] meth c x_LAW := by
    refine ⟨hx, hb, hml, hown, hts, hKK, by decide +kernel, by decide +kernel, fun h => absurd h (by decide +kernel), fun q n f hq => ?_⟩
    obtain ⟨rfl, rfl, rfl⟩ := hq
    exact ⟨hX, hbl, Nat.not_le.mpr hbl⟩
  obtain ⟨n, hn⟩ := rn_ex hrn
  rw [lg_entry_eq]
  obtain ⟨e1, e2⟩ := x_entry [Value.ref b] (n := 11) (Nat.le_of_ble_eq_true rfl)
  refine x_sound l n x_LAW 0 [.ref b, unk, unk, unk, unk, unk, unk, unk, unk, unk, unk] [] ((s.heap.size, 0), x_h0 b L xs) hf (some (.int 1)) hn p e room_1 s m #[Value.ref b] below meth c _ _ _ _ _ s.heap (s.heap.size, 0) hC hc1 (by show hf.1.2 ≤ 0 + _; rw [Nat.zero_add]; exact hc2) ?_ _ s.heap [] 0 0 ⟨e2, e1, ⟨rfl, fun q hq => ?_, fun q hq => ?_, fun q n f hq => ?_⟩, va_S.rf, rfl, rfl, fun q hq => hq⟩
  · intro pc i L1 st hd hs ls H locs cells slots hst
    have c1 := hst.2.2.2.2.1
    have c2 := hst.2.2.2.2.2.1
    have c1 : hf.1.1 = s.heap.size + cells := c1
    have c2 : hf.1.2 = 0 + slots := c2
    refine va_forget (fun q hq => hst.2.2.2.1.2.2 q hq) ?_
    refine W.widen (k := 600000) (n := 7302250) (by omega) (by omega) ?_
    rcases x_s_isR hs with rfl | rfl | rfl
    · have hs : xRet x_LAW st = some (.inr (.inl (some (.int 1)))) := hs
      unfold xRet at hs
      split at hs
      next x =>
        split at hs
        next ty hty =>
          split at hs
          next hf => cases hs; exact lw_ret hx hb hr hlocks hd
          next => cases hs
        next => cases hs
      next => cases hs
    · have hs : xRea x_LAW st = some (.inr (.inl (some (.int 1)))) := hs
      unfold xRea at hs
      split at hs
      · split at hs <;> cases hs
      · split at hs <;> cases hs
      · cases hs
    · have hs : xRev x_LAW st = some (.inr (.inl (some (.int 1)))) := hs
      unfold xRev at hs
      split at hs
      · split at hs <;> cases hs
      · cases hs
  · have hq : x_trk (x_h0 b L xs q) = true := hq
    unfold x_h0 at hq
    split at hq <;> exact (Bool.false_ne_true hq).elim
  · have hq : x_wr (x_h0 b L xs q) = true := hq
    unfold x_h0 at hq
    split at hq <;> exact (Bool.false_ne_true hq).elim
  · have hq : x_h0 b L xs q = .inl (3, n, .inl f) := hq
    unfold x_h0 at hq
    split at hq
    next h => cases hq; exact ⟨h, rfl, rfl⟩
    next => cases hq
