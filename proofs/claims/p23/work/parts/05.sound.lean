/-! what the small machine answers, the Java machine does -/
def x_tys (T3 : Nat → ClassId) : List (ClassId × FieldType) := [(T3 0, .int), (T3 1, .int), (T3 2, .object x_AOC)]
def x_cell (T3 : Nat → ClassId) : va_E → va_E
  | .inl (t, a) => .inl (T3 t, a)
  | .inr o => .inr o
def x_trk : va_E → Bool
  | .inl (t, _) => decide (t < 3)
  | .inr (ci, _) => decide (ci < x_CLS.length)
def x_wr : va_E → Bool
  | .inl (t, _) => decide (t < 3)
  | .inr (ci, _) => decide (ci < x_CLS.length)
def RelH (D : va_G) (T3 : Nat → ClassId) (SX : Nat → Nat → (Nat → Int32) → Prop) (A : Nat → Prop) (h : xH) (H : Heap) : Prop := H.size = h.1.1 ∧ (∀ q, x_trk (h.2 q) = true → va_at D x_CLS (q, x_cell T3 (h.2 q)) H) ∧ (∀ q, x_wr (h.2 q) = true → A q) ∧ ∀ q n f, h.2 q = .inl (3, n, .inl f) → SX q n f
def KK (D : va_G) (T3 : Nat → ClassId) (U : State) : Prop := va_K D x_CLS (x_tys T3) U ∧ (∀ w ∈ x_NW, va_Nw w U) ∧ va_AO x_AOC U
def CX (SX : Nat → Nat → (Nat → Int32) → Prop) (A : Nat → Prop) (H0 : Heap) (D : va_G) (T3 : Nat → ClassId) (p : Program) (R : Room) (s : State) (m : MethodId) (args : Array Value) (meth : Method) (c : Code) (y : Nat) : Prop :=
  p.tables.exec = Jvm.exec ∧ c.code = x_cd y ∧ c.maxLocals = x_ml y ∧ s.vm.findClass (x_RC (x_kl y)) = some m.cls ∧ (∀ w ∈ x_TG, w.before args s = true) ∧ KK D T3 s ∧ x_fr y ≤ R.frames ∧ x_lo y ≤ R.locals ∧ (x_in y = true → meth.name = "<init>") ∧ (∀ q n f, SX q n f → va_X q n f s H0 ∧ q < H0.size ∧ ¬ A q)
def LH (ls : Array Slot) (L : List Value) : Prop := lv_wf ls ∧ L.length = ls.size ∧ ∀ (i : Nat) (v : Value), L[i]? = some v → v ≠ unk → ls[i]? = some (.val v)
def ST (D : va_G) (T3 : Nat → ClassId) (SX : Nat → Nat → (Nat → Int32) → Prop) (A : Nat → Prop) (H0 : Heap) (z0 : Nat × Nat) (s0 y : Nat) (ls : Array Slot) (L : List Value) (h : xH) (H : Heap) (locs : List Loc) (cells slots : Nat) : Prop :=
  ls.size = x_ml y ∧ LH ls L ∧ RelH D T3 SX A h H ∧ va_S A H0 H locs ∧ h.1.1 = z0.1 + cells ∧ h.1.2 = z0.2 + slots ∧ ∀ q, s0 ≤ q → A q
def WS (p : Program) (l : Launch) (e : Env) (R : Room) (s : State) (m : MethodId) (args : Array Value) (below : List Frame) (meth : Method) (c : Code) (Q : State → Prop) (D : va_G) (T3 : Nat → ClassId) (SX : Nat → Nat → (Nat → Int32) → Prop) (A : Nat → Prop) (H0 : Heap) (z0 : Nat × Nat) (y pc : Nat) (L st : List Value) (h : xH) : Prop :=
  ∀ (ls : Array Slot) (H : Heap) (locs : List Loc) (cells slots : Nat), ST D T3 SX A H0 z0 H0.size y ls L h H locs cells slots → W p l e R s m args below meth c H locs cells slots Q (F0 m pc ls st)
theorem x_fe_of {y pc len : Nat} {i : Instr} (h : x_fe y pc = some (i, len)) : decode (x_cd y) pc = .ok (i, len) ∧ x_okl i len = true := by
  unfold x_fe at h
  split at h
  next i' len' hd =>
    split at h
    next ho => cases h; exact ⟨hd, ho⟩
    next => cases h
  next => cases h
-- memory
theorem mu_s (m : xM) (a : Nat) (e : va_E) : mu m a e a = e := by simp [mu]
theorem mu_n (m : xM) {a q : Nat} (e : va_E) (h : q ≠ a) : mu m a e q = m q := by simp [mu, h]
theorem RelH.put {D : va_G} {T3 : Nat → ClassId} {SX : Nat → Nat → (Nat → Int32) → Prop} {A : Nat → Prop} {h : xH} {H H' : Heap} {a : Nat} {x : va_E} (hR : RelH D T3 SX A h H) (h3 : ∀ n f, x ≠ .inl (3, n, .inl f)) (ha : A a) (hz : H'.size = H.size) (he : va_at D x_CLS (a, x_cell T3 x) H') (ho : ∀ q : Nat, q ≠ a → H'[q]? = H[q]?) : RelH D T3 SX A (h.1, mu h.2 a x) H' := by
  refine ⟨hz.trans hR.1, fun q hq => ?_, fun q hq => ?_, fun q n f hq => ?_⟩
  · by_cases hqa : q = a
    · subst hqa
      show va_at D x_CLS (q, x_cell T3 (mu h.2 q x q)) H'
      rw [mu_s]
      exact he
    · have e1 : mu h.2 a x q = h.2 q := mu_n _ _ hqa
      show va_at D x_CLS (q, x_cell T3 (mu h.2 a x q)) H'
      have hq' : x_trk (mu h.2 a x q) = true := hq
      rw [e1] at hq' ⊢
      exact (hR.2.1 q hq').kept (ho q hqa)
  · by_cases hqa : q = a
    · rw [hqa]; exact ha
    · have hq' : x_wr (mu h.2 a x q) = true := hq
      rw [mu_n _ _ hqa] at hq'
      exact hR.2.2.1 q hq'
  · have hq' : mu h.2 a x q = .inl (3, n, .inl f) := hq
    by_cases hqa : q = a
    · subst hqa
      rw [mu_s] at hq'
      exact absurd hq' (h3 n f)
    · rw [mu_n _ _ hqa] at hq'
      exact hR.2.2.2 q n f hq'
theorem RelH.new {D : va_G} {T3 : Nat → ClassId} {SX : Nat → Nat → (Nat → Int32) → Prop} {A : Nat → Prop} {h : xH} {H H' : Heap} {x : va_E} {w : Nat} (hR : RelH D T3 SX A h H) (h3 : ∀ n f, x ≠ .inl (3, n, .inl f)) (ha : A H.size) (hz : H'.size = H.size + 1) (he : va_at D x_CLS (H.size, x_cell T3 x) H') (ho : ∀ q : Nat, q < H.size → H'[q]? = H[q]?) : RelH D T3 SX A ((h.1.1 + 1, w), mu h.2 h.1.1 x) H' := by
  have hs := hR.1
  refine ⟨by rw [hz, hs], fun q hq => ?_, fun q hq => ?_, fun q n f hq => ?_⟩
  · by_cases hqa : q = h.1.1
    · subst hqa
      show va_at D x_CLS (h.1.1, x_cell T3 (mu h.2 h.1.1 x h.1.1)) H'
      rw [mu_s, ← hs]
      exact he
    · have e1 : mu h.2 h.1.1 x q = h.2 q := mu_n _ _ hqa
      show va_at D x_CLS (q, x_cell T3 (mu h.2 h.1.1 x q)) H'
      have hq' : x_trk (mu h.2 h.1.1 x q) = true := hq
      rw [e1] at hq' ⊢
      exact (hR.2.1 q hq').kept (ho q (hR.2.1 q hq').lt)
  · by_cases hqa : q = h.1.1
    · rw [hqa, ← hs]; exact ha
    · have hq' : x_wr (mu h.2 h.1.1 x q) = true := hq
      rw [mu_n _ _ hqa] at hq'
      exact hR.2.2.1 q hq'
  · have hq' : mu h.2 h.1.1 x q = .inl (3, n, .inl f) := hq
    by_cases hqa : q = h.1.1
    · subst hqa
      rw [mu_s] at hq'
      exact absurd hq' (h3 n f)
    · rw [mu_n _ _ hqa] at hq'
      exact hR.2.2.2 q n f hq'
theorem va_one {D : va_G} {q : Nat × va_E} {H : Heap} (h : va_at D x_CLS q H) : va_P D x_CLS [q] H := by
  intro k x hk
  cases k with
  | zero => cases hk; exact h
  | succ k => simp at hk
theorem va_S.new {A : Nat → Prop} {H0 H H1 : Heap} {locs : List Loc} (h : va_S A H0 H locs) (z : H1.size = H.size + 1) (o1 : ∀ q : Nat, q < H.size → H1[q]? = H[q]?) : va_S A H0 H1 locs :=
  ⟨Nat.le_trans h.1 (by omega), fun x h1 h2 => (o1 x (Nat.lt_of_lt_of_le h1 h.1)).trans (h.2.1 x h1 h2), h.2.2⟩
theorem x_clsN {ci : Nat} {r : vw_C} (h : x_CLS[ci]? = some r) : ci < x_CLS.length := (List.getElem?_eq_some_iff.mp h).1
-- locals
theorem LH.get {ls : Array Slot} {L : List Value} (h : LH ls L) {k : Nat} {v : Value} (hk : lg L k = v) (hv : v ≠ unk) : ls[k]? = some (.val v) := by
  refine h.2.2 k v ?_ hv
  unfold lg at hk
  rw [List.getD_eq_getElem?_getD] at hk
  cases hL : L[k]? with
  | none => rw [hL] at hk; exact absurd hk.symm hv
  | some w => rw [hL] at hk; exact congrArg some hk
def lvl (L : List Value) : List (Nat × Value) := ((List.range L.length).map (fun i => (i, lg L i))).filter (fun q => decide (q.2 ≠ unk))
theorem lvl_mem {L : List Value} {q : Nat × Value} : q ∈ lvl L ↔ L[q.1]? = some q.2 ∧ q.2 ≠ unk := by
  obtain ⟨i, v⟩ := q
  unfold lvl
  simp only [List.mem_filter, List.mem_map, List.mem_range, decide_eq_true_eq, Prod.mk.injEq]
  constructor
  · rintro ⟨⟨j, hj, rfl, hv⟩, hn⟩
    refine ⟨?_, hn⟩
    rw [← hv]
    unfold lg
    rw [List.getD_eq_getElem?_getD, List.getElem?_eq_getElem hj]
    rfl
  · rintro ⟨hv, hn⟩
    have hj : i < L.length := (List.getElem?_eq_some_iff.mp hv).1
    refine ⟨⟨i, hj, rfl, ?_⟩, hn⟩
    unfold lg
    rw [List.getD_eq_getElem?_getD, hv]
    rfl
theorem LH.has {ls : Array Slot} {L : List Value} (h : LH ls L) {n : Nat} (hn : ls.size = n) : lv_has ls n (lvl L) := by
  refine ⟨hn, h.1, fun q hq => ?_⟩
  obtain ⟨h1, h2⟩ := lvl_mem.mp hq
  exact h.2.2 _ _ h1 h2
theorem xmod_len : ∀ (L : List Value) (j : Nat), (xmod L j).length = L.length
  | [], _ => rfl
  | _ :: _, 0 => rfl
  | _ :: t, n + 1 => by simp [xmod, xmod_len t n]
theorem xmod_get : ∀ (L : List Value) (j i : Nat), (xmod L j)[i]? = if i = j then (L[i]?).map k2 else L[i]?
  | [], _, _ => by simp [xmod]
  | a :: t, 0, 0 => by simp [xmod]
  | a :: t, 0, i + 1 => by simp [xmod]
  | a :: t, n + 1, 0 => by simp [xmod]
  | a :: t, n + 1, i + 1 => by
    simp only [xmod, List.getElem?_cons_succ, xmod_get t n i, Nat.add_right_cancel_iff]
theorem sto_len (L : List Value) (k : Nat) (v : Value) : (sto L k v).length = L.length := by
  unfold sto
  cases k with
  | zero => simp
  | succ j => simp [xmod_len]
theorem LH_sto {ls ls' : Array Slot} {L : List Value} {k n : Nat} {v : Value} (h : LH ls L) (h' : lv_has ls' n ((k, v) :: (lvl L).filter (fun q => !(q.1 == k) && !(q.1 + 1 == k && q.2.category == 2)))) (hn : ls.size = n) : LH ls' (sto L k v) := by
  refine ⟨h'.2.1, by rw [sto_len, h.2.1, h'.1, hn], fun i w hi hw => ?_⟩
  by_cases hik : i = k
  · subst hik
    have hlt : i < (sto L i v).length := (List.getElem?_eq_some_iff.mp hi).1
    have e1 : (sto L i v)[i]? = some v := by
      unfold sto at hlt ⊢
      rw [List.length_set] at hlt
      rw [List.getElem?_set_self hlt]
    rw [e1] at hi
    cases hi
    exact h'.2.2 _ List.mem_cons_self
  · have key : L[i]? = some w ∧ ¬ (i + 1 = k ∧ w.category = 2) := by
      unfold sto at hi
      rw [List.getElem?_set_ne (Ne.symm hik)] at hi
      cases k with
      | zero => exact ⟨hi, fun q => by omega⟩
      | succ j =>
        simp only [xmod_get] at hi
        split at hi
        next hij =>
          subst hij
          cases hL : L[i]? with
          | none => rw [hL] at hi; cases hi
          | some x =>
            rw [hL] at hi
            simp only [Option.map_some, Option.some.injEq] at hi
            unfold k2 at hi
            split at hi
            next => exact absurd hi.symm hw
            next hc => subst hi; exact ⟨rfl, fun q => hc q.2⟩
        next hij => exact ⟨hi, fun q => hij (by omega)⟩
    refine h'.2.2 (i, w) (List.mem_cons_of_mem _ (List.mem_filter.mpr ⟨lvl_mem.mpr ⟨key.1, hw⟩, ?_⟩))
    have h2 := key.2
    simp only [Bool.and_eq_true, Bool.not_eq_true', beq_eq_false_iff_ne, ne_eq, Bool.and_eq_false_iff]
    refine ⟨hik, ?_⟩
    by_cases h3 : i + 1 = k
    · exact Or.inr (fun q => h2 ⟨h3, q⟩)
    · exact Or.inl h3
theorem LH.same {ls : Array Slot} {L : List Value} {k : Nat} (h : LH ls L) (hk : k < L.length) : k < ls.size := by rw [← h.2.1]; exact hk
-- steps
theorem ws_jp {p : Program} {l : Launch} {e : Env} {R : Room} {s : State} {m : MethodId} {args : Array Value} {below : List Frame} {meth : Method} {c : Code} {Q : State → Prop} {D : va_G} {T3 : Nat → ClassId} {A : Nat → Prop} {H0 : Heap} {z0 : Nat × Nat} {y : Nat} {SX : Nat → Nat → (Nat → Int32) → Prop} {pc : Nat} {off : Int} {tgt : Nat} {pc pc' : Nat} {L st L' st' : List Value} {h h' : xH} (hj : jp pc off L st h = some (.inl (pc', L', st', h'))) : (pc : Int) + off = (pc' : Int) ∧ L' = L ∧ st' = st ∧ h' = h := by
  unfold jp at hj
  split at hj
  next h0 => cases hj; exact ⟨(Int.toNat_of_nonneg h0).symm, rfl, rfl, rfl⟩
  next => cases hj
