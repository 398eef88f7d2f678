/-- what a return leaves -/
def x_ret (p : Program) (l : Launch) (e : Env) (R : Room) (s : State) (m : MethodId) (args : Array Value) (below : List Frame) (meth : Method) (c : Code) (Q : State → Prop) (D : va_G) (T3 : Nat → ClassId) (SX : Nat → Nat → (Nat → Int32) → Prop) (A : Nat → Prop) (H0 : Heap) (z0 : Nat × Nat) (y : Nat) (v : Option Value) (h' : xH) : Prop :=
  ∀ (pc : Nat) (i : Instr) (L st : List Value), decode (x_cd y) pc = .ok (i, 1) → x_s y i pc L st h' = some (.inr (.inl v)) → ∀ (ls : Array Slot) (H : Heap) (locs : List Loc) (cells slots : Nat), ST D T3 SX A H0 z0 H0.size y ls L h' H locs cells slots → W p l e R s m args below meth c H locs cells slots Q (F0 m pc ls st)
/-- a run of n steps is a run of the Java machine -/
def x_snd (l : Launch) (n : Nat) : Prop := ∀ (y pc : Nat) (L st : List Value) (h h' : xH) (v : Option Value), x_r n y pc L st h = some (v, h') →
  ∀ (p : Program) (e : Env) (R : Room) (s : State) (m : MethodId) (args : Array Value) (below : List Frame) (meth : Method) (c : Code) (Q : State → Prop) (D : va_G) (T3 : Nat → ClassId) (SX : Nat → Nat → (Nat → Int32) → Prop) (A : Nat → Prop) (H0 : Heap) (z0 : Nat × Nat),
    CX SX A H0 D T3 p R s m args meth c y → h'.1.1 ≤ z0.1 + R.cells → h'.1.2 ≤ z0.2 + R.slots → x_ret p l e R s m args below meth c Q D T3 SX A H0 z0 y v h' → WS p l e R s m args below meth c Q D T3 SX A H0 z0 y pc L st h
theorem xsp_get : ∀ (as : List Value) (i : Nat) (v : Value), (xsp as)[i]? = some v → v ≠ unk → (lg_sl as)[i]? = some (.val v)
  | [], _, _, h, _ => by simp [xsp] at h
  | w :: ws, i, v, h, hv => by
    have ih := xsp_get ws
    by_cases hc : w.category = 2
    · simp only [xsp, hc, if_true] at h
      have e1 : lg_sl (w :: ws) = .val w :: .second :: lg_sl ws := by simp [lg_sl, hc]
      rw [e1]
      match i, h with
      | 0, h => simp at h; simp [h]
      | 1, h => simp at h; exact absurd h.symm hv
      | i + 2, h => simp at h ⊢; exact ih i v h hv
    · simp only [xsp, hc, if_false] at h
      have e1 : lg_sl (w :: ws) = .val w :: lg_sl ws := by simp [lg_sl, hc]
      rw [e1]
      match i, h with
      | 0, h => simp at h; simp [h]
      | i + 1, h => simp at h ⊢; exact ih i v h hv
theorem xsp_len : ∀ (as : List Value), (xsp as).length = (lg_sl as).length
  | [] => rfl
  | w :: ws => by
    have ih := xsp_len ws
    by_cases hc : w.category = 2
    · have e1 : lg_sl (w :: ws) = .val w :: .second :: lg_sl ws := by simp [lg_sl, hc]
      rw [e1]
      simp [xsp, hc, ih]
    · have e1 : lg_sl (w :: ws) = .val w :: lg_sl ws := by simp [lg_sl, hc]
      rw [e1]
      simp [xsp, hc, ih]
theorem x_entry (as : List Value) {n : Nat} (hn : (xsp as).length ≤ n) : LH ((lg_sl as ++ List.replicate (n - (lg_sl as).length) Slot.unset).toArray) (xen as n) ∧ ((lg_sl as ++ List.replicate (n - (lg_sl as).length) Slot.unset).toArray).size = n := by
  have hl := lv_entry as (n := n) (by rw [← xsp_len]; exact hn)
  refine ⟨⟨hl.2.1, ?_, fun i v hi hv => ?_⟩, hl.1⟩
  · rw [hl.1]
    unfold xen
    rw [List.length_append, List.length_replicate]
    omega
  · unfold xen at hi
    by_cases h1 : i < (xsp as).length
    · rw [List.getElem?_append_left h1] at hi
      have h2 := xsp_get as i v hi hv
      rw [List.getElem?_toArray, List.getElem?_append_left (by rw [← xsp_len]; exact h1)]
      exact h2
    · rw [List.getElem?_append_right (by omega)] at hi
      rw [List.getElem?_replicate] at hi
      split at hi
      · exact absurd (Option.some.inj hi).symm hv
      · cases hi
theorem x_met_of {l : Launch} {n z : Nat} {as : List Value} {h h' : xH} {v : Option Value} (hP : x_snd l n) (hr : x_r n z 0 (xen as (x_ml z)) [] h = some (v, h')) (q : (Nat × Nat) × (Nat × Nat × Nat)) (hq : q.2.2.1 = z) (hok : x_ivOK q) (hlen : (xsp as).length ≤ x_ml z) (hin : x_in z = true → (x_nm z).name = "<init>") (hlaw : z ≠ x_LAW) : x_met l z as h h' v := by
  intro D T3 SX
  subst hq
  obtain ⟨-, hcode, -, -, -, hpl, hcls, -⟩ := hok
  refine Met.ofW (cc := x_cd q.2.2.1) (maxL := x_ml q.2.2.1) (ret := x_rt q.2.2.1) hpl rfl ?_
  intro p e s m args below meth c s₁ B hml hv
  obtain ⟨rfl, hR, hK, hSX⟩ := hv
  have hts := atoms_spec (ws := x_ws q.2.2.1) B.pre
  have hown : s.vm.findClass (x_nm q.2.2.1).cls = some m.cls := findClass_of_methodNamed B.named
  have hnm : meth.name = (x_nm q.2.2.1).name := (name_of_methodNamed B.named B.method).1
  have hg := x_r_grow _ _ _ _ _ _ _ hr
  have hlocks := B.notSynchronized
  rw [lg_entry_eq]
  obtain ⟨e1, e2⟩ := x_entry as hlen
  have hC : CX SX (x_A h) s.heap D T3 p (headSpec (x_ws q.2.2.1) (x_rm q.2.2.1 (h'.1.1 - h.1.1) (h'.1.2 - h.1.2))).room s m as.toArray meth c q.2.2.1 :=
    ⟨B.exec, B.bytes, hml, by rw [← hcls]; exact hown, fun w hw => hts w (List.mem_cons_of_mem _ hw), hK, Nat.le_refl _, Nat.le_refl _, fun hi => by rw [hnm]; exact hin hi, hSX⟩
  refine hP q.2.2.1 0 (xen as (x_ml q.2.2.1)) [] h h' v hr p e _ s m as.toArray below meth c _ D T3 SX (x_A h) s.heap h.1 hC ?_ ?_ ?_ _ s.heap [] 0 0 ⟨e2, e1, hR, va_S.rf, rfl, rfl, fun q hq => Or.inr (by rw [← hR.1]; exact hq)⟩
  · show h'.1.1 ≤ h.1.1 + (h'.1.1 - h.1.1); have := hg.1; omega
  · show h'.1.2 ≤ h.1.2 + (h'.1.2 - h.1.2); have := hg.2; omega
  · intro pc i L st hd hs ls H locs cells slots hst
    have c1 : cells = h'.1.1 - h.1.1 := by have := hst.2.2.2.2.1; omega
    have c2 : slots = h'.1.2 - h.1.2 := by have := hst.2.2.2.2.2.1; omega
    subst c1; subst c2
    have hQ : ∀ t : State, t.heap = H → s.WarmedH t.vm → x_Qc D T3 SX h h' v as.toArray s (.returned v) t := by
      intro t ht hW
      refine ⟨rfl, by rw [ht]; exact hst.2.2.1, hst.2.2.2.1.F ht⟩
    have hF : ∀ q ∈ locs, x_A h q.base := hst.2.2.2.1.2.2
    rcases x_s_isR hs with rfl | rfl | rfl
    · have hs : xRet q.2.2.1 st = some (.inr (.inl v)) := hs
      unfold xRet at hs
      split at hs
      next x =>
        split at hs
        next ty hty =>
          split at hs
          next hf =>
            cases hs
            exact W.zret (ty := ty) hC.1 hC.2.1 (by rw [← hty]; exact B.returns) (x_fits_of hf).1 hQ hF hd
          next => cases hs
        next => cases hs
      next => cases hs
    · have hs : xRea q.2.2.1 st = some (.inr (.inl v)) := hs
      unfold xRea at hs
      split at hs
      next a =>
        split at hs
        next nm hty =>
          cases hs
          exact W.aret (rt := .object nm) hC.1 hC.2.1 (by rw [← hty]; exact B.returns) (Or.inl ⟨_, rfl⟩) (Or.inr ⟨_, rfl⟩) hQ hF hd
        next => cases hs
      next =>
        split at hs
        next nm hty =>
          cases hs
          exact W.aret (rt := .object nm) hC.1 hC.2.1 (by rw [← hty]; exact B.returns) (Or.inl ⟨_, rfl⟩) (Or.inl rfl) hQ hF hd
        next => cases hs
      next => cases hs
    · have hs : xRev q.2.2.1 st = some (.inr (.inl v)) := hs
      unfold xRev at hs
      split at hs
      next =>
        split at hs
        next hty =>
          cases hs
          exact W.vret hC.1 hC.2.1 (by rw [← hty]; exact B.returns) hQ hF hd
        next => cases hs
      next => cases hs
theorem x_inN : ∀ z, x_in z = true → (x_nm z).name = "<init>" := by
  have h : ∀ z, z < x_INS.length → x_INS.getD z false = true → (x_nm z).name = "<init>" := by decide +kernel
  intro z hz
  by_cases hl : z < x_INS.length
  · exact h z hl hz
  · unfold x_in at hz
    rw [List.getD_eq_getElem?_getD, List.getElem?_eq_none (by omega)] at hz
    cases hz
/-- SOUND: what the small machine answers, the Java machine does -/
theorem x_sound (l : Launch) : ∀ n, x_snd l n := by
  intro n
  induction n with
  | zero => intro y pc L st h h' v hr; cases hr
  | succ n ih =>
    intro y pc L st h h' v hr p e R s m args below meth c Q D T3 SX A H0 z0 hC hr1 hr2 hret
    have hgr := x_r_grow _ _ _ _ _ _ _ hr
    obtain ⟨k, i, len, ek, hf, hc⟩ := x_r_some hr
    cases ek
    rcases hc with ⟨pc', L', st', h1, hs, hk⟩ | ⟨hs, hh⟩ | ⟨z, as, pc', L', t, v1, h1, hs, hz, hk⟩
    · have hg := x_r_grow _ _ _ _ _ _ _ hk
      have hg1 : h1.1.1 ≤ h'.1.1 := hg.1
      have hg2 : h1.1.2 ≤ h'.1.2 := hg.2
      exact s_all hC (by omega) (by omega) hf hs (ih _ _ _ _ _ _ _ hk p e R s m args below meth c Q D T3 SX A H0 z0 hC hr1 hr2 hret)
    · have hh : h' = h := hh
      subst hh
      have hs : x_s y i pc L st h' = some (.inr (.inl v)) := hs
      obtain ⟨hd, ho⟩ := x_fe_of hf
      intro ls H locs cells slots hst
      refine hret pc i L st ?_ hs ls H locs cells slots hst
      rcases x_s_isR hs with rfl | rfl | rfl
      · obtain rfl := eq_of_beq ho; exact hd
      · obtain rfl := eq_of_beq ho; exact hd
      · obtain rfl := eq_of_beq ho; exact hd
    · have hg := x_r_grow _ _ _ _ _ _ _ hk
      have hg1 : h1.1.1 ≤ h'.1.1 := hg.1
      have hg2 : h1.1.2 ≤ h'.1.2 := hg.2
      have hgz := x_r_grow _ _ _ _ _ _ _ hz
      exact x_call hC hf hs (fun q hq hok hlen hlaw => x_met_of ih hz q hq hok hlen (x_inN z) hlaw) hgz.1 hgz.2 (by omega) (by omega) (ih _ _ _ _ _ _ _ hk p e R s m args below meth c Q D T3 SX A H0 z0 hC hr1 hr2 hret)
