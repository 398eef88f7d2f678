theorem s_iconst {p : Program} {l : Launch} {e : Env} {R : Room} {s : State} {m : MethodId} {args : Array Value} {below : List Frame} {meth : Method} {c : Code} {Q : State → Prop} {D : va_G} {T3 : Nat → ClassId} {A : Nat → Prop} {H0 : Heap} {z0 : Nat × Nat} {y : Nat} {SX : Nat → Nat → (Nat → Int32) → Prop} {pc pc' : Nat} {L st L' st' : List Value} {h h' : xH} (hC : CX SX A H0 D T3 p R s m args meth c y) {n : Int} (hd : decode (x_cd y) pc = .ok (.iconst n, 1)) (hs : nx (pc + 1) L (.int (Int32.ofInt n) :: st) h = some (.inl (pc', L', st', h'))) (hk : WS p l e R s m args below meth c Q D T3 SX A H0 z0 y pc' L' st' h') : WS p l e R s m args below meth c Q D T3 SX A H0 z0 y pc L st h := by
  cases hs
  intro ls H locs cells slots hst
  exact lv_iconst hC.1 hC.2.1 hd rfl (hk _ _ _ _ _ hst)
theorem s_bipush {p : Program} {l : Launch} {e : Env} {R : Room} {s : State} {m : MethodId} {args : Array Value} {below : List Frame} {meth : Method} {c : Code} {Q : State → Prop} {D : va_G} {T3 : Nat → ClassId} {A : Nat → Prop} {H0 : Heap} {z0 : Nat × Nat} {y : Nat} {SX : Nat → Nat → (Nat → Int32) → Prop} {pc pc' : Nat} {L st L' st' : List Value} {h h' : xH} (hC : CX SX A H0 D T3 p R s m args meth c y) {n : Int} (hd : decode (x_cd y) pc = .ok (.bipush n, 2)) (hs : nx (pc + 2) L (.int (Int8.ofInt n).toInt32 :: st) h = some (.inl (pc', L', st', h'))) (hk : WS p l e R s m args below meth c Q D T3 SX A H0 z0 y pc' L' st' h') : WS p l e R s m args below meth c Q D T3 SX A H0 z0 y pc L st h := by
  cases hs
  intro ls H locs cells slots hst
  exact lv_bipush hC.1 hC.2.1 hd rfl (hk _ _ _ _ _ hst)
theorem s_sipush {p : Program} {l : Launch} {e : Env} {R : Room} {s : State} {m : MethodId} {args : Array Value} {below : List Frame} {meth : Method} {c : Code} {Q : State → Prop} {D : va_G} {T3 : Nat → ClassId} {A : Nat → Prop} {H0 : Heap} {z0 : Nat × Nat} {y : Nat} {SX : Nat → Nat → (Nat → Int32) → Prop} {pc pc' : Nat} {L st L' st' : List Value} {h h' : xH} (hC : CX SX A H0 D T3 p R s m args meth c y) {n : Int} (hd : decode (x_cd y) pc = .ok (.sipush n, 3)) (hs : nx (pc + 3) L (.int (Int16.ofInt n).toInt32 :: st) h = some (.inl (pc', L', st', h'))) (hk : WS p l e R s m args below meth c Q D T3 SX A H0 z0 y pc' L' st' h') : WS p l e R s m args below meth c Q D T3 SX A H0 z0 y pc L st h := by
  cases hs
  intro ls H locs cells slots hst
  exact lv_sipush hC.1 hC.2.1 hd rfl (hk _ _ _ _ _ hst)
theorem s_lconst {p : Program} {l : Launch} {e : Env} {R : Room} {s : State} {m : MethodId} {args : Array Value} {below : List Frame} {meth : Method} {c : Code} {Q : State → Prop} {D : va_G} {T3 : Nat → ClassId} {A : Nat → Prop} {H0 : Heap} {z0 : Nat × Nat} {y : Nat} {SX : Nat → Nat → (Nat → Int32) → Prop} {pc pc' : Nat} {L st L' st' : List Value} {h h' : xH} (hC : CX SX A H0 D T3 p R s m args meth c y) {n : Fin 2} (hd : decode (x_cd y) pc = .ok (.lconst n, 1)) (hs : nx (pc + 1) L (.long (Int64.ofNat (n : Nat)) :: st) h = some (.inl (pc', L', st', h'))) (hk : WS p l e R s m args below meth c Q D T3 SX A H0 z0 y pc' L' st' h') : WS p l e R s m args below meth c Q D T3 SX A H0 z0 y pc L st h := by
  cases hs
  intro ls H locs cells slots hst
  exact lv_lconst hC.1 hC.2.1 hd rfl (hk _ _ _ _ _ hst)
theorem s_ldc2 {p : Program} {l : Launch} {e : Env} {R : Room} {s : State} {m : MethodId} {args : Array Value} {below : List Frame} {meth : Method} {c : Code} {Q : State → Prop} {D : va_G} {T3 : Nat → ClassId} {A : Nat → Prop} {H0 : Heap} {z0 : Nat × Nat} {y : Nat} {SX : Nat → Nat → (Nat → Int32) → Prop} {pc pc' : Nat} {L st L' st' : List Value} {h h' : xH} (hC : CX SX A H0 D T3 p R s m args meth c y) {ix : Nat} (hd : decode (x_cd y) pc = .ok (.ldc2_w ix, 3)) (hs : (match x_lc (x_kl y) ix with | some v => nx (pc + 3) L (.long v :: st) h | none => none) = some (.inl (pc', L', st', h'))) (hk : WS p l e R s m args below meth c Q D T3 SX A H0 z0 y pc' L' st' h') : WS p l e R s m args below meth c Q D T3 SX A H0 z0 y pc L st h := by
  split at hs
  next v hv =>
    cases hs
    intro ls H locs cells slots hst
    have hw : x_lcOK ((x_kl y, ix), v) := x_lcl _ (x_find_mem _ _ _ _ hv)
    exact lv_ldc2 hC.1 hC.2.1 hC.2.2.2.1 (hC.2.2.2.2.1 _ hw) hd (hk _ _ _ _ _ hst)
  next => cases hs
theorem s_null {p : Program} {l : Launch} {e : Env} {R : Room} {s : State} {m : MethodId} {args : Array Value} {below : List Frame} {meth : Method} {c : Code} {Q : State → Prop} {D : va_G} {T3 : Nat → ClassId} {A : Nat → Prop} {H0 : Heap} {z0 : Nat × Nat} {y : Nat} {SX : Nat → Nat → (Nat → Int32) → Prop} {pc pc' : Nat} {L st L' st' : List Value} {h h' : xH} (hC : CX SX A H0 D T3 p R s m args meth c y) (hd : decode (x_cd y) pc = .ok (.aconst_null, 1)) (hs : nx (pc + 1) L (.null :: st) h = some (.inl (pc', L', st', h'))) (hk : WS p l e R s m args below meth c Q D T3 SX A H0 z0 y pc' L' st' h') : WS p l e R s m args below meth c Q D T3 SX A H0 z0 y pc L st h := by
  cases hs
  intro ls H locs cells slots hst
  exact lv_null hC.1 hC.2.1 hd (hk _ _ _ _ _ hst)
theorem s_iload_n {p : Program} {l : Launch} {e : Env} {R : Room} {s : State} {m : MethodId} {args : Array Value} {below : List Frame} {meth : Method} {c : Code} {Q : State → Prop} {D : va_G} {T3 : Nat → ClassId} {A : Nat → Prop} {H0 : Heap} {z0 : Nat × Nat} {y : Nat} {SX : Nat → Nat → (Nat → Int32) → Prop} {pc pc' : Nat} {L st L' st' : List Value} {h h' : xH} (hC : CX SX A H0 D T3 p R s m args meth c y) {k : Fin 4} (hd : decode (x_cd y) pc = .ok (.iload_n k, 1)) (hs : xLi (pc + 1) L k st h = some (.inl (pc', L', st', h'))) (hk : WS p l e R s m args below meth c Q D T3 SX A H0 z0 y pc' L' st' h') : WS p l e R s m args below meth c Q D T3 SX A H0 z0 y pc L st h := by
  unfold xLi at hs
  split at hs
  next x hx =>
    cases hs
    intro ls H locs cells slots hst
    exact lv_iload_n hC.1 hC.2.1 hd rfl (hst.2.1.get hx (by simp [unk])) (hk _ _ _ _ _ hst)
  next => cases hs
theorem s_iload {p : Program} {l : Launch} {e : Env} {R : Room} {s : State} {m : MethodId} {args : Array Value} {below : List Frame} {meth : Method} {c : Code} {Q : State → Prop} {D : va_G} {T3 : Nat → ClassId} {A : Nat → Prop} {H0 : Heap} {z0 : Nat × Nat} {y : Nat} {SX : Nat → Nat → (Nat → Int32) → Prop} {pc pc' : Nat} {L st L' st' : List Value} {h h' : xH} (hC : CX SX A H0 D T3 p R s m args meth c y) {k : Nat} (hd : decode (x_cd y) pc = .ok (.iload k, 2)) (hs : xLi (pc + 2) L k st h = some (.inl (pc', L', st', h'))) (hk : WS p l e R s m args below meth c Q D T3 SX A H0 z0 y pc' L' st' h') : WS p l e R s m args below meth c Q D T3 SX A H0 z0 y pc L st h := by
  unfold xLi at hs
  split at hs
  next x hx =>
    cases hs
    intro ls H locs cells slots hst
    exact lv_iload hC.1 hC.2.1 hd (hst.2.1.get hx (by simp [unk])) (hk _ _ _ _ _ hst)
  next => cases hs
theorem s_lload_n {p : Program} {l : Launch} {e : Env} {R : Room} {s : State} {m : MethodId} {args : Array Value} {below : List Frame} {meth : Method} {c : Code} {Q : State → Prop} {D : va_G} {T3 : Nat → ClassId} {A : Nat → Prop} {H0 : Heap} {z0 : Nat × Nat} {y : Nat} {SX : Nat → Nat → (Nat → Int32) → Prop} {pc pc' : Nat} {L st L' st' : List Value} {h h' : xH} (hC : CX SX A H0 D T3 p R s m args meth c y) {k : Fin 4} (hd : decode (x_cd y) pc = .ok (.lload_n k, 1)) (hs : xLl (pc + 1) L k st h = some (.inl (pc', L', st', h'))) (hk : WS p l e R s m args below meth c Q D T3 SX A H0 z0 y pc' L' st' h') : WS p l e R s m args below meth c Q D T3 SX A H0 z0 y pc L st h := by
  unfold xLl at hs
  split at hs
  next x hx =>
    cases hs
    intro ls H locs cells slots hst
    exact lv_lload_n hC.1 hC.2.1 hd rfl (hst.2.1.get hx (by simp [unk])) (hk _ _ _ _ _ hst)
  next => cases hs
theorem s_lload {p : Program} {l : Launch} {e : Env} {R : Room} {s : State} {m : MethodId} {args : Array Value} {below : List Frame} {meth : Method} {c : Code} {Q : State → Prop} {D : va_G} {T3 : Nat → ClassId} {A : Nat → Prop} {H0 : Heap} {z0 : Nat × Nat} {y : Nat} {SX : Nat → Nat → (Nat → Int32) → Prop} {pc pc' : Nat} {L st L' st' : List Value} {h h' : xH} (hC : CX SX A H0 D T3 p R s m args meth c y) {k : Nat} (hd : decode (x_cd y) pc = .ok (.lload k, 2)) (hs : xLl (pc + 2) L k st h = some (.inl (pc', L', st', h'))) (hk : WS p l e R s m args below meth c Q D T3 SX A H0 z0 y pc' L' st' h') : WS p l e R s m args below meth c Q D T3 SX A H0 z0 y pc L st h := by
  unfold xLl at hs
  split at hs
  next x hx =>
    cases hs
    intro ls H locs cells slots hst
    exact lv_lload hC.1 hC.2.1 hd (hst.2.1.get hx (by simp [unk])) (hk _ _ _ _ _ hst)
  next => cases hs
theorem s_aload_n {p : Program} {l : Launch} {e : Env} {R : Room} {s : State} {m : MethodId} {args : Array Value} {below : List Frame} {meth : Method} {c : Code} {Q : State → Prop} {D : va_G} {T3 : Nat → ClassId} {A : Nat → Prop} {H0 : Heap} {z0 : Nat × Nat} {y : Nat} {SX : Nat → Nat → (Nat → Int32) → Prop} {pc pc' : Nat} {L st L' st' : List Value} {h h' : xH} (hC : CX SX A H0 D T3 p R s m args meth c y) {k : Fin 4} (hd : decode (x_cd y) pc = .ok (.aload_n k, 1)) (hs : xLa (pc + 1) L k st h = some (.inl (pc', L', st', h'))) (hk : WS p l e R s m args below meth c Q D T3 SX A H0 z0 y pc' L' st' h') : WS p l e R s m args below meth c Q D T3 SX A H0 z0 y pc L st h := by
  unfold xLa at hs
  split at hs
  next x hx =>
    cases hs
    intro ls H locs cells slots hst
    exact lv_aload_n hC.1 hC.2.1 hd rfl (hst.2.1.get hx (by simp [unk])) (hk _ _ _ _ _ hst)
  next hx =>
    cases hs
    intro ls H locs cells slots hst
    exact lv_aload_nN hC.1 hC.2.1 hd rfl (hst.2.1.get hx (by simp [unk])) (hk _ _ _ _ _ hst)
  next => cases hs
theorem s_aload {p : Program} {l : Launch} {e : Env} {R : Room} {s : State} {m : MethodId} {args : Array Value} {below : List Frame} {meth : Method} {c : Code} {Q : State → Prop} {D : va_G} {T3 : Nat → ClassId} {A : Nat → Prop} {H0 : Heap} {z0 : Nat × Nat} {y : Nat} {SX : Nat → Nat → (Nat → Int32) → Prop} {pc pc' : Nat} {L st L' st' : List Value} {h h' : xH} (hC : CX SX A H0 D T3 p R s m args meth c y) {k : Nat} (hd : decode (x_cd y) pc = .ok (.aload k, 2)) (hs : xLa (pc + 2) L k st h = some (.inl (pc', L', st', h'))) (hk : WS p l e R s m args below meth c Q D T3 SX A H0 z0 y pc' L' st' h') : WS p l e R s m args below meth c Q D T3 SX A H0 z0 y pc L st h := by
  unfold xLa at hs
  split at hs
  next x hx =>
    cases hs
    intro ls H locs cells slots hst
    exact lv_aload hC.1 hC.2.1 hd (hst.2.1.get hx (by simp [unk])) (hk _ _ _ _ _ hst)
  next hx =>
    cases hs
    intro ls H locs cells slots hst
    exact lv_aloadN hC.1 hC.2.1 hd (hst.2.1.get hx (by simp [unk])) (hk _ _ _ _ _ hst)
  next => cases hs
theorem ST.sto {D : va_G} {T3 : Nat → ClassId} {SX : Nat → Nat → (Nat → Int32) → Prop} {A : Nat → Prop} {H0 : Heap} {z0 : Nat × Nat} {s0 y : Nat} {ls ls' : Array Slot} {L : List Value} {h : xH} {H : Heap} {locs : List Loc} {cells slots : Nat} {k : Nat} {v : Value} (hst : ST D T3 SX A H0 z0 s0 y ls L h H locs cells slots) (h' : lv_has ls' (x_ml y) ((k, v) :: (lvl L).filter (fun q => !(q.1 == k) && !(q.1 + 1 == k && q.2.category == 2)))) : ST D T3 SX A H0 z0 s0 y ls' (sto L k v) h H locs cells slots :=
  ⟨h'.1, LH_sto hst.2.1 h' hst.1, hst.2.2⟩
theorem s_istore_n {p : Program} {l : Launch} {e : Env} {R : Room} {s : State} {m : MethodId} {args : Array Value} {below : List Frame} {meth : Method} {c : Code} {Q : State → Prop} {D : va_G} {T3 : Nat → ClassId} {A : Nat → Prop} {H0 : Heap} {z0 : Nat × Nat} {y : Nat} {SX : Nat → Nat → (Nat → Int32) → Prop} {pc pc' : Nat} {L st L' st' : List Value} {h h' : xH} (hC : CX SX A H0 D T3 p R s m args meth c y) {k : Fin 4} (hd : decode (x_cd y) pc = .ok (.istore_n k, 1)) (hs : xSi (pc + 1) L k st h = some (.inl (pc', L', st', h'))) (hk : WS p l e R s m args below meth c Q D T3 SX A H0 z0 y pc' L' st' h') : WS p l e R s m args below meth c Q D T3 SX A H0 z0 y pc L st h := by
  unfold xSi at hs
  split at hs
  next x t =>
    split at hs
    next hlt =>
      cases hs
      intro ls H locs cells slots hst
      exact lv_istore_n hC.1 hC.2.1 hd rfl (hst.2.1.has hst.1) (hst.1 ▸ hst.2.1.same hlt) rfl (fun ls' h' => hk _ _ _ _ _ (hst.sto h'))
    next => cases hs
  next => cases hs
theorem s_istore {p : Program} {l : Launch} {e : Env} {R : Room} {s : State} {m : MethodId} {args : Array Value} {below : List Frame} {meth : Method} {c : Code} {Q : State → Prop} {D : va_G} {T3 : Nat → ClassId} {A : Nat → Prop} {H0 : Heap} {z0 : Nat × Nat} {y : Nat} {SX : Nat → Nat → (Nat → Int32) → Prop} {pc pc' : Nat} {L st L' st' : List Value} {h h' : xH} (hC : CX SX A H0 D T3 p R s m args meth c y) {k : Nat} (hd : decode (x_cd y) pc = .ok (.istore k, 2)) (hs : xSi (pc + 2) L k st h = some (.inl (pc', L', st', h'))) (hk : WS p l e R s m args below meth c Q D T3 SX A H0 z0 y pc' L' st' h') : WS p l e R s m args below meth c Q D T3 SX A H0 z0 y pc L st h := by
  unfold xSi at hs
  split at hs
  next x t =>
    split at hs
    next hlt =>
      cases hs
      intro ls H locs cells slots hst
      exact lv_istore hC.1 hC.2.1 hd (hst.2.1.has hst.1) (hst.1 ▸ hst.2.1.same hlt) rfl (fun ls' h' => hk _ _ _ _ _ (hst.sto h'))
    next => cases hs
  next => cases hs
theorem s_astore_n {p : Program} {l : Launch} {e : Env} {R : Room} {s : State} {m : MethodId} {args : Array Value} {below : List Frame} {meth : Method} {c : Code} {Q : State → Prop} {D : va_G} {T3 : Nat → ClassId} {A : Nat → Prop} {H0 : Heap} {z0 : Nat × Nat} {y : Nat} {SX : Nat → Nat → (Nat → Int32) → Prop} {pc pc' : Nat} {L st L' st' : List Value} {h h' : xH} (hC : CX SX A H0 D T3 p R s m args meth c y) {k : Fin 4} (hd : decode (x_cd y) pc = .ok (.astore_n k, 1)) (hs : xSa (pc + 1) L k st h = some (.inl (pc', L', st', h'))) (hk : WS p l e R s m args below meth c Q D T3 SX A H0 z0 y pc' L' st' h') : WS p l e R s m args below meth c Q D T3 SX A H0 z0 y pc L st h := by
  unfold xSa at hs
  split at hs
  next x t =>
    split at hs
    next hlt =>
      cases hs
      intro ls H locs cells slots hst
      exact lv_astore_n hC.1 hC.2.1 hd rfl (hst.2.1.has hst.1) (hst.1 ▸ hst.2.1.same hlt) rfl (fun ls' h' => hk _ _ _ _ _ (hst.sto h'))
    next => cases hs
  next t =>
    split at hs
    next hlt =>
      cases hs
      intro ls H locs cells slots hst
      exact lv_astore_nN hC.1 hC.2.1 hd rfl (hst.2.1.has hst.1) (hst.1 ▸ hst.2.1.same hlt) rfl (fun ls' h' => hk _ _ _ _ _ (hst.sto h'))
    next => cases hs
  next => cases hs
theorem s_astore {p : Program} {l : Launch} {e : Env} {R : Room} {s : State} {m : MethodId} {args : Array Value} {below : List Frame} {meth : Method} {c : Code} {Q : State → Prop} {D : va_G} {T3 : Nat → ClassId} {A : Nat → Prop} {H0 : Heap} {z0 : Nat × Nat} {y : Nat} {SX : Nat → Nat → (Nat → Int32) → Prop} {pc pc' : Nat} {L st L' st' : List Value} {h h' : xH} (hC : CX SX A H0 D T3 p R s m args meth c y) {k : Nat} (hd : decode (x_cd y) pc = .ok (.astore k, 2)) (hs : xSa (pc + 2) L k st h = some (.inl (pc', L', st', h'))) (hk : WS p l e R s m args below meth c Q D T3 SX A H0 z0 y pc' L' st' h') : WS p l e R s m args below meth c Q D T3 SX A H0 z0 y pc L st h := by
  unfold xSa at hs
  split at hs
  next x t =>
    split at hs
    next hlt =>
      cases hs
      intro ls H locs cells slots hst
      exact lv_astore hC.1 hC.2.1 hd (hst.2.1.has hst.1) (hst.1 ▸ hst.2.1.same hlt) rfl (fun ls' h' => hk _ _ _ _ _ (hst.sto h'))
    next => cases hs
  next t =>
    split at hs
    next hlt =>
      cases hs
      intro ls H locs cells slots hst
      exact lv_astoreN hC.1 hC.2.1 hd (hst.2.1.has hst.1) (hst.1 ▸ hst.2.1.same hlt) rfl (fun ls' h' => hk _ _ _ _ _ (hst.sto h'))
    next => cases hs
  next => cases hs
theorem s_iinc {p : Program} {l : Launch} {e : Env} {R : Room} {s : State} {m : MethodId} {args : Array Value} {below : List Frame} {meth : Method} {c : Code} {Q : State → Prop} {D : va_G} {T3 : Nat → ClassId} {A : Nat → Prop} {H0 : Heap} {z0 : Nat × Nat} {y : Nat} {SX : Nat → Nat → (Nat → Int32) → Prop} {pc pc' : Nat} {L st L' st' : List Value} {h h' : xH} (hC : CX SX A H0 D T3 p R s m args meth c y) {k : Nat} {n : Int} (hd : decode (x_cd y) pc = .ok (.iinc k n, 3)) (hs : xInc (pc + 3) L k n st h = some (.inl (pc', L', st', h'))) (hk : WS p l e R s m args below meth c Q D T3 SX A H0 z0 y pc' L' st' h') : WS p l e R s m args below meth c Q D T3 SX A H0 z0 y pc L st h := by
  unfold xInc at hs
  split at hs
  next x hx =>
    split at hs
    next hlt =>
      cases hs
      intro ls H locs cells slots hst
      have hm : (k, Value.int x) ∈ lvl L := by
        refine lvl_mem.mpr ⟨?_, by simp [unk]⟩
        unfold lg at hx
        rw [List.getD_eq_getElem?_getD] at hx
        rw [List.getElem?_eq_getElem hlt] at hx ⊢
        exact congrArg some hx
      obtain ⟨j, hj⟩ := List.getElem?_of_mem hm
      exact lv_iinc (k := j) hC.1 hC.2.1 hd (hst.2.1.has hst.1) hj rfl (hst.1 ▸ hst.2.1.same hlt) rfl (fun ls' h' => hk _ _ _ _ _ (hst.sto h'))
    next => cases hs
  next => cases hs
theorem x2i_of {st : List Value} {f : Int32 → Int32 → List Value → xO} {o : Nat × List Value × List Value × xH} (hs : x2i st f = some (.inl o)) : ∃ a b t, st = .int b :: .int a :: t ∧ f a b t = some (.inl o) := by
  unfold x2i at hs
  split at hs
  next b a t => exact ⟨a, b, t, rfl, hs⟩
  next => cases hs
theorem x2l_of {st : List Value} {f : Int64 → Int64 → List Value → xO} {o : Nat × List Value × List Value × xH} (hs : x2l st f = some (.inl o)) : ∃ a b t, st = .long b :: .long a :: t ∧ f a b t = some (.inl o) := by
  unfold x2l at hs
  split at hs
  next b a t => exact ⟨a, b, t, rfl, hs⟩
  next => cases hs
theorem xli_of {st : List Value} {f : Int64 → Int32 → List Value → xO} {o : Nat × List Value × List Value × xH} (hs : xli st f = some (.inl o)) : ∃ a b t, st = .int b :: .long a :: t ∧ f a b t = some (.inl o) := by
  unfold xli at hs
  split at hs
  next b a t => exact ⟨a, b, t, rfl, hs⟩
  next => cases hs
theorem s_iadd {p : Program} {l : Launch} {e : Env} {R : Room} {s : State} {m : MethodId} {args : Array Value} {below : List Frame} {meth : Method} {c : Code} {Q : State → Prop} {D : va_G} {T3 : Nat → ClassId} {A : Nat → Prop} {H0 : Heap} {z0 : Nat × Nat} {y : Nat} {SX : Nat → Nat → (Nat → Int32) → Prop} {pc pc' : Nat} {L st L' st' : List Value} {h h' : xH} (hC : CX SX A H0 D T3 p R s m args meth c y) (hd : decode (x_cd y) pc = .ok (.iadd, 1)) (hs : (x2i st fun a b t => nx (pc + 1) L (.int (a + b) :: t) h) = some (.inl (pc', L', st', h'))) (hk : WS p l e R s m args below meth c Q D T3 SX A H0 z0 y pc' L' st' h') : WS p l e R s m args below meth c Q D T3 SX A H0 z0 y pc L st h := by
  obtain ⟨a, b, t, rfl, hs2⟩ := x2i_of hs
  clear hs
  have hs := hs2
  cases hs
  exact fun ls H locs cells slots hst => lv_iadd hC.1 hC.2.1 hd (hk _ _ _ _ _ hst)
theorem s_isub {p : Program} {l : Launch} {e : Env} {R : Room} {s : State} {m : MethodId} {args : Array Value} {below : List Frame} {meth : Method} {c : Code} {Q : State → Prop} {D : va_G} {T3 : Nat → ClassId} {A : Nat → Prop} {H0 : Heap} {z0 : Nat × Nat} {y : Nat} {SX : Nat → Nat → (Nat → Int32) → Prop} {pc pc' : Nat} {L st L' st' : List Value} {h h' : xH} (hC : CX SX A H0 D T3 p R s m args meth c y) (hd : decode (x_cd y) pc = .ok (.isub, 1)) (hs : (x2i st fun a b t => nx (pc + 1) L (.int (a - b) :: t) h) = some (.inl (pc', L', st', h'))) (hk : WS p l e R s m args below meth c Q D T3 SX A H0 z0 y pc' L' st' h') : WS p l e R s m args below meth c Q D T3 SX A H0 z0 y pc L st h := by
  obtain ⟨a, b, t, rfl, hs2⟩ := x2i_of hs
  clear hs
  have hs := hs2
  cases hs
  exact fun ls H locs cells slots hst => lv_isub hC.1 hC.2.1 hd (hk _ _ _ _ _ hst)
theorem s_imul {p : Program} {l : Launch} {e : Env} {R : Room} {s : State} {m : MethodId} {args : Array Value} {below : List Frame} {meth : Method} {c : Code} {Q : State → Prop} {D : va_G} {T3 : Nat → ClassId} {A : Nat → Prop} {H0 : Heap} {z0 : Nat × Nat} {y : Nat} {SX : Nat → Nat → (Nat → Int32) → Prop} {pc pc' : Nat} {L st L' st' : List Value} {h h' : xH} (hC : CX SX A H0 D T3 p R s m args meth c y) (hd : decode (x_cd y) pc = .ok (.imul, 1)) (hs : (x2i st fun a b t => nx (pc + 1) L (.int (a * b) :: t) h) = some (.inl (pc', L', st', h'))) (hk : WS p l e R s m args below meth c Q D T3 SX A H0 z0 y pc' L' st' h') : WS p l e R s m args below meth c Q D T3 SX A H0 z0 y pc L st h := by
  obtain ⟨a, b, t, rfl, hs2⟩ := x2i_of hs
  clear hs
  have hs := hs2
  cases hs
  exact fun ls H locs cells slots hst => lv_imul hC.1 hC.2.1 hd (hk _ _ _ _ _ hst)
theorem s_iand {p : Program} {l : Launch} {e : Env} {R : Room} {s : State} {m : MethodId} {args : Array Value} {below : List Frame} {meth : Method} {c : Code} {Q : State → Prop} {D : va_G} {T3 : Nat → ClassId} {A : Nat → Prop} {H0 : Heap} {z0 : Nat × Nat} {y : Nat} {SX : Nat → Nat → (Nat → Int32) → Prop} {pc pc' : Nat} {L st L' st' : List Value} {h h' : xH} (hC : CX SX A H0 D T3 p R s m args meth c y) (hd : decode (x_cd y) pc = .ok (.iand, 1)) (hs : (x2i st fun a b t => nx (pc + 1) L (.int (a &&& b) :: t) h) = some (.inl (pc', L', st', h'))) (hk : WS p l e R s m args below meth c Q D T3 SX A H0 z0 y pc' L' st' h') : WS p l e R s m args below meth c Q D T3 SX A H0 z0 y pc L st h := by
  obtain ⟨a, b, t, rfl, hs2⟩ := x2i_of hs
  clear hs
  have hs := hs2
  cases hs
  exact fun ls H locs cells slots hst => lv_iand hC.1 hC.2.1 hd (hk _ _ _ _ _ hst)
theorem s_ishr {p : Program} {l : Launch} {e : Env} {R : Room} {s : State} {m : MethodId} {args : Array Value} {below : List Frame} {meth : Method} {c : Code} {Q : State → Prop} {D : va_G} {T3 : Nat → ClassId} {A : Nat → Prop} {H0 : Heap} {z0 : Nat × Nat} {y : Nat} {SX : Nat → Nat → (Nat → Int32) → Prop} {pc pc' : Nat} {L st L' st' : List Value} {h h' : xH} (hC : CX SX A H0 D T3 p R s m args meth c y) (hd : decode (x_cd y) pc = .ok (.ishr, 1)) (hs : (x2i st fun a b t => nx (pc + 1) L (.int (a >>> (b &&& 31)) :: t) h) = some (.inl (pc', L', st', h'))) (hk : WS p l e R s m args below meth c Q D T3 SX A H0 z0 y pc' L' st' h') : WS p l e R s m args below meth c Q D T3 SX A H0 z0 y pc L st h := by
  obtain ⟨a, b, t, rfl, hs2⟩ := x2i_of hs
  clear hs
  have hs := hs2
  cases hs
  exact fun ls H locs cells slots hst => lv_ishr hC.1 hC.2.1 hd (hk _ _ _ _ _ hst)
theorem s_ldc {p : Program} {l : Launch} {e : Env} {R : Room} {s : State} {m : MethodId} {args : Array Value} {below : List Frame} {meth : Method} {c : Code} {Q : State → Prop} {D : va_G} {T3 : Nat → ClassId} {A : Nat → Prop} {H0 : Heap} {z0 : Nat × Nat} {y : Nat} {SX : Nat → Nat → (Nat → Int32) → Prop} {pc pc' : Nat} {L st L' st' : List Value} {h h' : xH} (hC : CX SX A H0 D T3 p R s m args meth c y) {ix : Nat} (hd : decode (x_cd y) pc = .ok (.ldc ix, 2)) (hs : (match x_ic (x_kl y) ix with | some v => nx (pc + 2) L (.int v :: st) h | none => none) = some (.inl (pc', L', st', h'))) (hk : WS p l e R s m args below meth c Q D T3 SX A H0 z0 y pc' L' st' h') : WS p l e R s m args below meth c Q D T3 SX A H0 z0 y pc L st h := by
  split at hs
  next v hv =>
    cases hs
    intro ls H locs cells slots hst
    have hw : x_icOK ((x_kl y, ix), v) := x_icl _ (x_find_mem _ _ _ _ hv)
    exact lv_ldc hC.1 hC.2.1 hC.2.2.2.1 (hC.2.2.2.2.1 _ hw) hd (hk _ _ _ _ _ hst)
  next => cases hs
theorem s_idiv {p : Program} {l : Launch} {e : Env} {R : Room} {s : State} {m : MethodId} {args : Array Value} {below : List Frame} {meth : Method} {c : Code} {Q : State → Prop} {D : va_G} {T3 : Nat → ClassId} {A : Nat → Prop} {H0 : Heap} {z0 : Nat × Nat} {y : Nat} {SX : Nat → Nat → (Nat → Int32) → Prop} {pc pc' : Nat} {L st L' st' : List Value} {h h' : xH} (hC : CX SX A H0 D T3 p R s m args meth c y) (hd : decode (x_cd y) pc = .ok (.idiv, 1)) (hs : (x2i st fun a b t => if b = 0 then none else nx (pc + 1) L (.int (a / b) :: t) h) = some (.inl (pc', L', st', h'))) (hk : WS p l e R s m args below meth c Q D T3 SX A H0 z0 y pc' L' st' h') : WS p l e R s m args below meth c Q D T3 SX A H0 z0 y pc L st h := by
  obtain ⟨a, b, t, rfl, hs2⟩ := x2i_of hs
  clear hs
  have hs := hs2
  split at hs
  next => cases hs
  next hb =>
    cases hs
    exact fun ls H locs cells slots hst => lv_idiv hC.1 hC.2.1 hd hb (hk _ _ _ _ _ hst)
theorem s_irem {p : Program} {l : Launch} {e : Env} {R : Room} {s : State} {m : MethodId} {args : Array Value} {below : List Frame} {meth : Method} {c : Code} {Q : State → Prop} {D : va_G} {T3 : Nat → ClassId} {A : Nat → Prop} {H0 : Heap} {z0 : Nat × Nat} {y : Nat} {SX : Nat → Nat → (Nat → Int32) → Prop} {pc pc' : Nat} {L st L' st' : List Value} {h h' : xH} (hC : CX SX A H0 D T3 p R s m args meth c y) (hd : decode (x_cd y) pc = .ok (.irem, 1)) (hs : (x2i st fun a b t => if b = 0 then none else nx (pc + 1) L (.int (a - a / b * b) :: t) h) = some (.inl (pc', L', st', h'))) (hk : WS p l e R s m args below meth c Q D T3 SX A H0 z0 y pc' L' st' h') : WS p l e R s m args below meth c Q D T3 SX A H0 z0 y pc L st h := by
  obtain ⟨a, b, t, rfl, hs2⟩ := x2i_of hs
  clear hs
  have hs := hs2
  split at hs
  next => cases hs
  next hb =>
    cases hs
    exact fun ls H locs cells slots hst => lv_irem hC.1 hC.2.1 hd hb (hk _ _ _ _ _ hst)
theorem s_land {p : Program} {l : Launch} {e : Env} {R : Room} {s : State} {m : MethodId} {args : Array Value} {below : List Frame} {meth : Method} {c : Code} {Q : State → Prop} {D : va_G} {T3 : Nat → ClassId} {A : Nat → Prop} {H0 : Heap} {z0 : Nat × Nat} {y : Nat} {SX : Nat → Nat → (Nat → Int32) → Prop} {pc pc' : Nat} {L st L' st' : List Value} {h h' : xH} (hC : CX SX A H0 D T3 p R s m args meth c y) (hd : decode (x_cd y) pc = .ok (.land, 1)) (hs : (x2l st fun a b t => nx (pc + 1) L (.long (a &&& b) :: t) h) = some (.inl (pc', L', st', h'))) (hk : WS p l e R s m args below meth c Q D T3 SX A H0 z0 y pc' L' st' h') : WS p l e R s m args below meth c Q D T3 SX A H0 z0 y pc L st h := by
  obtain ⟨a, b, t, rfl, hs2⟩ := x2l_of hs
  clear hs
  have hs := hs2
  cases hs
  exact fun ls H locs cells slots hst => lv_land hC.1 hC.2.1 hd (hk _ _ _ _ _ hst)
theorem s_lor {p : Program} {l : Launch} {e : Env} {R : Room} {s : State} {m : MethodId} {args : Array Value} {below : List Frame} {meth : Method} {c : Code} {Q : State → Prop} {D : va_G} {T3 : Nat → ClassId} {A : Nat → Prop} {H0 : Heap} {z0 : Nat × Nat} {y : Nat} {SX : Nat → Nat → (Nat → Int32) → Prop} {pc pc' : Nat} {L st L' st' : List Value} {h h' : xH} (hC : CX SX A H0 D T3 p R s m args meth c y) (hd : decode (x_cd y) pc = .ok (.lor, 1)) (hs : (x2l st fun a b t => nx (pc + 1) L (.long (a ||| b) :: t) h) = some (.inl (pc', L', st', h'))) (hk : WS p l e R s m args below meth c Q D T3 SX A H0 z0 y pc' L' st' h') : WS p l e R s m args below meth c Q D T3 SX A H0 z0 y pc L st h := by
  obtain ⟨a, b, t, rfl, hs2⟩ := x2l_of hs
  clear hs
  have hs := hs2
  cases hs
  exact fun ls H locs cells slots hst => lv_lor hC.1 hC.2.1 hd (hk _ _ _ _ _ hst)
theorem s_lcmp {p : Program} {l : Launch} {e : Env} {R : Room} {s : State} {m : MethodId} {args : Array Value} {below : List Frame} {meth : Method} {c : Code} {Q : State → Prop} {D : va_G} {T3 : Nat → ClassId} {A : Nat → Prop} {H0 : Heap} {z0 : Nat × Nat} {y : Nat} {SX : Nat → Nat → (Nat → Int32) → Prop} {pc pc' : Nat} {L st L' st' : List Value} {h h' : xH} (hC : CX SX A H0 D T3 p R s m args meth c y) (hd : decode (x_cd y) pc = .ok (.lcmp, 1)) (hs : (x2l st fun a b t => nx (pc + 1) L (.int (lg_cmp a b) :: t) h) = some (.inl (pc', L', st', h'))) (hk : WS p l e R s m args below meth c Q D T3 SX A H0 z0 y pc' L' st' h') : WS p l e R s m args below meth c Q D T3 SX A H0 z0 y pc L st h := by
  obtain ⟨a, b, t, rfl, hs2⟩ := x2l_of hs
  clear hs
  have hs := hs2
  cases hs
  exact fun ls H locs cells slots hst => W.lcmp hC.1 hC.2.1 hd (hk _ _ _ _ _ hst)
theorem s_lshl {p : Program} {l : Launch} {e : Env} {R : Room} {s : State} {m : MethodId} {args : Array Value} {below : List Frame} {meth : Method} {c : Code} {Q : State → Prop} {D : va_G} {T3 : Nat → ClassId} {A : Nat → Prop} {H0 : Heap} {z0 : Nat × Nat} {y : Nat} {SX : Nat → Nat → (Nat → Int32) → Prop} {pc pc' : Nat} {L st L' st' : List Value} {h h' : xH} (hC : CX SX A H0 D T3 p R s m args meth c y) (hd : decode (x_cd y) pc = .ok (.lshl, 1)) (hs : (xli st fun a b t => nx (pc + 1) L (.long (a <<< (b.toInt64 &&& 63)) :: t) h) = some (.inl (pc', L', st', h'))) (hk : WS p l e R s m args below meth c Q D T3 SX A H0 z0 y pc' L' st' h') : WS p l e R s m args below meth c Q D T3 SX A H0 z0 y pc L st h := by
  obtain ⟨a, b, t, rfl, hs2⟩ := xli_of hs
  clear hs
  have hs := hs2
  cases hs
  exact fun ls H locs cells slots hst => lv_lshl hC.1 hC.2.1 hd rfl (hk _ _ _ _ _ hst)
theorem s_lushr {p : Program} {l : Launch} {e : Env} {R : Room} {s : State} {m : MethodId} {args : Array Value} {below : List Frame} {meth : Method} {c : Code} {Q : State → Prop} {D : va_G} {T3 : Nat → ClassId} {A : Nat → Prop} {H0 : Heap} {z0 : Nat × Nat} {y : Nat} {SX : Nat → Nat → (Nat → Int32) → Prop} {pc pc' : Nat} {L st L' st' : List Value} {h h' : xH} (hC : CX SX A H0 D T3 p R s m args meth c y) (hd : decode (x_cd y) pc = .ok (.lushr, 1)) (hs : (xli st fun a b t => nx (pc + 1) L (.long (a.toUInt64 >>> (b.toInt64.toUInt64 &&& Int64.toUInt64 63)).toInt64 :: t) h) = some (.inl (pc', L', st', h'))) (hk : WS p l e R s m args below meth c Q D T3 SX A H0 z0 y pc' L' st' h') : WS p l e R s m args below meth c Q D T3 SX A H0 z0 y pc L st h := by
  obtain ⟨a, b, t, rfl, hs2⟩ := xli_of hs
  clear hs
  have hs := hs2
  cases hs
  exact fun ls H locs cells slots hst => lv_lushr hC.1 hC.2.1 hd rfl (hk _ _ _ _ _ hst)
theorem s_i2l {p : Program} {l : Launch} {e : Env} {R : Room} {s : State} {m : MethodId} {args : Array Value} {below : List Frame} {meth : Method} {c : Code} {Q : State → Prop} {D : va_G} {T3 : Nat → ClassId} {A : Nat → Prop} {H0 : Heap} {z0 : Nat × Nat} {y : Nat} {SX : Nat → Nat → (Nat → Int32) → Prop} {pc pc' : Nat} {L st L' st' : List Value} {h h' : xH} (hC : CX SX A H0 D T3 p R s m args meth c y) (hd : decode (x_cd y) pc = .ok (.i2l, 1)) (hs : (match st with | .int a :: t => nx (pc + 1) L (.long a.toInt64 :: t) h | _ => none) = some (.inl (pc', L', st', h'))) (hk : WS p l e R s m args below meth c Q D T3 SX A H0 z0 y pc' L' st' h') : WS p l e R s m args below meth c Q D T3 SX A H0 z0 y pc L st h := by
  split at hs
  next a t =>
    cases hs
    exact fun ls H locs cells slots hst => lv_i2l hC.1 hC.2.1 hd rfl (hk _ _ _ _ _ hst)
  next => cases hs
theorem s_l2i {p : Program} {l : Launch} {e : Env} {R : Room} {s : State} {m : MethodId} {args : Array Value} {below : List Frame} {meth : Method} {c : Code} {Q : State → Prop} {D : va_G} {T3 : Nat → ClassId} {A : Nat → Prop} {H0 : Heap} {z0 : Nat × Nat} {y : Nat} {SX : Nat → Nat → (Nat → Int32) → Prop} {pc pc' : Nat} {L st L' st' : List Value} {h h' : xH} (hC : CX SX A H0 D T3 p R s m args meth c y) (hd : decode (x_cd y) pc = .ok (.l2i, 1)) (hs : (match st with | .long a :: t => nx (pc + 1) L (.int a.toInt32 :: t) h | _ => none) = some (.inl (pc', L', st', h'))) (hk : WS p l e R s m args below meth c Q D T3 SX A H0 z0 y pc' L' st' h') : WS p l e R s m args below meth c Q D T3 SX A H0 z0 y pc L st h := by
  split at hs
  next a t =>
    cases hs
    exact fun ls H locs cells slots hst => lv_l2i hC.1 hC.2.1 hd rfl (hk _ _ _ _ _ hst)
  next => cases hs
theorem s_dup {p : Program} {l : Launch} {e : Env} {R : Room} {s : State} {m : MethodId} {args : Array Value} {below : List Frame} {meth : Method} {c : Code} {Q : State → Prop} {D : va_G} {T3 : Nat → ClassId} {A : Nat → Prop} {H0 : Heap} {z0 : Nat × Nat} {y : Nat} {SX : Nat → Nat → (Nat → Int32) → Prop} {pc pc' : Nat} {L st L' st' : List Value} {h h' : xH} (hC : CX SX A H0 D T3 p R s m args meth c y) (hd : decode (x_cd y) pc = .ok (.dup, 1)) (hs : (match st with | v :: t => (if v.category = 1 then nx (pc + 1) L (v :: v :: t) h else none) | _ => none) = some (.inl (pc', L', st', h'))) (hk : WS p l e R s m args below meth c Q D T3 SX A H0 z0 y pc' L' st' h') : WS p l e R s m args below meth c Q D T3 SX A H0 z0 y pc L st h := by
  split at hs
  next v t =>
    split at hs
    next hv =>
      cases hs
      exact fun ls H locs cells slots hst => lv_dup hC.1 hC.2.1 hd hv (hk _ _ _ _ _ hst)
    next => cases hs
  next => cases hs
theorem s_dup2 {p : Program} {l : Launch} {e : Env} {R : Room} {s : State} {m : MethodId} {args : Array Value} {below : List Frame} {meth : Method} {c : Code} {Q : State → Prop} {D : va_G} {T3 : Nat → ClassId} {A : Nat → Prop} {H0 : Heap} {z0 : Nat × Nat} {y : Nat} {SX : Nat → Nat → (Nat → Int32) → Prop} {pc pc' : Nat} {L st L' st' : List Value} {h h' : xH} (hC : CX SX A H0 D T3 p R s m args meth c y) (hd : decode (x_cd y) pc = .ok (.dup2, 1)) (hs : (match st with | v :: w :: t => (if v.category = 1 ∧ w.category = 1 then nx (pc + 1) L (v :: w :: v :: w :: t) h else none) | _ => none) = some (.inl (pc', L', st', h'))) (hk : WS p l e R s m args below meth c Q D T3 SX A H0 z0 y pc' L' st' h') : WS p l e R s m args below meth c Q D T3 SX A H0 z0 y pc L st h := by
  split at hs
  next v w t =>
    split at hs
    next hv =>
      cases hs
      exact fun ls H locs cells slots hst => lv_dup2_11 hC.1 hC.2.1 hd hv.1 hv.2 (hk _ _ _ _ _ hst)
    next => cases hs
  next => cases hs
theorem ws_if {pc pc' : Nat} {L st L' st' : List Value} {h h' : xH} {b : Bool} {off : Int} (hs : xIf pc b off L st h = some (.inl (pc', L', st', h'))) : L' = L ∧ st' = st ∧ h' = h ∧ (pc : Int) + off = ((((pc : Int) + off).toNat : Nat) : Int) ∧ ((b = true ∧ pc' = ((pc : Int) + off).toNat) ∨ (b = false ∧ pc' = pc + 3)) := by
  unfold xIf at hs
  split at hs
  next h0 =>
    cases hs
    refine ⟨rfl, rfl, rfl, (Int.toNat_of_nonneg h0).symm, ?_⟩
    cases b
    · exact Or.inr ⟨rfl, rfl⟩
    · exact Or.inl ⟨rfl, rfl⟩
  next => cases hs
theorem ws_goto {pc pc' : Nat} {L st L' st' : List Value} {h h' : xH} {off : Int} (hs : jp pc off L st h = some (.inl (pc', L', st', h'))) : L' = L ∧ st' = st ∧ h' = h ∧ (pc : Int) + off = (pc' : Int) := by
  unfold jp at hs
  split at hs
  next h0 => cases hs; exact ⟨rfl, rfl, rfl, (Int.toNat_of_nonneg h0).symm⟩
  next => cases hs
theorem s_if_eq {p : Program} {l : Launch} {e : Env} {R : Room} {s : State} {m : MethodId} {args : Array Value} {below : List Frame} {meth : Method} {c : Code} {Q : State → Prop} {D : va_G} {T3 : Nat → ClassId} {A : Nat → Prop} {H0 : Heap} {z0 : Nat × Nat} {y : Nat} {SX : Nat → Nat → (Nat → Int32) → Prop} {pc pc' : Nat} {L t L' st' : List Value} {h h' : xH} (hC : CX SX A H0 D T3 p R s m args meth c y) {x : Int32} {off : Int} (hd : decode (x_cd y) pc = .ok (.ifCond .eq off, 3)) (hs : xIf pc (xc .eq x 0) off L t h = some (.inl (pc', L', st', h'))) (hk : WS p l e R s m args below meth c Q D T3 SX A H0 z0 y pc' L' st' h') : WS p l e R s m args below meth c Q D T3 SX A H0 z0 y pc L (.int x :: t) h := by
  obtain ⟨rfl, rfl, rfl, ht, ⟨hb, rfl⟩ | ⟨hb, rfl⟩⟩ := ws_if hs
  · intro ls H locs cells slots hst
    have hb : decide (x = 0) = true := hb
    exact lv_if_eq hC.1 hC.2.1 hd ht (fun q => hk _ _ _ _ _ hst) (fun q => absurd (of_decide_eq_true hb) q)
  · intro ls H locs cells slots hst
    have hb : decide (x = 0) = false := hb
    exact lv_if_eq hC.1 hC.2.1 hd ht (fun q => absurd q (of_decide_eq_false hb)) (fun q => hk _ _ _ _ _ hst)
theorem s_if_ne {p : Program} {l : Launch} {e : Env} {R : Room} {s : State} {m : MethodId} {args : Array Value} {below : List Frame} {meth : Method} {c : Code} {Q : State → Prop} {D : va_G} {T3 : Nat → ClassId} {A : Nat → Prop} {H0 : Heap} {z0 : Nat × Nat} {y : Nat} {SX : Nat → Nat → (Nat → Int32) → Prop} {pc pc' : Nat} {L t L' st' : List Value} {h h' : xH} (hC : CX SX A H0 D T3 p R s m args meth c y) {x : Int32} {off : Int} (hd : decode (x_cd y) pc = .ok (.ifCond .ne off, 3)) (hs : xIf pc (xc .ne x 0) off L t h = some (.inl (pc', L', st', h'))) (hk : WS p l e R s m args below meth c Q D T3 SX A H0 z0 y pc' L' st' h') : WS p l e R s m args below meth c Q D T3 SX A H0 z0 y pc L (.int x :: t) h := by
  obtain ⟨rfl, rfl, rfl, ht, ⟨hb, rfl⟩ | ⟨hb, rfl⟩⟩ := ws_if hs
  · intro ls H locs cells slots hst
    have hb : decide (¬ x = 0) = true := hb
    exact lv_if_ne hC.1 hC.2.1 hd ht (fun q => hk _ _ _ _ _ hst) (fun q => absurd q (of_decide_eq_true hb))
  · intro ls H locs cells slots hst
    have hb : decide (¬ x = 0) = false := hb
    exact lv_if_ne hC.1 hC.2.1 hd ht (fun q => absurd q (of_decide_eq_false hb)) (fun q => hk _ _ _ _ _ hst)
theorem s_if_lt {p : Program} {l : Launch} {e : Env} {R : Room} {s : State} {m : MethodId} {args : Array Value} {below : List Frame} {meth : Method} {c : Code} {Q : State → Prop} {D : va_G} {T3 : Nat → ClassId} {A : Nat → Prop} {H0 : Heap} {z0 : Nat × Nat} {y : Nat} {SX : Nat → Nat → (Nat → Int32) → Prop} {pc pc' : Nat} {L t L' st' : List Value} {h h' : xH} (hC : CX SX A H0 D T3 p R s m args meth c y) {x : Int32} {off : Int} (hd : decode (x_cd y) pc = .ok (.ifCond .lt off, 3)) (hs : xIf pc (xc .lt x 0) off L t h = some (.inl (pc', L', st', h'))) (hk : WS p l e R s m args below meth c Q D T3 SX A H0 z0 y pc' L' st' h') : WS p l e R s m args below meth c Q D T3 SX A H0 z0 y pc L (.int x :: t) h := by
  obtain ⟨rfl, rfl, rfl, ht, ⟨hb, rfl⟩ | ⟨hb, rfl⟩⟩ := ws_if hs
  · intro ls H locs cells slots hst
    have hb : decide (x < 0) = true := hb
    exact lv_if_lt hC.1 hC.2.1 hd ht (fun q => hk _ _ _ _ _ hst) (fun q => absurd (of_decide_eq_true hb) q)
  · intro ls H locs cells slots hst
    have hb : decide (x < 0) = false := hb
    exact lv_if_lt hC.1 hC.2.1 hd ht (fun q => absurd q (of_decide_eq_false hb)) (fun q => hk _ _ _ _ _ hst)
theorem s_if_ge {p : Program} {l : Launch} {e : Env} {R : Room} {s : State} {m : MethodId} {args : Array Value} {below : List Frame} {meth : Method} {c : Code} {Q : State → Prop} {D : va_G} {T3 : Nat → ClassId} {A : Nat → Prop} {H0 : Heap} {z0 : Nat × Nat} {y : Nat} {SX : Nat → Nat → (Nat → Int32) → Prop} {pc pc' : Nat} {L t L' st' : List Value} {h h' : xH} (hC : CX SX A H0 D T3 p R s m args meth c y) {x : Int32} {off : Int} (hd : decode (x_cd y) pc = .ok (.ifCond .ge off, 3)) (hs : xIf pc (xc .ge x 0) off L t h = some (.inl (pc', L', st', h'))) (hk : WS p l e R s m args below meth c Q D T3 SX A H0 z0 y pc' L' st' h') : WS p l e R s m args below meth c Q D T3 SX A H0 z0 y pc L (.int x :: t) h := by
  obtain ⟨rfl, rfl, rfl, ht, ⟨hb, rfl⟩ | ⟨hb, rfl⟩⟩ := ws_if hs
  · intro ls H locs cells slots hst
    have hb : decide (0 ≤ x) = true := hb
    exact lv_if_ge hC.1 hC.2.1 hd ht (fun q => hk _ _ _ _ _ hst) (fun q => absurd (of_decide_eq_true hb) q)
  · intro ls H locs cells slots hst
    have hb : decide (0 ≤ x) = false := hb
    exact lv_if_ge hC.1 hC.2.1 hd ht (fun q => absurd q (of_decide_eq_false hb)) (fun q => hk _ _ _ _ _ hst)
theorem s_if_gt {p : Program} {l : Launch} {e : Env} {R : Room} {s : State} {m : MethodId} {args : Array Value} {below : List Frame} {meth : Method} {c : Code} {Q : State → Prop} {D : va_G} {T3 : Nat → ClassId} {A : Nat → Prop} {H0 : Heap} {z0 : Nat × Nat} {y : Nat} {SX : Nat → Nat → (Nat → Int32) → Prop} {pc pc' : Nat} {L t L' st' : List Value} {h h' : xH} (hC : CX SX A H0 D T3 p R s m args meth c y) {x : Int32} {off : Int} (hd : decode (x_cd y) pc = .ok (.ifCond .gt off, 3)) (hs : xIf pc (xc .gt x 0) off L t h = some (.inl (pc', L', st', h'))) (hk : WS p l e R s m args below meth c Q D T3 SX A H0 z0 y pc' L' st' h') : WS p l e R s m args below meth c Q D T3 SX A H0 z0 y pc L (.int x :: t) h := by
  obtain ⟨rfl, rfl, rfl, ht, ⟨hb, rfl⟩ | ⟨hb, rfl⟩⟩ := ws_if hs
  · intro ls H locs cells slots hst
    have hb : decide (0 < x) = true := hb
    exact lv_if_gt hC.1 hC.2.1 hd ht (fun q => hk _ _ _ _ _ hst) (fun q => absurd (of_decide_eq_true hb) q)
  · intro ls H locs cells slots hst
    have hb : decide (0 < x) = false := hb
    exact lv_if_gt hC.1 hC.2.1 hd ht (fun q => absurd q (of_decide_eq_false hb)) (fun q => hk _ _ _ _ _ hst)
theorem s_if_le {p : Program} {l : Launch} {e : Env} {R : Room} {s : State} {m : MethodId} {args : Array Value} {below : List Frame} {meth : Method} {c : Code} {Q : State → Prop} {D : va_G} {T3 : Nat → ClassId} {A : Nat → Prop} {H0 : Heap} {z0 : Nat × Nat} {y : Nat} {SX : Nat → Nat → (Nat → Int32) → Prop} {pc pc' : Nat} {L t L' st' : List Value} {h h' : xH} (hC : CX SX A H0 D T3 p R s m args meth c y) {x : Int32} {off : Int} (hd : decode (x_cd y) pc = .ok (.ifCond .le off, 3)) (hs : xIf pc (xc .le x 0) off L t h = some (.inl (pc', L', st', h'))) (hk : WS p l e R s m args below meth c Q D T3 SX A H0 z0 y pc' L' st' h') : WS p l e R s m args below meth c Q D T3 SX A H0 z0 y pc L (.int x :: t) h := by
  obtain ⟨rfl, rfl, rfl, ht, ⟨hb, rfl⟩ | ⟨hb, rfl⟩⟩ := ws_if hs
  · intro ls H locs cells slots hst
    have hb : decide (x ≤ 0) = true := hb
    exact lv_if_le hC.1 hC.2.1 hd ht (fun q => hk _ _ _ _ _ hst) (fun q => absurd (of_decide_eq_true hb) q)
  · intro ls H locs cells slots hst
    have hb : decide (x ≤ 0) = false := hb
    exact lv_if_le hC.1 hC.2.1 hd ht (fun q => absurd q (of_decide_eq_false hb)) (fun q => hk _ _ _ _ _ hst)
theorem s_icmp_eq {p : Program} {l : Launch} {e : Env} {R : Room} {s : State} {m : MethodId} {args : Array Value} {below : List Frame} {meth : Method} {c : Code} {Q : State → Prop} {D : va_G} {T3 : Nat → ClassId} {A : Nat → Prop} {H0 : Heap} {z0 : Nat × Nat} {y : Nat} {SX : Nat → Nat → (Nat → Int32) → Prop} {pc pc' : Nat} {L t L' st' : List Value} {h h' : xH} (hC : CX SX A H0 D T3 p R s m args meth c y) {x yy : Int32} {off : Int} (hd : decode (x_cd y) pc = .ok (.if_icmp .eq off, 3)) (hs : xIf pc (xc .eq x yy) off L t h = some (.inl (pc', L', st', h'))) (hk : WS p l e R s m args below meth c Q D T3 SX A H0 z0 y pc' L' st' h') : WS p l e R s m args below meth c Q D T3 SX A H0 z0 y pc L (.int yy :: .int x :: t) h := by
  obtain ⟨rfl, rfl, rfl, ht, ⟨hb, rfl⟩ | ⟨hb, rfl⟩⟩ := ws_if hs
  · intro ls H locs cells slots hst
    have hb : decide (x = yy) = true := hb
    exact lv_icmp_eq hC.1 hC.2.1 hd ht (fun q => hk _ _ _ _ _ hst) (fun q => absurd (of_decide_eq_true hb) q)
  · intro ls H locs cells slots hst
    have hb : decide (x = yy) = false := hb
    exact lv_icmp_eq hC.1 hC.2.1 hd ht (fun q => absurd q (of_decide_eq_false hb)) (fun q => hk _ _ _ _ _ hst)
theorem s_icmp_ne {p : Program} {l : Launch} {e : Env} {R : Room} {s : State} {m : MethodId} {args : Array Value} {below : List Frame} {meth : Method} {c : Code} {Q : State → Prop} {D : va_G} {T3 : Nat → ClassId} {A : Nat → Prop} {H0 : Heap} {z0 : Nat × Nat} {y : Nat} {SX : Nat → Nat → (Nat → Int32) → Prop} {pc pc' : Nat} {L t L' st' : List Value} {h h' : xH} (hC : CX SX A H0 D T3 p R s m args meth c y) {x yy : Int32} {off : Int} (hd : decode (x_cd y) pc = .ok (.if_icmp .ne off, 3)) (hs : xIf pc (xc .ne x yy) off L t h = some (.inl (pc', L', st', h'))) (hk : WS p l e R s m args below meth c Q D T3 SX A H0 z0 y pc' L' st' h') : WS p l e R s m args below meth c Q D T3 SX A H0 z0 y pc L (.int yy :: .int x :: t) h := by
  obtain ⟨rfl, rfl, rfl, ht, ⟨hb, rfl⟩ | ⟨hb, rfl⟩⟩ := ws_if hs
  · intro ls H locs cells slots hst
    have hb : decide (¬ x = yy) = true := hb
    exact lv_icmp_ne hC.1 hC.2.1 hd ht (fun q => hk _ _ _ _ _ hst) (fun q => absurd q (of_decide_eq_true hb))
  · intro ls H locs cells slots hst
    have hb : decide (¬ x = yy) = false := hb
    exact lv_icmp_ne hC.1 hC.2.1 hd ht (fun q => absurd q (of_decide_eq_false hb)) (fun q => hk _ _ _ _ _ hst)
theorem s_icmp_lt {p : Program} {l : Launch} {e : Env} {R : Room} {s : State} {m : MethodId} {args : Array Value} {below : List Frame} {meth : Method} {c : Code} {Q : State → Prop} {D : va_G} {T3 : Nat → ClassId} {A : Nat → Prop} {H0 : Heap} {z0 : Nat × Nat} {y : Nat} {SX : Nat → Nat → (Nat → Int32) → Prop} {pc pc' : Nat} {L t L' st' : List Value} {h h' : xH} (hC : CX SX A H0 D T3 p R s m args meth c y) {x yy : Int32} {off : Int} (hd : decode (x_cd y) pc = .ok (.if_icmp .lt off, 3)) (hs : xIf pc (xc .lt x yy) off L t h = some (.inl (pc', L', st', h'))) (hk : WS p l e R s m args below meth c Q D T3 SX A H0 z0 y pc' L' st' h') : WS p l e R s m args below meth c Q D T3 SX A H0 z0 y pc L (.int yy :: .int x :: t) h := by
  obtain ⟨rfl, rfl, rfl, ht, ⟨hb, rfl⟩ | ⟨hb, rfl⟩⟩ := ws_if hs
  · intro ls H locs cells slots hst
    have hb : decide (x < yy) = true := hb
    exact lv_icmp_lt hC.1 hC.2.1 hd ht (fun q => hk _ _ _ _ _ hst) (fun q => absurd (of_decide_eq_true hb) q)
  · intro ls H locs cells slots hst
    have hb : decide (x < yy) = false := hb
    exact lv_icmp_lt hC.1 hC.2.1 hd ht (fun q => absurd q (of_decide_eq_false hb)) (fun q => hk _ _ _ _ _ hst)
theorem s_icmp_ge {p : Program} {l : Launch} {e : Env} {R : Room} {s : State} {m : MethodId} {args : Array Value} {below : List Frame} {meth : Method} {c : Code} {Q : State → Prop} {D : va_G} {T3 : Nat → ClassId} {A : Nat → Prop} {H0 : Heap} {z0 : Nat × Nat} {y : Nat} {SX : Nat → Nat → (Nat → Int32) → Prop} {pc pc' : Nat} {L t L' st' : List Value} {h h' : xH} (hC : CX SX A H0 D T3 p R s m args meth c y) {x yy : Int32} {off : Int} (hd : decode (x_cd y) pc = .ok (.if_icmp .ge off, 3)) (hs : xIf pc (xc .ge x yy) off L t h = some (.inl (pc', L', st', h'))) (hk : WS p l e R s m args below meth c Q D T3 SX A H0 z0 y pc' L' st' h') : WS p l e R s m args below meth c Q D T3 SX A H0 z0 y pc L (.int yy :: .int x :: t) h := by
  obtain ⟨rfl, rfl, rfl, ht, ⟨hb, rfl⟩ | ⟨hb, rfl⟩⟩ := ws_if hs
  · intro ls H locs cells slots hst
    have hb : decide (yy ≤ x) = true := hb
    exact lv_icmp_ge hC.1 hC.2.1 hd ht (fun q => hk _ _ _ _ _ hst) (fun q => absurd (of_decide_eq_true hb) q)
  · intro ls H locs cells slots hst
    have hb : decide (yy ≤ x) = false := hb
    exact lv_icmp_ge hC.1 hC.2.1 hd ht (fun q => absurd q (of_decide_eq_false hb)) (fun q => hk _ _ _ _ _ hst)
theorem s_icmp_gt {p : Program} {l : Launch} {e : Env} {R : Room} {s : State} {m : MethodId} {args : Array Value} {below : List Frame} {meth : Method} {c : Code} {Q : State → Prop} {D : va_G} {T3 : Nat → ClassId} {A : Nat → Prop} {H0 : Heap} {z0 : Nat × Nat} {y : Nat} {SX : Nat → Nat → (Nat → Int32) → Prop} {pc pc' : Nat} {L t L' st' : List Value} {h h' : xH} (hC : CX SX A H0 D T3 p R s m args meth c y) {x yy : Int32} {off : Int} (hd : decode (x_cd y) pc = .ok (.if_icmp .gt off, 3)) (hs : xIf pc (xc .gt x yy) off L t h = some (.inl (pc', L', st', h'))) (hk : WS p l e R s m args below meth c Q D T3 SX A H0 z0 y pc' L' st' h') : WS p l e R s m args below meth c Q D T3 SX A H0 z0 y pc L (.int yy :: .int x :: t) h := by
  obtain ⟨rfl, rfl, rfl, ht, ⟨hb, rfl⟩ | ⟨hb, rfl⟩⟩ := ws_if hs
  · intro ls H locs cells slots hst
    have hb : decide (yy < x) = true := hb
    exact lv_icmp_gt hC.1 hC.2.1 hd ht (fun q => hk _ _ _ _ _ hst) (fun q => absurd (of_decide_eq_true hb) q)
  · intro ls H locs cells slots hst
    have hb : decide (yy < x) = false := hb
    exact lv_icmp_gt hC.1 hC.2.1 hd ht (fun q => absurd q (of_decide_eq_false hb)) (fun q => hk _ _ _ _ _ hst)
theorem s_icmp_le {p : Program} {l : Launch} {e : Env} {R : Room} {s : State} {m : MethodId} {args : Array Value} {below : List Frame} {meth : Method} {c : Code} {Q : State → Prop} {D : va_G} {T3 : Nat → ClassId} {A : Nat → Prop} {H0 : Heap} {z0 : Nat × Nat} {y : Nat} {SX : Nat → Nat → (Nat → Int32) → Prop} {pc pc' : Nat} {L t L' st' : List Value} {h h' : xH} (hC : CX SX A H0 D T3 p R s m args meth c y) {x yy : Int32} {off : Int} (hd : decode (x_cd y) pc = .ok (.if_icmp .le off, 3)) (hs : xIf pc (xc .le x yy) off L t h = some (.inl (pc', L', st', h'))) (hk : WS p l e R s m args below meth c Q D T3 SX A H0 z0 y pc' L' st' h') : WS p l e R s m args below meth c Q D T3 SX A H0 z0 y pc L (.int yy :: .int x :: t) h := by
  obtain ⟨rfl, rfl, rfl, ht, ⟨hb, rfl⟩ | ⟨hb, rfl⟩⟩ := ws_if hs
  · intro ls H locs cells slots hst
    have hb : decide (x ≤ yy) = true := hb
    exact lv_icmp_le hC.1 hC.2.1 hd ht (fun q => hk _ _ _ _ _ hst) (fun q => absurd (of_decide_eq_true hb) q)
  · intro ls H locs cells slots hst
    have hb : decide (x ≤ yy) = false := hb
    exact lv_icmp_le hC.1 hC.2.1 hd ht (fun q => absurd q (of_decide_eq_false hb)) (fun q => hk _ _ _ _ _ hst)
theorem s_if {p : Program} {l : Launch} {e : Env} {R : Room} {s : State} {m : MethodId} {args : Array Value} {below : List Frame} {meth : Method} {c : Code} {Q : State → Prop} {D : va_G} {T3 : Nat → ClassId} {A : Nat → Prop} {H0 : Heap} {z0 : Nat × Nat} {y : Nat} {SX : Nat → Nat → (Nat → Int32) → Prop} {pc pc' : Nat} {L st L' st' : List Value} {h h' : xH} (hC : CX SX A H0 D T3 p R s m args meth c y) {cnd : Jvm.ClassFile.Cond} {off : Int} (hd : decode (x_cd y) pc = .ok (.ifCond cnd off, 3)) (hs : (match st with | .int x :: t => xIf pc (xc cnd x 0) off L t h | _ => none) = some (.inl (pc', L', st', h'))) (hk : WS p l e R s m args below meth c Q D T3 SX A H0 z0 y pc' L' st' h') : WS p l e R s m args below meth c Q D T3 SX A H0 z0 y pc L st h := by
  split at hs
  next x t =>
    cases cnd
    · exact s_if_eq hC hd hs hk
    · exact s_if_ne hC hd hs hk
    · exact s_if_lt hC hd hs hk
    · exact s_if_ge hC hd hs hk
    · exact s_if_gt hC hd hs hk
    · exact s_if_le hC hd hs hk
  next => cases hs
theorem s_icmp {p : Program} {l : Launch} {e : Env} {R : Room} {s : State} {m : MethodId} {args : Array Value} {below : List Frame} {meth : Method} {c : Code} {Q : State → Prop} {D : va_G} {T3 : Nat → ClassId} {A : Nat → Prop} {H0 : Heap} {z0 : Nat × Nat} {y : Nat} {SX : Nat → Nat → (Nat → Int32) → Prop} {pc pc' : Nat} {L st L' st' : List Value} {h h' : xH} (hC : CX SX A H0 D T3 p R s m args meth c y) {cnd : Jvm.ClassFile.Cond} {off : Int} (hd : decode (x_cd y) pc = .ok (.if_icmp cnd off, 3)) (hs : (x2i st fun a b t => xIf pc (xc cnd a b) off L t h) = some (.inl (pc', L', st', h'))) (hk : WS p l e R s m args below meth c Q D T3 SX A H0 z0 y pc' L' st' h') : WS p l e R s m args below meth c Q D T3 SX A H0 z0 y pc L st h := by
  obtain ⟨a, b, t, rfl, hs2⟩ := x2i_of hs
  clear hs
  have hs := hs2
  cases cnd
  · exact s_icmp_eq hC hd hs hk
  · exact s_icmp_ne hC hd hs hk
  · exact s_icmp_lt hC hd hs hk
  · exact s_icmp_ge hC hd hs hk
  · exact s_icmp_gt hC hd hs hk
  · exact s_icmp_le hC hd hs hk
theorem s_goto {p : Program} {l : Launch} {e : Env} {R : Room} {s : State} {m : MethodId} {args : Array Value} {below : List Frame} {meth : Method} {c : Code} {Q : State → Prop} {D : va_G} {T3 : Nat → ClassId} {A : Nat → Prop} {H0 : Heap} {z0 : Nat × Nat} {y : Nat} {SX : Nat → Nat → (Nat → Int32) → Prop} {pc pc' : Nat} {L st L' st' : List Value} {h h' : xH} (hC : CX SX A H0 D T3 p R s m args meth c y) {off : Int} (hd : decode (x_cd y) pc = .ok (.goto off, 3)) (hs : jp pc off L st h = some (.inl (pc', L', st', h'))) (hk : WS p l e R s m args below meth c Q D T3 SX A H0 z0 y pc' L' st' h') : WS p l e R s m args below meth c Q D T3 SX A H0 z0 y pc L st h := by
  obtain ⟨rfl, rfl, rfl, ht⟩ := ws_goto hs
  exact fun ls H locs cells slots hst => lv_goto hC.1 hC.2.1 hd ht (hk _ _ _ _ _ hst)
theorem s_ifnull {p : Program} {l : Launch} {e : Env} {R : Room} {s : State} {m : MethodId} {args : Array Value} {below : List Frame} {meth : Method} {c : Code} {Q : State → Prop} {D : va_G} {T3 : Nat → ClassId} {A : Nat → Prop} {H0 : Heap} {z0 : Nat × Nat} {y : Nat} {SX : Nat → Nat → (Nat → Int32) → Prop} {pc pc' : Nat} {L st L' st' : List Value} {h h' : xH} (hC : CX SX A H0 D T3 p R s m args meth c y) {off : Int} (hd : decode (x_cd y) pc = .ok (.ifnull off, 3)) (hs : (match st with | .ref _ :: t => nx (pc + 3) L t h | .null :: t => jp pc off L t h | _ => none) = some (.inl (pc', L', st', h'))) (hk : WS p l e R s m args below meth c Q D T3 SX A H0 z0 y pc' L' st' h') : WS p l e R s m args below meth c Q D T3 SX A H0 z0 y pc L st h := by
  split at hs
  next x t =>
    cases hs
    exact fun ls H locs cells slots hst => lv_ifnull hC.1 hC.2.1 hd (hk _ _ _ _ _ hst)
  next t =>
    obtain ⟨rfl, rfl, rfl, ht⟩ := ws_goto hs
    exact fun ls H locs cells slots hst => lv_ifnullN hC.1 hC.2.1 hd ht (hk _ _ _ _ _ hst)
  next => cases hs
theorem s_ifnonnull {p : Program} {l : Launch} {e : Env} {R : Room} {s : State} {m : MethodId} {args : Array Value} {below : List Frame} {meth : Method} {c : Code} {Q : State → Prop} {D : va_G} {T3 : Nat → ClassId} {A : Nat → Prop} {H0 : Heap} {z0 : Nat × Nat} {y : Nat} {SX : Nat → Nat → (Nat → Int32) → Prop} {pc pc' : Nat} {L st L' st' : List Value} {h h' : xH} (hC : CX SX A H0 D T3 p R s m args meth c y) {off : Int} (hd : decode (x_cd y) pc = .ok (.ifnonnull off, 3)) (hs : (match st with | .ref _ :: t => jp pc off L t h | .null :: t => nx (pc + 3) L t h | _ => none) = some (.inl (pc', L', st', h'))) (hk : WS p l e R s m args below meth c Q D T3 SX A H0 z0 y pc' L' st' h') : WS p l e R s m args below meth c Q D T3 SX A H0 z0 y pc L st h := by
  split at hs
  next x t =>
    obtain ⟨rfl, rfl, rfl, ht⟩ := ws_goto hs
    exact fun ls H locs cells slots hst => lv_ifnonnull hC.1 hC.2.1 hd ht (hk _ _ _ _ _ hst)
  next t =>
    cases hs
    exact fun ls H locs cells slots hst => lv_ifnonnullN hC.1 hC.2.1 hd (hk _ _ _ _ _ hst)
  next => cases hs
theorem s_table {p : Program} {l : Launch} {e : Env} {R : Room} {s : State} {m : MethodId} {args : Array Value} {below : List Frame} {meth : Method} {c : Code} {Q : State → Prop} {D : va_G} {T3 : Nat → ClassId} {A : Nat → Prop} {H0 : Heap} {z0 : Nat × Nat} {y : Nat} {SX : Nat → Nat → (Nat → Int32) → Prop} {pc pc' : Nat} {L st L' st' : List Value} {h h' : xH} (hC : CX SX A H0 D T3 p R s m args meth c y) {dflt lo hi : Int} {offs : Array Int} {len : Nat} (hd : decode (x_cd y) pc = .ok (.tableswitch dflt lo hi offs, len)) (hs : xTab pc dflt lo hi offs L st h = some (.inl (pc', L', st', h'))) (hk : WS p l e R s m args below meth c Q D T3 SX A H0 z0 y pc' L' st' h') : WS p l e R s m args below meth c Q D T3 SX A H0 z0 y pc L st h := by
  unfold xTab at hs
  split at hs
  next x t =>
    split at hs
    next hx =>
      obtain ⟨rfl, rfl, rfl, ht⟩ := ws_goto hs
      exact fun ls H locs cells slots hst => lv_tableOut hC.1 hC.2.1 hd hx ht (hk _ _ _ _ _ hst)
    next hx =>
      split at hs
      next off ho =>
        obtain ⟨rfl, rfl, rfl, ht⟩ := ws_goto hs
        exact fun ls H locs cells slots hst => lv_tableIn hC.1 hC.2.1 hd (fun q => hx (Or.inl q)) (fun q => hx (Or.inr q)) ho ht (hk _ _ _ _ _ hst)
      next => cases hs
  next => cases hs
theorem s_look {p : Program} {l : Launch} {e : Env} {R : Room} {s : State} {m : MethodId} {args : Array Value} {below : List Frame} {meth : Method} {c : Code} {Q : State → Prop} {D : va_G} {T3 : Nat → ClassId} {A : Nat → Prop} {H0 : Heap} {z0 : Nat × Nat} {y : Nat} {SX : Nat → Nat → (Nat → Int32) → Prop} {pc pc' : Nat} {L st L' st' : List Value} {h h' : xH} (hC : CX SX A H0 D T3 p R s m args meth c y) {dflt : Int} {ps : Array (Int × Int)} {len : Nat} (hd : decode (x_cd y) pc = .ok (.lookupswitch dflt ps, len)) (hs : xLook pc dflt ps L st h = some (.inl (pc', L', st', h'))) (hk : WS p l e R s m args below meth c Q D T3 SX A H0 z0 y pc' L' st' h') : WS p l e R s m args below meth c Q D T3 SX A H0 z0 y pc L st h := by
  unfold xLook at hs
  split at hs
  next x t =>
    split at hs
    next hx =>
      obtain ⟨rfl, rfl, rfl, ht⟩ := ws_goto hs
      exact fun ls H locs cells slots hst => lv_lookup hC.1 hC.2.1 hd hx rfl ht (hk _ _ _ _ _ hst)
    next => cases hs
  next => cases hs
