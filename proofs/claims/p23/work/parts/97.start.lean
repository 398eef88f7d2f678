/-- YOUR PART: from the entry, for every script of at most 260 ints, the law comes to its end with true -/
theorem whole_start {p : Program} {e : Env} {s : State} {m : MethodId} {below : List Frame} {meth : Method} {c : Code} (l : Launch) (hflags : l.flags = flags0) {b L : Nat} {xs : Nat → Int32} (hL : L ≤ 260) (C0 : lw_At p s m meth c b L xs) : W p l e room_1 s m #[Value.ref b] below meth c s.heap [] 0 0 (lw_Z below #[Value.ref b] s) (entryFrame m ([Value.ref b] : List Value).toArray 11) := by
  have hbl : b < s.heap.size := C0.2.2.2.2.2.2.2.1
  obtain ⟨hf, e1, b1, b2⟩ := p_law (a := s.heap.size) (bs := b) (L := L) (xs := xs) (m := x_h0 b L xs) hbl (by omega) (if_pos rfl)
  exact x_whole l C0 ⟨hf, e1, by omega, by omega⟩
