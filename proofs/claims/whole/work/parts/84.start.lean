/-- YOUR PART: the walk of the law -/
theorem whole_start {p : Program} {e : Env} {s : State} {m : MethodId} {below : List Frame} {meth : Method} {c : Code} (l : Launch) (hflags : l.flags = flags0) {b L : Nat} {xs : Nat → Int32} (hL : L ≤ 1536) (C0 : lw_At p s m meth c b L xs) : W p l e room_1 s m #[Value.ref b] below meth c s.heap [] 0 0 (lw_Z below #[Value.ref b] s) (entryFrame m ([Value.ref b] : List Value).toArray 4) := by
  have hbl : b < s.heap.size := C0.2.2.2.2.2.2.2.1
  obtain ⟨m', e1⟩ := l_start (a := s.heap.size) (bs := b) (L := L) (xs := xs) (m := x_h0 b L xs) hbl hL (if_pos rfl)
  exact x_whole l C0 ⟨((s.heap.size + 92, 1644), m'), e1, by show s.heap.size + 92 ≤ s.heap.size + 600000; omega, Nat.le_of_ble_eq_true rfl⟩
