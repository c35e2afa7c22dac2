/-- from the entry, for every script of at most 3073 ints, the law comes to its end with true -/
theorem whole_start {p : Program} {e : Env} {s : State} {m : MethodId} {below : List Frame} {meth : Method} {c : Code} (l : Launch) {b L : Nat} {xs : Nat → Int32} (hL : L ≤ 3073) (C0 : lw_At p s m meth c b L xs) : W p l e room_1 s m #[Value.ref b] below meth c s.heap [] 0 0 (lw_Z below #[Value.ref b] s) (entryFrame m ([Value.ref b] : List Value).toArray 4) := by
  obtain ⟨hx, hb, hr, hml, hown, hts, hX, hbl, hlk, -⟩ := C0
  obtain ⟨D, ka, hK⟩ := zK_of hts
  have hC : zJC p s m c #[Value.ref b] b L xs D ka s.heap.size := ⟨hx, hb, hml, z_all hts, hown, hK, hX, hbl, rfl⟩
  have hl := lv_entry [Value.ref b] (n := 4) (Nat.le_of_ble_eq_true rfl)
  rw [lg_entry_eq]
  generalize (lg_sl [Value.ref b] ++ List.replicate (4 - (lg_sl [Value.ref b]).length) Slot.unset).toArray = ls at hl ⊢
  have hl : lv_has ls 4 [(0, .ref b)] := hl
  refine zj_first hL hC (zAO_of hts) hl (fun H ls hP hsz hS hl => ?_)
  refine zj_second hL hC hP hsz hS hl (fun H ls M hO hJ hS hl => ?_)
  refine zj_loop hL hC (fun H locs cl sl ls hS hc hs => ?_) 512 1 385 5152 M H [] ls (by decide) (by omega) (by decide) (by decide) hO hJ hS hl
  refine lv_iconst (v := 1) hx hb zd_J_law_860 (by decide) ?_
  refine va_forget (fun q hq => hS.2.2 q hq) ?_
  refine W.widen (k := 655885) (n := 7134594) hc hs ?_
  exact lw_ret hx hb hr hlk zd_J_law_861
