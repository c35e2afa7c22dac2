-- words that don't pass through the tables' list: arrays over a class, and the nest mate's constructor
def zAO (U : State) : Prop := va_AO "SpanBoard$Recorder" U ∧ va_AO "SpanBoard$Pair" U ∧ va_AO "SpanBoard$Writer" U ∧ va_AO "SpanBoard$Reader" U ∧ va_AO "SpanBoard$Letter" U ∧ va_Nw (.methodLinkNest "SpanBoard$Post" 17 zy_L_init "SpanBoard") U
theorem zAO_moved {s U : State} (hW : s.WarmedH U.vm) (h : zAO s) : zAO U := by
  obtain ⟨h1, h2, h3, h4, h5, h6⟩ := h
  exact ⟨h1.moved hW.alike, h2.moved hW.alike, h3.moved hW.alike, h4.moved hW.alike, h5.moved hW.alike, h6.warmM hW⟩
def zGV (D : va_G) (ka : Nat → ClassId) (b0 n : Nat) (E : Nat → va_E) (U : State) : Prop := zGW D ka b0 n E U ∧ zAO U
theorem zGV_blind {D : va_G} {ka : Nat → ClassId} {b0 n : Nat} {E : Nat → va_E} {As : List Value} : FrameBlind (va_Pc As (zGV D ka b0 n E)) := by
  intro a U g mk h
  obtain ⟨h1, ⟨h2, h3, h4⟩, h5, h6, h7, h8, h9, h10⟩ := h
  exact ⟨h1, ⟨h2, h3, va_K.moved (u := U) (U := U.calling g mk a) (Vm.Alike.refl U.vm) h4⟩, h5.moved (u := U) (U := U.calling g mk a) (Vm.Alike.refl U.vm), h6.moved (u := U) (U := U.calling g mk a) (Vm.Alike.refl U.vm), h7.moved (u := U) (U := U.calling g mk a) (Vm.Alike.refl U.vm), h8.moved (u := U) (U := U.calling g mk a) (Vm.Alike.refl U.vm), h9.moved (u := U) (U := U.calling g mk a) (Vm.Alike.refl U.vm), va_Nw.same rfl (u := U) (U := U.calling g mk a) rfl h10⟩
section ZGS
variable {p : Program} {l : Launch} {e : Env} {R : Room} {s : State} {m : MethodId} {args : Array Value} {below : List Frame} {meth : Method} {c : Code} {H : Heap} {locs : List Loc} {cells slots : Nat} {Q : State → Prop}
variable {cc : ByteArray} {pc b0 n index : Nat} {ls : Array Slot} {rest : List Value} {D : va_G} {ka : Nat → ClassId} {E : Nat → va_E} {own : String}
theorem zg_newa (k : Nat) {atype : ArrayType} {ty : FieldType} (hk : (zty ka)[k]? = some (ka k, ty)) (hty : newarray.typeOf atype = ty) (hd : defaultValue ty = .int 0) (hexec : p.tables.exec = Jvm.exec) (hb : c.code = cc) (hts : ∀ w ∈ zAll, w.before args s = true) (harr : Cond.arrayClass (newarray.typeOf atype) ∈ zAll)
    (hK : va_K D vwCl (zty ka) s) (hP : zGP D b0 n E H) (hS : va_S (zGA b0) s.heap H locs) (hb0 : b0 ≤ s.heap.size) (hsz : s.heap.size + cells = b0 + n) {n0 : Int32} {N : Nat} (hn : n0 = nI N) (hN : N < 2 ^ 20) (hby : N * componentBytes ty ≤ 536870912) (hcells : cells + 1 ≤ R.cells) (hslots : slots + N ≤ R.slots) (hdg : decode cc pc = .ok (.newarray atype, 2))
    (kk : ∀ H1 : Heap, zGP D b0 (n + 1) (va_up E (b0 + n) (.inl (ka k, N, .inl (fun _ => 0)))) H1 → va_S (zGA b0) s.heap H1 locs → W p l e R s m args below meth c H1 locs (cells + 1) (slots + N) Q (F0 m (pc + 2) ls (.ref (b0 + n) :: rest))) : W p l e R s m args below meth c H locs cells slots Q (F0 m pc ls (.int n0 :: rest)) := by
  subst hn
  refine va_newa (a0 := (N, .inl (fun _ => 0))) hexec hb (hts _ harr) hty hK hP (zG_D b0 n E) hS (fun q h => Nat.le_trans hb0 h) (fun cA => by rw [vp_cell_i, hd]) (nI_pos (by omega)) (nI_clamp (by omega)) hby hcells hslots hdg (fun q cA H1 h0 h1 h2 h3 => z_size (fun hz => ?_))
  have hcA : cA = ka k := zg_ka (x := (ka k, ty)) hK hk h0
  subst hcA
  obtain ⟨rfl, h4⟩ := zG_at h1 h2 (by omega)
  exact kk H1 h4 h3
theorem zg_newq (k : Nat) {C : String} (hk : (zty ka)[k]? = some (ka k, .object C)) (hexec : p.tables.exec = Jvm.exec) (hb : c.code = cc) (hts : ∀ w ∈ zAll, w.before args s = true) (hown : s.vm.findClass own = some m.cls) (hcl : Cond.classLink own index C ∈ zAll) (hao : va_AO C s)
    (hK : va_K D vwCl (zty ka) s) (hP : zGP D b0 n E H) (hS : va_S (zGA b0) s.heap H locs) (hb0 : b0 ≤ s.heap.size) (hsz : s.heap.size + cells = b0 + n) {n0 : Int32} {N : Nat} (hn : n0 = nI N) (hN : N < 2 ^ 20) (hcells : cells + 1 ≤ R.cells) (hslots : slots + N ≤ R.slots) (hdg : decode cc pc = .ok (.anewarray index, 3))
    (kk : ∀ H1 : Heap, zGP D b0 (n + 1) (va_up E (b0 + n) (.inl (ka k, N, zq (fun _ => none)))) H1 → va_S (zGA b0) s.heap H1 locs → W p l e R s m args below meth c H1 locs (cells + 1) (slots + N) Q (F0 m (pc + 3) ls (.ref (b0 + n) :: rest))) : W p l e R s m args below meth c H locs cells slots Q (F0 m pc ls (.int n0 :: rest)) := by
  subst hn
  refine va_newq hexec hb hown (hts _ hcl) hao hK hP (zG_D b0 n E) hS (fun q h => Nat.le_trans hb0 h) (nI_pos (by omega)) (nI_clamp (by omega)) (by omega) hcells hslots hdg (fun q cA H1 h0 h1 h2 h3 => z_size (fun hz => ?_))
  have hcA : cA = ka k := zg_ka (x := (ka k, .object C)) hK hk h0
  subst hcA
  obtain ⟨rfl, h4⟩ := zG_at h1 h2 (by omega)
  exact kk H1 h4 h3
/-- a constructor's end: the world as it is, its size by the cells that were made -/
theorem zG_U (hK : va_K D vwCl (zty ka) s) (hP : zGP D b0 n E H) (hS : va_S (zGA b0) s.heap H locs) (hs : H.size = b0 + n) : ∀ U : State, U.heap = H → s.WarmedH U.vm → zGW D ka b0 n E U :=
  fun U hU hW => ⟨by rw [hU]; exact hP, by rw [hU]; exact hs, va_K.moved hW.alike hK⟩
theorem zG_size {g : JFrame} (h0 : 0 < n) (hP : zGP D b0 n E H) (hS : va_S (zGA b0) s.heap H locs) (hsz : s.heap.size + cells = b0 + n) (k : H.size = b0 + n → W p l e R s m args below meth c H locs cells slots Q g) : W p l e R s m args below meth c H locs cells slots Q g := by
  refine z_size (fun hz => k ?_)
  have h1 := hS.1
  · have := va_pl_lt (X := []) hP (zGL_in (a := b0 + n - 1) (b0 := b0) (n := n) (by omega) (by omega))
    omega
end ZGS
