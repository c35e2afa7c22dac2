-- constructors: the world grows cell by cell from b0 on
def zGL (b0 n : Nat) : List Nat := (List.range n).map (fun k => b0 + k)
theorem zGL_in {b0 n a : Nat} (h1 : b0 ≤ a) (h2 : a < b0 + n) : a ∈ zGL b0 n := List.mem_map.mpr ⟨a - b0, List.mem_range.mpr (by omega), by omega⟩
theorem zGL_of {b0 n a : Nat} (h : a ∈ zGL b0 n) : b0 ≤ a ∧ a < b0 + n := by
  obtain ⟨k, hk, rfl⟩ := List.mem_map.mp h
  have := List.mem_range.mp hk
  omega
theorem zGL_s (b0 n : Nat) : zGL b0 n ++ [b0 + n] = zGL b0 (n + 1) := by
  unfold zGL
  rw [List.range_succ, List.map_append]
  rfl
def zGA (b0 : Nat) : Nat → Prop := fun q => b0 ≤ q
theorem zG_D (b0 n : Nat) (E : Nat → va_E) : va_D (zGA b0) (va_pl (zGL b0 n) E) := by
  refine ⟨fun i j x y hi hj hxy => ?_, fun k q hk => ?_⟩
  · simp only [va_pl, zGL, List.map_map, List.getElem?_map, Option.map_eq_some_iff] at hi hj
    obtain ⟨i', hi1, rfl⟩ := hi
    obtain ⟨j', hj1, rfl⟩ := hj
    obtain ⟨h1, h2⟩ := List.getElem?_eq_some_iff.mp hi1
    obtain ⟨h3, h4⟩ := List.getElem?_eq_some_iff.mp hj1
    simp at h2 h4 hxy
    omega
  · obtain ⟨a, ha, rfl⟩ := List.mem_map.mp (List.mem_of_getElem? hk)
    exact (zGL_of ha).1
abbrev zGP (D : va_G) (b0 n : Nat) (E : Nat → va_E) (H : Heap) : Prop := va_P D vwCl (va_pl (zGL b0 n) E) H
def zGW (D : va_G) (ka : Nat → ClassId) (b0 n : Nat) (E : Nat → va_E) (U : State) : Prop := zGP D b0 n E U.heap ∧ U.heap.size = b0 + n ∧ va_K D vwCl (zty ka) U
theorem zGW_blind {D : va_G} {ka : Nat → ClassId} {b0 n : Nat} {E : Nat → va_E} {As : List Value} : FrameBlind (va_Pc As (zGW D ka b0 n E)) := by
  intro a U g mk h
  obtain ⟨h1, h2, h3, h4⟩ := h
  exact ⟨h1, h2, h3, va_K.moved (u := U) (U := U.calling g mk a) (Vm.Alike.refl U.vm) h4⟩
section ZGR
variable {p : Program} {l : Launch} {e : Env} {R : Room} {s : State} {m : MethodId} {args : Array Value} {below : List Frame} {meth : Method} {c : Code} {H : Heap} {locs : List Loc} {cells slots : Nat} {Q : State → Prop}
variable {cc : ByteArray} {pc b0 n index : Nat} {ls : Array Slot} {rest : List Value} {D : va_G} {ka : Nat → ClassId} {E : Nat → va_E} {own : String}
theorem z_size {g : JFrame} (k : H.size ≤ s.heap.size + cells → W p l e R s m args below meth c H locs cells slots Q g) : W p l e R s m args below meth c H locs cells slots Q g :=
  fun T hT X => k (by rw [← hT]; exact X.heapSize) T hT X
theorem zG_at {q : Nat} {x : va_E} {H1 : Heap} (h1 : va_P D vwCl (va_pl (zGL b0 n) E ++ [(q, x)]) H1) (h2 : va_D (zGA b0) (va_pl (zGL b0 n) E ++ [(q, x)])) (hb : H1.size ≤ b0 + n + 1) : q = b0 + n ∧ zGP D b0 (n + 1) (va_up E (b0 + n) x) H1 := by
  have hl : (va_pl (zGL b0 n) E ++ [(q, x)])[(va_pl (zGL b0 n) E).length]? = some (q, x) := by rw [List.getElem?_append_right (Nat.le_refl _), Nat.sub_self]; rfl
  have hA : b0 ≤ q := h2.2 _ _ hl
  have hlt : q < H1.size := (h1 _ _ hl).lt
  have hn : q ∉ zGL b0 n := by
    intro hq
    obtain ⟨k, hk⟩ := zr_in (E := E) hq rfl
    have hkl := (List.getElem?_eq_some_iff.mp hk).1
    have e1 : (va_pl (zGL b0 n) E ++ [(q, x)])[k]? = some (q, E q) := by rw [List.getElem?_append_left hkl]; exact hk
    have := h2.1 _ _ _ _ e1 hl rfl
    omega
  have hq : q = b0 + n := by
    rcases Nat.lt_or_ge q (b0 + n) with z | z
    · exact absurd (zGL_in hA z) hn
    · omega
  subst hq
  refine ⟨rfl, ?_⟩
  rw [va_pl_push hn, zGL_s] at h1
  exact h1
theorem zg_new {C : String} {T : u_T} {N ci : Nat} (hexec : p.tables.exec = Jvm.exec) (hb : c.code = cc) (hts : ∀ w ∈ zAll, w.before args s = true) (hin : ∀ w ∈ u_ws C T N, w ∈ zAll) (ty : Nat → FieldType) (hty : ∀ k, k < N → parseFieldDescriptor (T k).2.2.1 = some (ty k)) (hown : s.vm.findClass own = some m.cls) (hcl : Cond.classLink own index C ∈ zAll) (hinst : Cond.instantiable C N ∈ zAll) (hini : Cond.initialized C ∈ zAll)
    (hK : va_K D vwCl (zty ka) s) (hP : zGP D b0 n E H) (hS : va_S (zGA b0) s.heap H locs) (hb0 : b0 ≤ s.heap.size) (hsz : s.heap.size + cells = b0 + n) (hc : vwCl[ci]? = some (C, T, N)) {fs : List Value} (hfs : ∀ j, j < N → defaultValue (ty j) = vp_V fs j) (hcells : cells + 1 ≤ R.cells) (hslots : slots + N ≤ R.slots) (hdg : decode cc pc = .ok (.new index, 3))
    (kk : ∀ H1 : Heap, zGP D b0 (n + 1) (va_up E (b0 + n) (.inr (ci, fs))) H1 → va_S (zGA b0) s.heap H1 locs → W p l e R s m args below meth c H1 locs (cells + 1) (slots + N) Q (F0 m (pc + 3) ls (.ref (b0 + n) :: rest))) : W p l e R s m args below meth c H locs cells slots Q (F0 m pc ls rest) := by
  refine va_new hexec hb hts hin ty hty hown (hts _ hcl) (hts _ hinst) (hts _ hini) hK hP (zG_D b0 n E) hS (fun q h => Nat.le_trans hb0 h) hc hfs hcells hslots hdg (fun q H1 h1 h2 h3 => z_size (fun hz => ?_))
  obtain ⟨rfl, h4⟩ := zG_at h1 h2 (by omega)
  exact kk H1 h4 h3
theorem zg_ka {U : State} {k : Nat} {cA : ClassId} {x : ClassId × FieldType} (hK : va_K D vwCl (zty ka) U) (hk : (zty ka)[k]? = some x) (hK2 : va_K D vwCl (zty ka ++ [(cA, x.2)]) U) : cA = x.1 := by
  have h1 := (hK.2 k x hk).2
  have h2 := (hK2.2 (zty ka).length (cA, x.2) (by rw [List.getElem?_append_right (Nat.le_refl _), Nat.sub_self]; rfl)).2
  obtain ⟨x1, x2⟩ := x
  cases x2 with
  | object C =>
    obtain ⟨_, _, -, -, -, h3⟩ := h1
    obtain ⟨_, _, -, -, -, h4⟩ := h2
    exact Option.some.inj (h4.symm.trans h3)
  | _ => exact Option.some.inj (Eq.trans (Eq.symm h2) h1)
end ZGR
