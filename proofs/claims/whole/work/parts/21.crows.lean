-- the class's world: its fixed cells from cb on, and the pairs in P
def zCL (cb : Nat) (P : List Nat) : List Nat := (List.range 346).map (fun k => cb + k) ++ P
def zCA (cb : Nat) : Nat → Prop := fun q => (cb ≤ q ∧ q < cb + 346) ∨ cb + 385 ≤ q
def zPok (cb : Nat) (P : List Nat) : Prop := P.Nodup ∧ ∀ q ∈ P, cb + 385 ≤ q
abbrev zCP (D : va_G) (ka : Nat → ClassId) (cb : Nat) (P : List Nat) (C : zC) (A : zA) (H : Heap) : Prop := va_P D vwCl (va_pl (zCL cb P) (zCE ka cb C A)) H
def zCW (D : va_G) (ka : Nat → ClassId) (cb : Nat) (P : List Nat) (C : zC) (A : zA) (U : State) : Prop := zCP D ka cb P C A U.heap ∧ zPok cb P ∧ cb + 385 ≤ U.heap.size ∧ va_K D vwCl (zty ka) U
abbrev zPa (cb : Nat) (P : List Nat) (a : Nat) : Prop := a = cb + 1 ∨ a ∈ P
theorem zCL_in {cb k : Nat} {P : List Nat} (h : k < 346) : cb + k ∈ zCL cb P := List.mem_append_left _ (List.mem_map.mpr ⟨k, List.mem_range.mpr h, rfl⟩)
theorem zCL_0 {cb : Nat} {P : List Nat} : cb ∈ zCL cb P := zCL_in (k := 0) (by decide)
theorem zCL_p {cb a : Nat} {P : List Nat} (h : zPa cb P a) : a ∈ zCL cb P := by
  rcases h with rfl | h
  · exact zCL_in (by decide)
  · exact List.mem_append_right _ h
theorem zP_adr {cb a : Nat} {P : List Nat} (hP : zPok cb P) (h : zPa cb P a) : a = cb + 1 ∨ cb + 385 ≤ a := h.imp id (hP.2 a)
theorem zCL_nodup {cb : Nat} {P : List Nat} (h : zPok cb P) : (zCL cb P).Nodup := by
  refine List.nodup_append.mpr ⟨?_, h.1, fun a ha b hb => ?_⟩
  · rw [List.nodup_iff_pairwise_ne, List.pairwise_map]
    exact (List.nodup_iff_pairwise_ne.mp List.nodup_range).imp (fun h q => h (by omega))
  · obtain ⟨k, hk, rfl⟩ := List.mem_map.mp ha
    have h1 := List.mem_range.mp hk
    have h2 := h.2 b hb
    omega
theorem zC_D {cb : Nat} {P : List Nat} (h : zPok cb P) (E : Nat → va_E) : va_D (zCA cb) (va_pl (zCL cb P) E) := by
  refine ⟨fun i j x y hi hj hxy => ?_, fun k q hk => ?_⟩
  · simp only [va_pl, List.getElem?_map, Option.map_eq_some_iff] at hi hj
    obtain ⟨a, ha, rfl⟩ := hi
    obtain ⟨b, hb, rfl⟩ := hj
    have hab : a = b := hxy
    subst hab
    obtain ⟨hi1, hi2⟩ := List.getElem?_eq_some_iff.mp ha
    obtain ⟨hj1, hj2⟩ := List.getElem?_eq_some_iff.mp hb
    have hnd := List.pairwise_iff_getElem.mp (List.nodup_iff_pairwise_ne.mp (zCL_nodup h))
    rcases Nat.lt_trichotomy i j with q | q | q
    · exact absurd (hi2.trans hj2.symm) (hnd i j hi1 hj1 q)
    · exact q
    · exact absurd (hj2.trans hi2.symm) (hnd j i hj1 hi1 q)
  · obtain ⟨a, ha, rfl⟩ := List.mem_map.mp (List.mem_of_getElem? hk)
    show zCA cb a
    rcases List.mem_append.mp ha with ha | ha
    · obtain ⟨k', hk', rfl⟩ := List.mem_map.mp ha
      have := List.mem_range.mp hk'
      exact Or.inl ⟨by omega, by omega⟩
    · exact Or.inr (h.2 a ha)
theorem zC_re {D : va_G} {cl : List vw_C} {L : List Nat} {E E' : Nat → va_E} {a : Nat} {x : va_E} {H : Heap} (e : va_up E a x = E') (h : va_P D cl (va_pl L (va_up E a x)) H) : va_P D cl (va_pl L E') H := by
  rw [← e]
  exact h
theorem zo_cases (o : Option Nat) : o = none ∨ ∃ a, o = some a := by
  cases o with
  | none => exact Or.inl rfl
  | some a => exact Or.inr ⟨a, rfl⟩
theorem zCW_blind {D : va_G} {ka : Nat → ClassId} {cb : Nat} {P : List Nat} {C : zC} {A : zA} {As : List Value} : FrameBlind (va_Pc As (zCW D ka cb P C A)) := by
  intro a U g mk h
  obtain ⟨h1, h2, h3, h4, h5⟩ := h
  exact ⟨h1, h2, h3, h4, va_K.moved (u := U) (U := U.calling g mk a) (Vm.Alike.refl U.vm) h5⟩
section ZCR
variable {p : Program} {l : Launch} {e : Env} {R : Room} {s : State} {m : MethodId} {args : Array Value} {below : List Frame} {meth : Method} {c : Code} {H : Heap} {locs : List Loc} {cells slots : Nat} {Q : State → Prop}
variable {cc bb : ByteArray} {pc n nA nL index mc ms b : Nat} {ls : Array Slot} {As rest st0 : List Value} {D : va_G} {ka : Nat → ClassId} {cb : Nat} {P : List Nat} {C C' : zC} {A A' : zA} {H0 : Heap} {own : String} {y : MethodName} {rt : Option FieldType} {rm : Room} {fv : Int32} {A0 A1 : Nat → Prop} {B B' : State → Prop}
theorem z_topr {o : Option Nat} {v : Value} (h : va_rf o = v) (k : W p l e R s m args below meth c H locs cells slots Q (F0 m pc ls (v :: rest))) : W p l e R s m args below meth c H locs cells slots Q (F0 m pc ls (va_rf o :: rest)) := by
  rw [h]
  exact k
theorem zC_recv {a ci : Nat} {q : vw_C} {fs : List Value} (hK : va_K D vwCl (zty ka) s) (hP : zCP D ka cb P C A H) (ha : a ∈ zCL cb P) (he : zCE ka cb C A a = .inr (ci, fs)) (hc : vwCl[ci]? = some q) : ∃ cell : Cell, H[a]? = some cell ∧ cell.vm.isStatics = false ∧ s.vm.findClass q.1 = some cell.cls := by
  obtain ⟨q0, hq⟩ := zr_in ha he
  exact va_recv hK hP hc hq
theorem zK_callv (hbl : FrameBlind (va_Pc (.ref b :: As) B)) (hM : Met l y (.code y bb n rt :: zAll) rm (va_Pc (.ref b :: As) B) (va_Qv (fun (_ : Unit) => True) (fun _ t => B' t) A1) mc ms A1) (hg : GoodIn zAll (wsV own index y.cls y (.code y bb n rt :: zAll))) (hd : zNoMH y nA) (hrm : rm.cells = mc ∧ rm.slots = ms) (hR : rm.frames + 1 ≤ R.frames ∧ 8 + (n + 11) + rm.locals ≤ R.locals)
    (hx : p.tables.exec = Jvm.exec) (hb : c.code = cc) (hml : c.maxLocals = nL) (hts : ∀ w ∈ zAll, w.before args s = true) (hown : s.vm.findClass own = some m.cls) (hrec : ∃ cell : Cell, H[b]? = some cell ∧ cell.vm.isStatics = false ∧ s.vm.findClass y.cls = some cell.cls) (hB : ∀ U : State, U.heap = H → s.WarmedH U.vm → B U) (hS : va_S A0 H0 H locs) (hA0 : ∀ q, A1 q → A0 q) (hl : ls.size = nL) (hA : As.length = nA) (hst : st0 = As.reverse ++ .ref b :: rest) (hroom : (rest.map fun v => v.category).sum ≤ 8) (hcs : cells + mc ≤ R.cells ∧ slots + ms ≤ R.slots) (hdg : decode cc pc = .ok (.invokevirtual index, 3))
    (kk : ∀ (t : State) (locs1 : List Loc), s.vm.Alike t.vm → B' t → va_S A0 H0 t.heap locs1 → H.size ≤ t.heap.size → (∀ q : Nat, q < H.size → ¬ A1 q → t.heap[q]? = H[q]?) → W p l e R s m args below meth c t.heap locs1 (cells + mc) (slots + ms) Q (F0 m (pc + 3) ls rest)) : W p l e R s m args below meth c H locs cells slots Q (F0 m pc ls st0) := by
  refine va_callv (va_runV (As := As) (rest := rest) ⟨hx, hb, hml, hown, hts⟩ hM (cwV nA hts hg rfl hrm.1 hrm.2 ⟨rfl, hd⟩ hR) ⟨hbl, hrec, fun U hU hW => ⟨rfl, hB U hU hW⟩⟩ rfl hA hl hst (lv_room hroom) hdg hcs) hS (fun q _ h => hA0 q h) (fun q h => hA0 q h) (fun u t H1 locs1 ht hvm hp hB hz hk hS1 => ?_)
  subst ht
  exact kk t locs1 hvm hB hS1 hz hk
theorem zK_calli (hbl : FrameBlind (va_Pc (.ref b :: As) B)) (hM : Met l y (.code y bb n rt :: zAll) rm (va_Pc (.ref b :: As) B) (va_Qi (fun r (_ : Unit) => r = fv) (fun _ t => B' t) A1) mc ms A1) (hg : GoodIn zAll (wsV own index y.cls y (.code y bb n rt :: zAll))) (hd : zNoMH y nA) (hrm : rm.cells = mc ∧ rm.slots = ms) (hR : rm.frames + 1 ≤ R.frames ∧ 8 + (n + 11) + rm.locals ≤ R.locals)
    (hx : p.tables.exec = Jvm.exec) (hb : c.code = cc) (hml : c.maxLocals = nL) (hts : ∀ w ∈ zAll, w.before args s = true) (hown : s.vm.findClass own = some m.cls) (hrec : ∃ cell : Cell, H[b]? = some cell ∧ cell.vm.isStatics = false ∧ s.vm.findClass y.cls = some cell.cls) (hB : ∀ U : State, U.heap = H → s.WarmedH U.vm → B U) (hS : va_S A0 H0 H locs) (hA0 : ∀ q, A1 q → A0 q) (hl : ls.size = nL) (hA : As.length = nA) (hst : st0 = As.reverse ++ .ref b :: rest) (hroom : (rest.map fun v => v.category).sum ≤ 8) (hcs : cells + mc ≤ R.cells ∧ slots + ms ≤ R.slots) (hdg : decode cc pc = .ok (.invokevirtual index, 3))
    (kk : ∀ (t : State) (locs1 : List Loc), s.vm.Alike t.vm → B' t → va_S A0 H0 t.heap locs1 → H.size ≤ t.heap.size → (∀ q : Nat, q < H.size → ¬ A1 q → t.heap[q]? = H[q]?) → W p l e R s m args below meth c t.heap locs1 (cells + mc) (slots + ms) Q (F0 m (pc + 3) ls (.int fv :: rest))) : W p l e R s m args below meth c H locs cells slots Q (F0 m pc ls st0) := by
  refine va_calli (va_runV (As := As) (rest := rest) ⟨hx, hb, hml, hown, hts⟩ hM (cwV nA hts hg rfl hrm.1 hrm.2 ⟨rfl, hd⟩ hR) ⟨hbl, hrec, fun U hU hW => ⟨rfl, hB U hU hW⟩⟩ rfl hA hl hst (lv_room hroom) hdg hcs) hS (fun q _ h => hA0 q h) (fun q h => hA0 q h) (fun r u t H1 locs1 ht hvm hp hB hz hk hS1 => ?_)
  subst ht
  subst hp
  exact kk t locs1 hvm hB hS1 hz hk
theorem zK_calls (hbl : FrameBlind (va_Pc (.ref b :: As) B)) (hM : Met l y (.code y bb n rt :: zAll) rm (va_Pc (.ref b :: As) B) (vp_Si (fun r => r = fv)) 0 0 (fun _ => False)) (hg : GoodIn zAll (wsV own index y.cls y (.code y bb n rt :: zAll))) (hd : zNoMH y nA) (hrm : rm.cells = 0 ∧ rm.slots = 0) (hR : rm.frames + 1 ≤ R.frames ∧ 8 + (n + 11) + rm.locals ≤ R.locals)
    (hx : p.tables.exec = Jvm.exec) (hb : c.code = cc) (hml : c.maxLocals = nL) (hts : ∀ w ∈ zAll, w.before args s = true) (hown : s.vm.findClass own = some m.cls) (hrec : ∃ cell : Cell, H[b]? = some cell ∧ cell.vm.isStatics = false ∧ s.vm.findClass y.cls = some cell.cls) (hB : ∀ U : State, U.heap = H → s.WarmedH U.vm → B U) (hl : ls.size = nL) (hA : As.length = nA) (hst : st0 = As.reverse ++ .ref b :: rest) (hroom : (rest.map fun v => v.category).sum ≤ 8) (hcs : cells ≤ R.cells ∧ slots ≤ R.slots) (hdg : decode cc pc = .ok (.invokevirtual index, 3))
    (kk : W p l e R s m args below meth c H locs cells slots Q (F0 m (pc + 3) ls (.int fv :: rest))) : W p l e R s m args below meth c H locs cells slots Q (F0 m pc ls st0) := by
  refine vp_callSi (W.runV (As := As) (rest := rest) ⟨hx, hb, hml, hown, hts⟩ hM (cwV nA hts hg rfl hrm.1 hrm.2 ⟨rfl, hd⟩ hR) ⟨hbl, hrec, fun U hU hW => ⟨rfl, hB U hU hW⟩⟩ rfl hA hl hst (lv_room hroom) hdg hcs) (fun r hr => ?_)
  subst hr
  exact kk
theorem zC_U (hK : va_K D vwCl (zty ka) s) (hP : zCP D ka cb P C A H) (hQ : zPok cb P) (hz : cb + 385 ≤ H0.size) (hS : va_S A0 H0 H locs) : ∀ U : State, U.heap = H → s.WarmedH U.vm → zCW D ka cb P C A U :=
  fun U hU hW => ⟨by rw [hU]; exact hP, hQ, by rw [hU]; exact Nat.le_trans hz hS.1, va_K.moved hW.alike hK⟩
theorem zC_vret (hx : p.tables.exec = Jvm.exec) (hb : c.code = cc) (hr : meth.sig.returnType = none) (hlk : meth.locks = false) (hK : va_K D vwCl (zty ka) s) (hP : zCP D ka cb P C A H) (hQ : zPok cb P) (hz : cb + 385 ≤ s.heap.size) (hS : va_S (zCA cb) s.heap H locs) (hC : C = C') (hA : A = A') (hdg : decode cc pc = .ok (.return_, 1)) :
    W p l e R s m args below meth c H locs cells slots (MQ below (va_Qv (fun (_ : Unit) => True) (fun _ t => zCW D ka cb P C' A' t) (zCA cb)) args s cells slots (zCA cb)) (F0 m pc ls []) := by
  subst hC
  subst hA
  exact W.vret hx hb hr (fun t ht hW => ⟨⟨(), rfl, trivial, zC_U hK hP hQ hz hS t ht hW⟩, hS.F ht⟩) hS.2.2 hdg hlk
end ZCR
