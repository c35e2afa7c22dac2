theorem zCU_pair0 (ka : Nat → ClassId) (cb : Nat) (C : zC) (A : zA) {q : Nat} (hq : q = cb + 1 ∨ cb + 385 ≤ q) (v : Int32) : va_up (zCE ka cb C A) q (.inr (zciP, [.int v, .int (C 23 q 0), .int (C 24 q 0)])) = zCE ka cb (zs3 C 22 q 0 v) A := by
  funext a
  by_cases h : a = q
  · rw [h, va_up_self, zCE_pair ka cb _ _ hq]
    rw [zs3_s] <;> rfl
  · rw [va_up_ne _ _ h]
    exact (zCE_ag (C := C) (C' := zs3 C 22 q 0 v) (A := A) (A' := A) (rfl) (fun i' e' => ⟨rfl, rfl⟩) (fun i' e' => rfl) (fun i' e' => ⟨rfl, rfl, rfl, rfl⟩) (fun i' e' => rfl) (fun i' e' => ⟨rfl, rfl, rfl, rfl, rfl, rfl, rfl⟩) (fun i' e' => rfl) (fun i' e' => rfl) (fun e' => rfl) (fun e' => rfl) (fun i' e' => ⟨rfl, rfl, rfl, rfl, rfl, rfl⟩) (fun e' => rfl) (fun e' => rfl) (fun e' => rfl) (fun e' => rfl) (⟨zs3_o h, rfl, rfl⟩)).symm
theorem zCU_pair1 (ka : Nat → ClassId) (cb : Nat) (C : zC) (A : zA) {q : Nat} (hq : q = cb + 1 ∨ cb + 385 ≤ q) (v : Int32) : va_up (zCE ka cb C A) q (.inr (zciP, [.int (C 22 q 0), .int v, .int (C 24 q 0)])) = zCE ka cb (zs3 C 23 q 0 v) A := by
  funext a
  by_cases h : a = q
  · rw [h, va_up_self, zCE_pair ka cb _ _ hq]
    rw [zs3_s] <;> rfl
  · rw [va_up_ne _ _ h]
    exact (zCE_ag (C := C) (C' := zs3 C 23 q 0 v) (A := A) (A' := A) (rfl) (fun i' e' => ⟨rfl, rfl⟩) (fun i' e' => rfl) (fun i' e' => ⟨rfl, rfl, rfl, rfl⟩) (fun i' e' => rfl) (fun i' e' => ⟨rfl, rfl, rfl, rfl, rfl, rfl, rfl⟩) (fun i' e' => rfl) (fun i' e' => rfl) (fun e' => rfl) (fun e' => rfl) (fun i' e' => ⟨rfl, rfl, rfl, rfl, rfl, rfl⟩) (fun e' => rfl) (fun e' => rfl) (fun e' => rfl) (fun e' => rfl) (⟨rfl, zs3_o h, rfl⟩)).symm
theorem zCU_pair2 (ka : Nat → ClassId) (cb : Nat) (C : zC) (A : zA) {q : Nat} (hq : q = cb + 1 ∨ cb + 385 ≤ q) (v : Int32) : va_up (zCE ka cb C A) q (.inr (zciP, [.int (C 22 q 0), .int (C 23 q 0), .int v])) = zCE ka cb (zs3 C 24 q 0 v) A := by
  funext a
  by_cases h : a = q
  · rw [h, va_up_self, zCE_pair ka cb _ _ hq]
    rw [zs3_s] <;> rfl
  · rw [va_up_ne _ _ h]
    exact (zCE_ag (C := C) (C' := zs3 C 24 q 0 v) (A := A) (A' := A) (rfl) (fun i' e' => ⟨rfl, rfl⟩) (fun i' e' => rfl) (fun i' e' => ⟨rfl, rfl, rfl, rfl⟩) (fun i' e' => rfl) (fun i' e' => ⟨rfl, rfl, rfl, rfl, rfl, rfl, rfl⟩) (fun i' e' => rfl) (fun i' e' => rfl) (fun e' => rfl) (fun e' => rfl) (fun i' e' => ⟨rfl, rfl, rfl, rfl, rfl, rfl⟩) (fun e' => rfl) (fun e' => rfl) (fun e' => rfl) (fun e' => rfl) (⟨rfl, rfl, zs3_o h⟩)).symm

section ZCS
variable {p : Program} {l : Launch} {e : Env} {R : Room} {s : State} {m : MethodId} {args : Array Value} {below : List Frame} {meth : Method} {c : Code} {H : Heap} {locs : List Loc} {cells slots : Nat} {Q : State → Prop}
variable {cc bb : ByteArray} {pc n nA nL index mc ms b : Nat} {ls : Array Slot} {As rest st0 : List Value} {D : va_G} {ka : Nat → ClassId} {cb : Nat} {P : List Nat} {C C' : zC} {A A' : zA} {H0 : Heap} {own : String} {y : MethodName} {rt : Option FieldType} {rm : Room} {fv : Int32} {A0 A1 : Nat → Prop} {B B' : State → Prop} {E : Nat → va_E} {L : List Nat} {a : Nat} {cl : List vw_C} {tys : List (ClassId × FieldType)}
theorem zS_aret (hx : p.tables.exec = Jvm.exec) (hb : c.code = cc) {nm : String} (hr : meth.sig.returnType = some (.object nm)) (hlk : meth.locks = false) (hH : H = s.heap) (hloc : locs = []) {o fo : Option Nat} (ho : o = fo) (hdg : decode cc pc = .ok (.areturn, 1)) :
    W p l e R s m args below meth c H locs cells slots (MQ below (va_Sq (fun r => r = fo)) args s cells slots (fun _ => False)) (F0 m pc ls [va_rf o]) := by
  subst ho
  subst hloc
  exact W.aret hx hb hr (Or.inl ⟨_, rfl⟩) (va_rf_or o) (fun t ht hW => ⟨o, rfl, rfl, ht.trans hH⟩) (fun q h => by cases h) hdg hlk
theorem zK_callq (hbl : FrameBlind (va_Pc (.ref b :: As) B)) {fo : Option Nat} (hM : Met l y (.code y bb n rt :: zAll) rm (va_Pc (.ref b :: As) B) (va_Sq (fun r => r = fo)) 0 0 (fun _ => False)) (hg : GoodIn zAll (wsV own index y.cls y (.code y bb n rt :: zAll))) (hd : zNoMH y nA) (hrm : rm.cells = 0 ∧ rm.slots = 0) (hR : rm.frames + 1 ≤ R.frames ∧ 8 + (n + 11) + rm.locals ≤ R.locals)
    (hx : p.tables.exec = Jvm.exec) (hb : c.code = cc) (hml : c.maxLocals = nL) (hts : ∀ w ∈ zAll, w.before args s = true) (hown : s.vm.findClass own = some m.cls) (hrec : ∃ cell : Cell, H[b]? = some cell ∧ cell.vm.isStatics = false ∧ s.vm.findClass y.cls = some cell.cls) (hB : ∀ U : State, U.heap = H → s.WarmedH U.vm → B U) (hl : ls.size = nL) (hA : As.length = nA) (hst : st0 = As.reverse ++ .ref b :: rest) (hroom : (rest.map fun v => v.category).sum ≤ 8) (hcs : cells ≤ R.cells ∧ slots ≤ R.slots) (hdg : decode cc pc = .ok (.invokevirtual index, 3))
    (kk : W p l e R s m args below meth c H locs cells slots Q (F0 m (pc + 3) ls (va_rf fo :: rest))) : W p l e R s m args below meth c H locs cells slots Q (F0 m pc ls st0) := by
  refine va_csq (W.runV (As := As) (rest := rest) ⟨hx, hb, hml, hown, hts⟩ hM (cwV nA hts hg rfl hrm.1 hrm.2 ⟨rfl, hd⟩ hR) ⟨hbl, hrec, fun U hU hW => ⟨rfl, hB U hU hW⟩⟩ rfl hA hl hst (lv_room hroom) hdg hcs) (fun r hr => ?_)
  subst hr
  exact kk
theorem zK_callr (hbl : FrameBlind (va_Pc (.ref b :: As) B)) {ra : Nat} (hM : Met l y (.code y bb n rt :: zAll) rm (va_Pc (.ref b :: As) B) (va_Qr (fun (_ : Unit) => True) (fun _ x t => x = ra ∧ B' t) A1) mc ms A1) (hg : GoodIn zAll (wsV own index y.cls y (.code y bb n rt :: zAll))) (hd : zNoMH y nA) (hrm : rm.cells = mc ∧ rm.slots = ms) (hR : rm.frames + 1 ≤ R.frames ∧ 8 + (n + 11) + rm.locals ≤ R.locals)
    (hx : p.tables.exec = Jvm.exec) (hb : c.code = cc) (hml : c.maxLocals = nL) (hts : ∀ w ∈ zAll, w.before args s = true) (hown : s.vm.findClass own = some m.cls) (hrec : ∃ cell : Cell, H[b]? = some cell ∧ cell.vm.isStatics = false ∧ s.vm.findClass y.cls = some cell.cls) (hB : ∀ U : State, U.heap = H → s.WarmedH U.vm → B U) (hS : va_S A0 H0 H locs) (hA0 : ∀ q, A1 q → A0 q) (hl : ls.size = nL) (hA : As.length = nA) (hst : st0 = As.reverse ++ .ref b :: rest) (hroom : (rest.map fun v => v.category).sum ≤ 8) (hcs : cells + mc ≤ R.cells ∧ slots + ms ≤ R.slots) (hdg : decode cc pc = .ok (.invokevirtual index, 3))
    (kk : ∀ (t : State) (locs1 : List Loc), s.vm.Alike t.vm → B' t → va_S A0 H0 t.heap locs1 → W p l e R s m args below meth c t.heap locs1 (cells + mc) (slots + ms) Q (F0 m (pc + 3) ls (.ref ra :: rest))) : W p l e R s m args below meth c H locs cells slots Q (F0 m pc ls st0) := by
  refine va_callr (va_runV (As := As) (rest := rest) ⟨hx, hb, hml, hown, hts⟩ hM (cwV nA hts hg rfl hrm.1 hrm.2 ⟨rfl, hd⟩ hR) ⟨hbl, hrec, fun U hU hW => ⟨rfl, hB U hU hW⟩⟩ rfl hA hl hst (lv_room hroom) hdg hcs) hS (fun q _ h => hA0 q h) (fun q h => hA0 q h) (fun u x t H1 locs1 ht hvm hp hB hz hk hS1 => ?_)
  subst ht
  obtain ⟨rfl, hB⟩ := hB
  exact kk t locs1 hvm hB hS1
theorem zC_aret (hx : p.tables.exec = Jvm.exec) (hb : c.code = cc) {nm : String} (hr : meth.sig.returnType = some (.object nm)) (hlk : meth.locks = false) (hK : va_K D vwCl (zty ka) s) (hP : zCP D ka cb P C A H) (hQ : zPok cb P) (hz : cb + 385 ≤ s.heap.size) (hS : va_S (zCA cb) s.heap H locs) (hC : C = C') (hA : A = A') {x ra : Nat} (hra : x = ra) (hdg : decode cc pc = .ok (.areturn, 1)) :
    W p l e R s m args below meth c H locs cells slots (MQ below (va_Qr (fun (_ : Unit) => True) (fun _ x t => x = ra ∧ zCW D ka cb P C' A' t) (zCA cb)) args s cells slots (zCA cb)) (F0 m pc ls [.ref x]) := by
  subst hC
  subst hA
  subst hra
  exact W.aret hx hb hr (Or.inl ⟨_, rfl⟩) (Or.inr ⟨x, rfl⟩) (fun t ht hW => ⟨⟨(), x, rfl, trivial, rfl, zC_U hK hP hQ hz hS t ht hW⟩, hS.F ht⟩) hS.2.2 hdg hlk
theorem zr_putF (hexec : p.tables.exec = Jvm.exec) (hb : c.code = cc) {own ref C : String} {T : u_T} {N ci index : Nat} {Ts : List Cond} (hts : ∀ w ∈ Ts, w.before args s = true) (hin : ∀ w ∈ u_ws C T N, w ∈ Ts) (ty0 : Nat → FieldType) (hty : ∀ k, k < N → parseFieldDescriptor (T k).2.2.1 = some (ty0 k)) (hnm : ∀ a, a < N → ∀ b, b < N → a ≠ b → (T a).2.1 ≠ (T b).2.1) (hown : s.vm.findClass own = some m.cls) (hK : va_K D cl tys s) (hP : va_P D cl (va_pl L E) H) (hD : va_D A0 (va_pl L E)) (hS0 : va_S A0 H0 H locs) (ha : a ∈ L) {fs : List Value} (he : E a = .inr (ci, fs)) (hc : cl[ci]? = some (C, T, N)) (k : Nat) (hk : k < N) (hlink : (Cond.fieldLink own index ref (T k).2.1 (T k).2.2.1).before args s = true) (hsame : (T k).1 = ref) (hfin : (T k).2.2.2 = true) (hini : meth.name = "<init>") (hdecl : (T k).1 = own) {ty : FieldType} {v : Value} (hd : parseFieldDescriptor (T k).2.2.1 = some ty) (hn : narrow ty v = v) (hfit : fits ty v = true) (hl : k < fs.length)
    (hdg : decode cc pc = .ok (.putfield index, 3)) (kk : ∀ (H1 : Heap) (locs1 : List Loc), va_P D cl (va_pl L (va_up E a (.inr (ci, fs.set k v)))) H1 → va_S A0 H0 H1 locs1 → W p l e R s m args below meth c H1 locs1 cells slots Q (F0 m (pc + 3) ls rest)) : W p l e R s m args below meth c H locs cells slots Q (F0 m pc ls (v :: .ref a :: rest)) := by
  obtain ⟨q0, hq⟩ := zr_in (E := E) ha rfl
  have hq2 := hq
  rw [he] at hq2
  refine va_putF hexec hb hts hin ty0 hty hnm hown hK hP hD hS0 q0 hq2 hc k hk hlink (fun x h => by rw [← hsame]; exact h) hfin hini hdecl hd hn hfit hl hdg (fun H1 locs1 h1 _ h3 => kk H1 locs1 ?_ h3)
  rw [zr_set hD ha hq] at h1
  exact h1
theorem zC_grow (hQ : zPok cb P) {q : Nat} (hq : cb + 385 ≤ q) (hn : q ∉ zCL cb P) : zPok cb (P ++ [q]) ∧ zCL cb P ++ [q] = zCL cb (P ++ [q]) := by
  refine ⟨⟨List.nodup_append.mpr ⟨hQ.1, List.nodup_cons.mpr ⟨List.not_mem_nil, List.nodup_nil⟩, fun a ha b hb => ?_⟩, fun x hx => ?_⟩, by unfold zCL; rw [List.append_assoc]⟩
  · rw [List.mem_singleton.mp hb]
    intro h
    exact hn (by rw [← h]; exact List.mem_append_right _ ha)
  · rcases List.mem_append.mp hx with h | h
    · exact hQ.2 x h
    · rw [List.mem_singleton.mp h]
      exact hq
/-- a new pair, its fields 0 -/
theorem zC_newP (hexec : p.tables.exec = Jvm.exec) (hb : c.code = cc) (hts : ∀ w ∈ zAll, w.before args s = true) (hown : s.vm.findClass own = some m.cls) (hcl : (Cond.classLink own index zN_P).before args s = true) (hinst : (Cond.instantiable zN_P 3).before args s = true) (hini : (Cond.initialized zN_P).before args s = true)
    (hK : va_K D vwCl (zty ka) s) (hP : zCP D ka cb P C A H) (hQ : zPok cb P) (hz : cb + 385 ≤ H0.size) (hS : va_S (zCA cb) H0 H locs) (hcells : cells + 1 ≤ R.cells) (hslots : slots + 3 ≤ R.slots) (hdg : decode cc pc = .ok (.new index, 3))
    (kk : ∀ (q : Nat) (H1 : Heap), q ∉ zCL cb P → zPok cb (P ++ [q]) → zCP D ka cb (P ++ [q]) (zs3 (zs3 (zs3 C 22 q 0 0) 23 q 0 0) 24 q 0 0) A H1 → va_S (zCA cb) H0 H1 locs → W p l e R s m args below meth c H1 locs (cells + 1) (slots + 3) Q (F0 m (pc + 3) ls (.ref q :: rest))) : W p l e R s m args below meth c H locs cells slots Q (F0 m pc ls rest) := by
  refine va_new (ci := zciP) (fs := [.int 0, .int 0, .int 0]) (C := zN_P) (T := zT_P) (N := 3) hexec hb hts zin_P zt_P zto_P hown hcl hinst hini hK hP (zC_D hQ _) hS (fun q h => Or.inr (Nat.le_trans hz h)) rfl (fun j hj => by rcases (show j = 0 ∨ j = 1 ∨ j = 2 by omega) with rfl | rfl | rfl <;> rfl) hcells hslots hdg (fun q H1 h1 h2 h3 => ?_)
  have hn : q ∉ zCL cb P := by
    intro hq
    obtain ⟨k, hk⟩ := zr_in (E := zCE ka cb C A) hq rfl
    have hkl := (List.getElem?_eq_some_iff.mp hk).1
    have e1 : (va_pl (zCL cb P) (zCE ka cb C A) ++ [(q, .inr (zciP, [.int 0, .int 0, .int 0]))])[k]? = some (q, zCE ka cb C A q) := by rw [List.getElem?_append_left hkl]; exact hk
    have e2 : (va_pl (zCL cb P) (zCE ka cb C A) ++ [(q, .inr (zciP, [.int 0, .int 0, .int 0]))])[(va_pl (zCL cb P) (zCE ka cb C A)).length]? = some (q, .inr (zciP, [.int 0, .int 0, .int 0])) := by rw [List.getElem?_append_right (Nat.le_refl _), Nat.sub_self]; rfl
    have := h2.1 _ _ _ _ e1 e2 rfl
    omega
  have hA : zCA cb q := h2.2 (va_pl (zCL cb P) (zCE ka cb C A)).length (q, .inr (zciP, [.int 0, .int 0, .int 0])) (by rw [List.getElem?_append_right (Nat.le_refl _), Nat.sub_self]; rfl)
  have hq : cb + 385 ≤ q := by
    rcases hA with hA | hA
    · exact absurd (by have := zCL_in (cb := cb) (P := P) (k := q - cb) (by omega); rwa [show cb + (q - cb) = q by omega] at this) hn
    · exact hA
  obtain ⟨g1, g2⟩ := zC_grow hQ hq hn
  rw [va_pl_push hn, g2] at h1
  exact kk q H1 hn g1 (zC_re (zCU_pair ka cb C A hq 0 0 0) h1) h3
end ZCS
