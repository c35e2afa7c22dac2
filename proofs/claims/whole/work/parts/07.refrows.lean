-- entry, returns and calls, for the reference
abbrev zty (ka : Nat → ClassId) : List (ClassId × FieldType) := [(ka 0, .int), (ka 1, .boolean), (ka 2, .object "SpanBoard$Pair"), (ka 3, .object "SpanBoard$Letter"), (ka 4, .object "SpanBoard$Recorder"), (ka 5, .object "SpanBoard$Writer"), (ka 6, .object "SpanBoard$Reader")]
abbrev zRP (D : va_G) (ka : Nat → ClassId) (rb : Nat) (M : zM) (H : Heap) : Prop := va_P D vwCl (va_pl (zRL rb) (zRE ka rb M)) H
def zRW (D : va_G) (ka : Nat → ClassId) (rb : Nat) (M : zM) (U : State) : Prop := zRP D ka rb M U.heap ∧ va_K D vwCl (zty ka) U
abbrev zRQi (D : va_G) (ka : Nat → ClassId) (rb : Nat) (fv : Int32) (gM : zM) : Array Value → State → Outcome → State → Prop := va_Qi (fun r (_ : Unit) => r = fv) (fun _ t => zRW D ka rb gM t) (zRA rb)
abbrev zRQv (D : va_G) (ka : Nat → ClassId) (rb : Nat) (gM : zM) : Array Value → State → Outcome → State → Prop := va_Qv (fun (_ : Unit) => True) (fun _ t => zRW D ka rb gM t) (zRA rb)
theorem z_met {l : Launch} {y : MethodName} {cc : ByteArray} {maxL : Nat} {ret : Option FieldType} {rm : Room} {As : List Value} {B : State → Prop} {Qc : Array Value → State → Outcome → State → Prop} {mc ms : Nat} {free : Addr → Prop} (hy : plainName y.cls = true) (hlen : (lg_sl As).length ≤ maxL)
    (body : ∀ (p : Program) (e : Env) (s : State) (m : MethodId) (below : List Frame) (meth : Method) (c : Code), p.tables.exec = Jvm.exec → c.code = cc → c.maxLocals = maxL → meth.sig.returnType = ret → (∀ w ∈ zAll, w.before As.toArray s = true) → s.vm.findClass y.cls = some m.cls → meth.locks = false → meth.name = y.name → B s → ∀ ls : Array Slot, lv_has ls maxL (lv_args 0 As) →
      W p l e rm s m As.toArray below meth c s.heap [] 0 0 (MQ below Qc As.toArray s mc ms free) (F0 m 0 ls [])) : Met l y (.code y cc maxL ret :: zAll) rm (va_Pc As B) Qc mc ms free := by
  refine Met.ofW (cc := cc) (maxL := maxL) (ret := ret) hy rfl ?_
  intro p e s m args below meth c s₁ Bd hml hv
  obtain ⟨rfl, hB⟩ := hv
  have hl := lv_entry As (n := maxL) hlen
  rw [lg_entry_eq]
  generalize (lg_sl As ++ List.replicate (maxL - (lg_sl As).length) Slot.unset).toArray = ls at hl ⊢
  exact body p e s m below meth c Bd.exec Bd.bytes hml Bd.returns (fun w h => atoms_spec (ws := .code y cc maxL ret :: zAll) Bd.pre w (List.mem_cons_of_mem _ h)) (findClass_of_methodNamed Bd.named) Bd.notSynchronized (name_of_methodNamed Bd.named Bd.method).1 hB ls hl
theorem zRW_blind {D : va_G} {ka : Nat → ClassId} {rb : Nat} {M : zM} {As : List Value} : FrameBlind (va_Pc As (zRW D ka rb M)) := by
  intro a U g mk h
  obtain ⟨h1, h2, h3⟩ := h
  exact ⟨h1, h2, va_K.moved (u := U) (U := U.calling g mk a) (Vm.Alike.refl U.vm) h3⟩
section ZRC
variable {p : Program} {l : Launch} {e : Env} {R : Room} {s : State} {m : MethodId} {args : Array Value} {below : List Frame} {meth : Method} {c : Code} {H : Heap} {locs : List Loc} {cells slots : Nat} {Q : State → Prop}
variable {cc : ByteArray} {pc : Nat} {ls : Array Slot} {rest : List Value} {D : va_G} {ka : Nat → ClassId} {rb : Nat} {M N : zM} {H0 : Heap} {own : String} {index nL : Nat}
theorem zR_iret (hx : p.tables.exec = Jvm.exec) (hb : c.code = cc) (hr : meth.sig.returnType = some .int) (hlk : meth.locks = false) (hK : va_K D vwCl (zty ka) s) (hP : zRP D ka rb N H) (hS : va_S (zRA rb) s.heap H locs) {v fv : Int32} (hv : v = fv) (hN : N = M) (hdg : decode cc pc = .ok (.ireturn, 1)) :
    W p l e R s m args below meth c H locs cells slots (MQ below (zRQi D ka rb fv M) args s cells slots (zRA rb)) (F0 m pc ls [.int v]) := by
  subst hN
  subst hv
  exact W.iret hx hb hr (fun t ht hW => ⟨⟨v, (), rfl, rfl, by rw [ht]; exact hP, va_K.moved hW.alike hK⟩, hS.F ht⟩) hS.2.2 hdg hlk
theorem zR_zret (hx : p.tables.exec = Jvm.exec) (hb : c.code = cc) (hr : meth.sig.returnType = some .boolean) (hlk : meth.locks = false) (hK : va_K D vwCl (zty ka) s) (hP : zRP D ka rb N H) (hS : va_S (zRA rb) s.heap H locs) {v fv : Int32} (hn : narrow .boolean (.int v) = .int v) (hv : v = fv) (hN : N = M) (hdg : decode cc pc = .ok (.ireturn, 1)) :
    W p l e R s m args below meth c H locs cells slots (MQ below (zRQi D ka rb fv M) args s cells slots (zRA rb)) (F0 m pc ls [.int v]) := by
  subst hN
  subst hv
  exact W.zret hx hb hr hn (fun t ht hW => ⟨⟨v, (), rfl, rfl, by rw [ht]; exact hP, va_K.moved hW.alike hK⟩, hS.F ht⟩) hS.2.2 hdg hlk
theorem zR_vret (hx : p.tables.exec = Jvm.exec) (hb : c.code = cc) (hr : meth.sig.returnType = none) (hlk : meth.locks = false) (hK : va_K D vwCl (zty ka) s) (hP : zRP D ka rb N H) (hS : va_S (zRA rb) s.heap H locs) (hN : N = M) (hdg : decode cc pc = .ok (.return_, 1)) :
    W p l e R s m args below meth c H locs cells slots (MQ below (zRQv D ka rb M) args s cells slots (zRA rb)) (F0 m pc ls []) := by
  subst hN
  exact W.vret hx hb hr (fun t ht hW => ⟨⟨(), rfl, trivial, by rw [ht]; exact hP, va_K.moved hW.alike hK⟩, hS.F ht⟩) hS.2.2 hdg hlk
end ZRC
section ZRR
variable {p : Program} {l : Launch} {e : Env} {R : Room} {s : State} {m : MethodId} {args : Array Value} {below : List Frame} {meth : Method} {c : Code} {H : Heap} {locs : List Loc} {cells slots : Nat} {Q : State → Prop}
variable {cc : ByteArray} {pc : Nat} {ls : Array Slot} {rest : List Value} {D : va_G} {ka : Nat → ClassId} {rb : Nat} {M : zM} {H0 : Heap}
theorem zR_get (k : Nat) (hk : k < 40) (hx : p.tables.exec = Jvm.exec) (hb : c.code = cc) (hts : ∀ w ∈ zAll, w.before args s = true) (hown : s.vm.findClass zN_M = some m.cls) (hK : va_K D vwCl (zty ka) s) (hP : zRP D ka rb M H) {index : Nat} (hlink : (Cond.fieldLink zN_M index zN_M (zT_M k).2.1 (zT_M k).2.2.1).before args s = true) (hsame : (zT_M k).1 = zN_M) {v : Value} (hv : (zRF rb M)[k]? = some v) (hdg : decode cc pc = .ok (.getfield index, 3))
    (kk : W p l e R s m args below meth c H locs cells slots Q (F0 m (pc + 3) ls (v :: rest))) : W p l e R s m args below meth c H locs cells slots Q (F0 m pc ls (.ref rb :: rest)) :=
  zr_get hx hb hts zin_M hown hK hP zRL_0 (zRE_o ka rb M) rfl k hk hlink hsame hv hdg kk
theorem zR_putl (hx : p.tables.exec = Jvm.exec) (hb : c.code = cc) (hts : ∀ w ∈ zAll, w.before args s = true) (hown : s.vm.findClass zN_M = some m.cls) (hK : va_K D vwCl (zty ka) s) (hP : zRP D ka rb M H) (hS : va_S (zRA rb) H0 H locs) {index : Nat} (hlink : (Cond.fieldLink zN_M index zN_M "letters" "I").before args s = true) {x : Int32} (hdg : decode cc pc = .ok (.putfield index, 3))
    (kk : ∀ (H1 : Heap) (locs1 : List Loc), zRP D ka rb (zst M 0 1 x) H1 → va_S (zRA rb) H0 H1 locs1 → W p l e R s m args below meth c H1 locs1 cells slots Q (F0 m (pc + 3) ls rest)) : W p l e R s m args below meth c H locs cells slots Q (F0 m pc ls (.int x :: .ref rb :: rest)) :=
  zr_put (ty := .int) hx hb hts zin_M zt_M zto_M znm_M hown hK hP (zR_D _ rb) hS zRL_0 (zRE_o ka rb M) rfl 31 (by decide) hlink rfl rfl (by decide +kernel) rfl rfl (by decide : 31 < 40) hdg (fun H1 locs1 h1 h2 => kk H1 locs1 (by rw [zRE_ul] at h1; exact h1) h2)
theorem zR_ld (k : Nat) (hk : (0 < k ∧ k < 39) ∧ zbo k = false) {i : Int32} {j : Nat} (hx : p.tables.exec = Jvm.exec) (hb : c.code = cc) (hK : va_K D vwCl (zty ka) s) (hP : zRP D ka rb M H) (hi : i = nI j) (hj : j < zlen k) (hdg : decode cc pc = .ok (.iaload, 1))
    (kk : W p l e R s m args below meth c H locs cells slots Q (F0 m (pc + 1) ls (.int (M k j) :: rest))) : W p l e R s m args below meth c H locs cells slots Q (F0 m pc ls (.int i :: .ref (rb + k) :: rest)) :=
  zr_iald (cA := ka 0) hx hb hK hP (zRL_in hk.1.2) 0 (by rw [zRE_a ka rb M hk.1.1, hk.2]; rfl) rfl hi hj (zlen_lt k) hdg kk
theorem zR_zld (k : Nat) (hk : (0 < k ∧ k < 39) ∧ zbo k = true) {i : Int32} {j : Nat} (hx : p.tables.exec = Jvm.exec) (hb : c.code = cc) (hK : va_K D vwCl (zty ka) s) (hP : zRP D ka rb M H) (hi : i = nI j) (hj : j < zlen k) (hdg : decode cc pc = .ok (.baload, 1))
    (kk : W p l e R s m args below meth c H locs cells slots Q (F0 m (pc + 1) ls (.int (M k j) :: rest))) : W p l e R s m args below meth c H locs cells slots Q (F0 m pc ls (.int i :: .ref (rb + k) :: rest)) :=
  zr_zald (cA := ka 1) hx hb hK hP (zRL_in hk.1.2) 1 (by rw [zRE_a ka rb M hk.1.1, hk.2]; rfl) rfl hi hj (zlen_lt k) hdg kk
theorem zR_sto (k : Nat) (hk : (0 < k ∧ k < 39) ∧ zbo k = false) {i x : Int32} {j : Nat} (hx : p.tables.exec = Jvm.exec) (hb : c.code = cc) (hK : va_K D vwCl (zty ka) s) (hP : zRP D ka rb M H) (hS : va_S (zRA rb) H0 H locs) (hi : i = nI j) (hj : j < zlen k) (hdg : decode cc pc = .ok (.iastore, 1))
    (kk : ∀ (H1 : Heap) (locs1 : List Loc), zRP D ka rb (zst M k j x) H1 → va_S (zRA rb) H0 H1 locs1 → W p l e R s m args below meth c H1 locs1 cells slots Q (F0 m (pc + 1) ls rest)) : W p l e R s m args below meth c H locs cells slots Q (F0 m pc ls (.int x :: .int i :: .ref (rb + k) :: rest)) :=
  zr_iast (cA := ka (if zbo k then 1 else 0)) hx hb hK hP (zR_D _ rb) hS (zRL_in hk.1.2) 0 (zRE_a ka rb M hk.1.1) (by rw [hk.2]; rfl) hi hj (zlen_lt k) hdg (fun H1 locs1 h1 h2 => kk H1 locs1 (by rw [zRE_up ka rb M hk.1.1] at h1; exact h1) h2)
theorem zR_zsto (k : Nat) (hk : (0 < k ∧ k < 39) ∧ zbo k = true) {i x : Int32} {j : Nat} (hx : p.tables.exec = Jvm.exec) (hb : c.code = cc) (hK : va_K D vwCl (zty ka) s) (hP : zRP D ka rb M H) (hS : va_S (zRA rb) H0 H locs) (hi : i = nI j) (hj : j < zlen k) (hn : vp_nar .boolean x = x) (hdg : decode cc pc = .ok (.bastore, 1))
    (kk : ∀ (H1 : Heap) (locs1 : List Loc), zRP D ka rb (zst M k j x) H1 → va_S (zRA rb) H0 H1 locs1 → W p l e R s m args below meth c H1 locs1 cells slots Q (F0 m (pc + 1) ls rest)) : W p l e R s m args below meth c H locs cells slots Q (F0 m pc ls (.int x :: .int i :: .ref (rb + k) :: rest)) :=
  zr_zast (cA := ka (if zbo k then 1 else 0)) hx hb hK hP (zR_D _ rb) hS (zRL_in hk.1.2) 1 (zRE_a ka rb M hk.1.1) (by rw [hk.2]; rfl) hi hj (zlen_lt k) hn hdg (fun H1 locs1 h1 h2 => kk H1 locs1 (by rw [zRE_up ka rb M hk.1.1] at h1; exact h1) h2)
end ZRR
abbrev zNoMH (y : MethodName) (n : Nat) : Prop := y.cls ≠ "java/lang/invoke/MethodHandle" ∧ y.cls ≠ "java/lang/invoke/VarHandle" ∧ (parseMethodDescriptor y.desc).map (fun d => d.parameters.length) = some n
section ZCL
variable {p : Program} {l : Launch} {e : Env} {R : Room} {s : State} {m : MethodId} {args : Array Value} {below : List Frame} {meth : Method} {c : Code} {H : Heap} {locs : List Loc} {cells slots : Nat} {Q : State → Prop}
variable {cc b : ByteArray} {pc n nA nL index : Nat} {ls : Array Slot} {As rest st0 : List Value} {D : va_G} {ka : Nat → ClassId} {rb : Nat} {M gM : zM} {H0 : Heap} {own : String} {y : MethodName} {rt : Option FieldType} {rm : Room} {fv : Int32} {A0 : Nat → Prop}
theorem zR_recv (hK : va_K D vwCl (zty ka) s) (hP : zRP D ka rb M H) : ∃ cell : Cell, H[rb]? = some cell ∧ cell.vm.isStatics = false ∧ s.vm.findClass zN_M = some cell.cls := by
  obtain ⟨q0, hq⟩ := zr_in (zRL_0 (rb := rb)) (zRE_o ka rb M)
  exact va_recv (q := (zN_M, zT_M, 40)) hK hP rfl hq
theorem zR_calli (hM : Met l y (.code y b n rt :: zAll) rm (va_Pc (.ref rb :: As) (zRW D ka rb M)) (zRQi D ka rb fv gM) 0 0 (zRA rb)) (hg : GoodIn zAll (wsV own index zN_M y (.code y b n rt :: zAll))) (hy : y.cls = zN_M) (hd : zNoMH y nA) (hrm : rm.cells = 0 ∧ rm.slots = 0) (hR : rm.frames + 1 ≤ R.frames ∧ 8 + (n + 11) + rm.locals ≤ R.locals)
    (hx : p.tables.exec = Jvm.exec) (hb : c.code = cc) (hml : c.maxLocals = nL) (hts : ∀ w ∈ zAll, w.before args s = true) (hown : s.vm.findClass own = some m.cls) (hK : va_K D vwCl (zty ka) s) (hP : zRP D ka rb M H) (hS : va_S A0 H0 H locs) (hA0 : ∀ q, zRA rb q → A0 q) (hl : ls.size = nL) (hA : As.length = nA) (hst : st0 = As.reverse ++ .ref rb :: rest) (hroom : (rest.map fun v => v.category).sum ≤ 8) (hcs : cells ≤ R.cells ∧ slots ≤ R.slots) (hdg : decode cc pc = .ok (.invokevirtual index, 3))
    (kk : ∀ (H1 : Heap) (locs1 : List Loc), zRP D ka rb gM H1 → va_S A0 H0 H1 locs1 → H.size ≤ H1.size → (∀ q : Nat, q < H.size → ¬ zRA rb q → H1[q]? = H[q]?) → W p l e R s m args below meth c H1 locs1 cells slots Q (F0 m (pc + 3) ls (.int fv :: rest))) : W p l e R s m args below meth c H locs cells slots Q (F0 m pc ls st0) := by
  refine va_calli (va_runV (As := As) (rest := rest) ⟨hx, hb, hml, hown, hts⟩ hM (cwV nA hts hg rfl hrm.1 hrm.2 ⟨hy, hd⟩ hR) ⟨zRW_blind, zR_recv hK hP, fun U hU hW => ⟨rfl, by rw [hU]; exact hP, va_K.moved hW.alike hK⟩⟩ rfl hA hl hst (lv_room hroom) hdg hcs) hS (fun q _ h => hA0 q h) (fun q h => hA0 q h) (fun r u t H1 locs1 ht hvm hp hB hz hk hS1 => ?_)
  obtain ⟨hB1, hB2⟩ := hB
  rw [ht] at hB1
  subst hp
  exact kk H1 locs1 hB1 hS1 hz hk
theorem zR_callv (hM : Met l y (.code y b n rt :: zAll) rm (va_Pc (.ref rb :: As) (zRW D ka rb M)) (zRQv D ka rb gM) 0 0 (zRA rb)) (hg : GoodIn zAll (wsV own index zN_M y (.code y b n rt :: zAll))) (hy : y.cls = zN_M) (hd : zNoMH y nA) (hrm : rm.cells = 0 ∧ rm.slots = 0) (hR : rm.frames + 1 ≤ R.frames ∧ 8 + (n + 11) + rm.locals ≤ R.locals)
    (hx : p.tables.exec = Jvm.exec) (hb : c.code = cc) (hml : c.maxLocals = nL) (hts : ∀ w ∈ zAll, w.before args s = true) (hown : s.vm.findClass own = some m.cls) (hK : va_K D vwCl (zty ka) s) (hP : zRP D ka rb M H) (hS : va_S A0 H0 H locs) (hA0 : ∀ q, zRA rb q → A0 q) (hl : ls.size = nL) (hA : As.length = nA) (hst : st0 = As.reverse ++ .ref rb :: rest) (hroom : (rest.map fun v => v.category).sum ≤ 8) (hcs : cells ≤ R.cells ∧ slots ≤ R.slots) (hdg : decode cc pc = .ok (.invokevirtual index, 3))
    (kk : ∀ (H1 : Heap) (locs1 : List Loc), zRP D ka rb gM H1 → va_S A0 H0 H1 locs1 → W p l e R s m args below meth c H1 locs1 cells slots Q (F0 m (pc + 3) ls rest)) : W p l e R s m args below meth c H locs cells slots Q (F0 m pc ls st0) := by
  refine va_callv (va_runV (As := As) (rest := rest) ⟨hx, hb, hml, hown, hts⟩ hM (cwV nA hts hg rfl hrm.1 hrm.2 ⟨hy, hd⟩ hR) ⟨zRW_blind, zR_recv hK hP, fun U hU hW => ⟨rfl, by rw [hU]; exact hP, va_K.moved hW.alike hK⟩⟩ rfl hA hl hst (lv_room hroom) hdg hcs) hS (fun q _ h => hA0 q h) (fun q h => hA0 q h) (fun u t H1 locs1 ht hvm hp hB hz hk hS1 => ?_)
  obtain ⟨hB1, hB2⟩ := hB
  rw [ht] at hB1
  exact kk H1 locs1 hB1 hS1
theorem zR_calls (hM : Met l y (.code y b n rt :: zAll) rm (va_Pc (.ref rb :: As) (zRW D ka rb M)) (vp_Si (fun r => r = fv)) 0 0 (fun _ => False)) (hg : GoodIn zAll (wsV own index zN_M y (.code y b n rt :: zAll))) (hy : y.cls = zN_M) (hd : zNoMH y nA) (hrm : rm.cells = 0 ∧ rm.slots = 0) (hR : rm.frames + 1 ≤ R.frames ∧ 8 + (n + 11) + rm.locals ≤ R.locals)
    (hx : p.tables.exec = Jvm.exec) (hb : c.code = cc) (hml : c.maxLocals = nL) (hts : ∀ w ∈ zAll, w.before args s = true) (hown : s.vm.findClass own = some m.cls) (hK : va_K D vwCl (zty ka) s) (hP : zRP D ka rb M H) (hl : ls.size = nL) (hA : As.length = nA) (hst : st0 = As.reverse ++ .ref rb :: rest) (hroom : (rest.map fun v => v.category).sum ≤ 8) (hcs : cells ≤ R.cells ∧ slots ≤ R.slots) (hdg : decode cc pc = .ok (.invokevirtual index, 3))
    (kk : W p l e R s m args below meth c H locs cells slots Q (F0 m (pc + 3) ls (.int fv :: rest))) : W p l e R s m args below meth c H locs cells slots Q (F0 m pc ls st0) := by
  refine vp_callSi (W.runV (As := As) (rest := rest) ⟨hx, hb, hml, hown, hts⟩ hM (cwV nA hts hg rfl hrm.1 hrm.2 ⟨hy, hd⟩ hR) ⟨zRW_blind, zR_recv hK hP, fun U hU hW => ⟨rfl, by rw [hU]; exact hP, va_K.moved hW.alike hK⟩⟩ rfl hA hl hst (lv_room hroom) hdg hcs) (fun r hr => ?_)
  subst hr
  exact kk
theorem z_blindT {As : List Value} : FrameBlind (va_Pc As (fun _ => True)) := fun _ _ _ _ h => h
theorem z_callst (hM : Met l y (.code y b n rt :: zAll) rm (va_Pc As (fun _ => True)) (vp_Si (fun r => r = fv)) 0 0 (fun _ => False)) (hg : GoodIn zAll (wsS own index y (.code y b n rt :: zAll))) (hy : y.cls = own) (hd : zNoMH y nA) (hrm : rm.cells = 0 ∧ rm.slots = 0) (hR : rm.frames + 1 ≤ R.frames ∧ 8 + (n + 11) + rm.locals ≤ R.locals)
    (hx : p.tables.exec = Jvm.exec) (hb : c.code = cc) (hml : c.maxLocals = nL) (hts : ∀ w ∈ zAll, w.before args s = true) (hown : s.vm.findClass own = some m.cls) (hl : ls.size = nL) (hA : As.length = nA) (hst : st0 = As.reverse ++ rest) (hroom : (rest.map fun v => v.category).sum ≤ 8) (hcs : cells ≤ R.cells ∧ slots ≤ R.slots) (hdg : decode cc pc = .ok (.invokestatic index, 3))
    (kk : W p l e R s m args below meth c H locs cells slots Q (F0 m (pc + 3) ls (.int fv :: rest))) : W p l e R s m args below meth c H locs cells slots Q (F0 m pc ls st0) := by
  refine vp_callSi (W.runS (As := As) (rest := rest) ⟨hx, hb, hml, hown, hts⟩ hM (cwS nA hts hg rfl hrm.1 hrm.2 ⟨hy, hd⟩ hR) ⟨z_blindT, fun U hU hW => ⟨rfl, trivial⟩⟩ rfl hA hl hst (lv_room hroom) hdg hcs) (fun r hr => ?_)
  subst hr
  exact kk
theorem zS_iret (hx : p.tables.exec = Jvm.exec) (hb : c.code = cc) (hr : meth.sig.returnType = some .int) (hlk : meth.locks = false) (hH : H = s.heap) (hloc : locs = []) {v : Int32} (hv : v = fv) (hdg : decode cc pc = .ok (.ireturn, 1)) :
    W p l e R s m args below meth c H locs cells slots (MQ below (vp_Si (fun r => r = fv)) args s cells slots (fun _ => False)) (F0 m pc ls [.int v]) := by
  subst hv
  subst hloc
  exact W.iret hx hb hr (fun t ht hW => ⟨v, rfl, rfl, ht.trans hH⟩) (fun q h => by cases h) hdg hlk
theorem zS_zret (hx : p.tables.exec = Jvm.exec) (hb : c.code = cc) (hr : meth.sig.returnType = some .boolean) (hlk : meth.locks = false) (hH : H = s.heap) (hloc : locs = []) {v : Int32} (hn : narrow .boolean (.int v) = .int v) (hv : v = fv) (hdg : decode cc pc = .ok (.ireturn, 1)) :
    W p l e R s m args below meth c H locs cells slots (MQ below (vp_Si (fun r => r = fv)) args s cells slots (fun _ => False)) (F0 m pc ls [.int v]) := by
  subst hv
  subst hloc
  exact W.zret hx hb hr hn (fun t ht hW => ⟨v, rfl, rfl, ht.trans hH⟩) (fun q h => by cases h) hdg hlk
end ZCL
