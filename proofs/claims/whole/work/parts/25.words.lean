section ZCT
variable {p : Program} {l : Launch} {e : Env} {R : Room} {s : State} {m : MethodId} {args : Array Value} {below : List Frame} {meth : Method} {c : Code} {H : Heap} {locs : List Loc} {cells slots : Nat} {Q : State → Prop}
variable {cc bb : ByteArray} {pc n nA nL index mc ms b cb : Nat} {ls : Array Slot} {As rest st0 : List Value} {H0 : Heap} {own : String} {y : MethodName} {rm : Room} {A0 A1 : Nat → Prop} {B B' : State → Prop}
theorem zK_callI (hbl : FrameBlind (va_Pc (.ref b :: As) B)) (hM : Met l y (.code y bb n none :: zAll) rm (va_Pc (.ref b :: As) B) (va_Qv (fun (_ : Unit) => True) (fun _ t => B' t) A1) mc ms A1) (h0 : Cond.code y bb n none ∈ zAll) (hini : Cond.initialized y.cls ∈ zAll) (hin : Cond.instanceMethod y ∈ zAll) (hlk : Cond.methodLink own index y ∈ zAll) (hy1 : y.name = "<init>") (hd : zNoMH y nA) (hrm : rm.cells = mc ∧ rm.slots = ms) (hR : rm.frames + 1 ≤ R.frames ∧ 8 + (n + 11) + rm.locals ≤ R.locals)
    (hx : p.tables.exec = Jvm.exec) (hb : c.code = cc) (hml : c.maxLocals = nL) (hts : ∀ w ∈ zAll, w.before args s = true) (hown : s.vm.findClass own = some m.cls) (hB : ∀ U : State, U.heap = H → s.WarmedH U.vm → B U) (hS : va_S A0 H0 H locs) (hA0 : ∀ q, A1 q → A0 q) (hl : ls.size = nL) (hA : As.length = nA) (hst : st0 = As.reverse ++ .ref b :: rest) (hroom : (rest.map fun v => v.category).sum ≤ 8) (hcs : cells + mc ≤ R.cells ∧ slots + ms ≤ R.slots) (hdg : decode cc pc = .ok (.invokespecial index, 3))
    (kk : ∀ (t : State) (locs1 : List Loc), s.vm.Alike t.vm → B' t → va_S A0 H0 t.heap locs1 → H.size ≤ t.heap.size → (∀ q : Nat, q < H.size → ¬ A1 q → t.heap[q]? = H[q]?) → W p l e R s m args below meth c t.heap locs1 (cells + mc) (slots + ms) Q (F0 m (pc + 3) ls rest)) : W p l e R s m args below meth c H locs cells slots Q (F0 m pc ls st0) := by
  refine va_callv (va_runI (As := As) (rest := rest) ⟨hx, hb, hml, hown, hts⟩ hM (cwI nA hts (z_goodI h0) rfl hrm.1 hrm.2 (hts _ hini) (hts _ hlk) (hts _ hin) hy1 hd hR) ⟨hbl, fun U hU hW => ⟨rfl, hB U hU hW⟩⟩ rfl hA hl hst (lv_room hroom) hdg hcs) hS (fun q _ h => hA0 q h) (fun q h => hA0 q h) (fun u t H1 locs1 ht hvm hp hB hz hk hS1 => ?_)
  subst ht
  exact kk t locs1 hvm hB hS1 hz hk
theorem zK_vret (hx : p.tables.exec = Jvm.exec) (hb : c.code = cc) (hr : meth.sig.returnType = none) (hlk : meth.locks = false) (hS : va_S A0 s.heap H locs) (hB : ∀ t : State, t.heap = H → s.WarmedH t.vm → B' t) (hdg : decode cc pc = .ok (.return_, 1)) :
    W p l e R s m args below meth c H locs cells slots (MQ below (va_Qv (fun (_ : Unit) => True) (fun _ t => B' t) A0) args s cells slots A0) (F0 m pc ls []) :=
  W.vret hx hb hr (fun t ht hW => ⟨⟨(), rfl, trivial, hB t ht hW⟩, hS.F ht⟩) hS.2.2 hdg hlk
theorem zK_iret (hx : p.tables.exec = Jvm.exec) (hb : c.code = cc) (hr : meth.sig.returnType = some .int) (hlk : meth.locks = false) (hS : va_S A0 s.heap H locs) (hB : ∀ t : State, t.heap = H → s.WarmedH t.vm → B' t) {v fv : Int32} (hv : v = fv) (hdg : decode cc pc = .ok (.ireturn, 1)) :
    W p l e R s m args below meth c H locs cells slots (MQ below (va_Qi (fun r (_ : Unit) => r = fv) (fun _ t => B' t) A0) args s cells slots A0) (F0 m pc ls [.int v]) := by
  subst hv
  exact W.iret hx hb hr (fun t ht hW => ⟨⟨v, (), rfl, rfl, hB t ht hW⟩, hS.F ht⟩) hS.2.2 hdg hlk
theorem zK_zret (hx : p.tables.exec = Jvm.exec) (hb : c.code = cc) (hr : meth.sig.returnType = some .boolean) (hlk : meth.locks = false) (hS : va_S A0 s.heap H locs) (hB : ∀ t : State, t.heap = H → s.WarmedH t.vm → B' t) {v fv : Int32} (hn : narrow .boolean (.int v) = .int v) (hv : v = fv) (hdg : decode cc pc = .ok (.ireturn, 1)) :
    W p l e R s m args below meth c H locs cells slots (MQ below (va_Qi (fun r (_ : Unit) => r = fv) (fun _ t => B' t) A0) args s cells slots A0) (F0 m pc ls [.int v]) := by
  subst hv
  exact W.zret hx hb hr hn (fun t ht hW => ⟨⟨v, (), rfl, rfl, hB t ht hW⟩, hS.F ht⟩) hS.2.2 hdg hlk
theorem zPa_l {P : List Nat} {q a : Nat} (h : zPa cb P a) : zPa cb (P ++ [q]) a := h.imp id (fun h => List.mem_append_left _ h)
theorem zPa_r {P : List Nat} {q : Nat} : zPa cb (P ++ [q]) q := Or.inr (List.mem_append_right _ (List.mem_singleton.mpr rfl))
theorem zPa_0 {P : List Nat} : zPa cb P (cb + 1) := Or.inl rfl
end ZCT
theorem zit_J : Cond.initialized "SpanBoardLaw" ∈ zAll := z_mem 0 (by decide +kernel) rfl
theorem zit_X : Cond.initialized "SpanBoard" ∈ zAll := z_mem 1 (by decide +kernel) rfl
theorem zit_P : Cond.initialized "SpanBoard$Pair" ∈ zAll := z_mem 3 (by decide +kernel) rfl
theorem zit_R : Cond.initialized "SpanBoard$Recorder" ∈ zAll := z_mem 4 (by decide +kernel) rfl
theorem zit_W : Cond.initialized "SpanBoard$Writer" ∈ zAll := z_mem 5 (by decide +kernel) rfl
theorem zit_D : Cond.initialized "SpanBoard$Reader" ∈ zAll := z_mem 6 (by decide +kernel) rfl
theorem zit_O : Cond.initialized "SpanBoard$Post" ∈ zAll := z_mem 7 (by decide +kernel) rfl
theorem zit_L : Cond.initialized "SpanBoard$Letter" ∈ zAll := z_mem 8 (by decide +kernel) rfl
theorem zit_M : Cond.initialized "SpanBoardModel" ∈ zAll := z_mem 9 (by decide +kernel) rfl
theorem zcl_J_7 : Cond.classLink "SpanBoardLaw" 7 "SpanBoard" ∈ zAll := z_mem 10 (by decide +kernel) rfl
theorem zis_X : Cond.instantiable "SpanBoard" 9 ∈ zAll := z_mem 11 (by decide +kernel) rfl
theorem zim_X_init : Cond.instanceMethod zy_X_init ∈ zAll := z_mem 13 (by decide +kernel) rfl
theorem zobj_i : Cond.instanceMethod objectInit ∈ zAll := z_mem 16 (by decide +kernel) rfl
set_option maxRecDepth 100000 in
theorem zobj_c : Cond.code objectInit ⟨#[0xb1]⟩ 1 none ∈ zAll := z_mem 17 rfl rfl
theorem zcl_X_22 : Cond.classLink "SpanBoard" 22 "SpanBoard$Pair" ∈ zAll := z_mem 24 (by decide +kernel) rfl
theorem zis_P : Cond.instantiable "SpanBoard$Pair" 3 ∈ zAll := z_mem 25 (by decide +kernel) rfl
theorem zim_P_init : Cond.instanceMethod zy_P_init ∈ zAll := z_mem 27 (by decide +kernel) rfl
theorem zcl_X_27 : Cond.classLink "SpanBoard" 27 "SpanBoard$Recorder" ∈ zAll := z_mem 43 (by decide +kernel) rfl
theorem zis_R : Cond.instantiable "SpanBoard$Recorder" 3 ∈ zAll := z_mem 45 (by decide +kernel) rfl
theorem zim_R_init : Cond.instanceMethod zy_R_init ∈ zAll := z_mem 47 (by decide +kernel) rfl
theorem zcl_R_9 : Cond.classLink "SpanBoard$Recorder" 9 "SpanBoard$Pair" ∈ zAll := z_mem 50 (by decide +kernel) rfl
theorem zcl_X_36 : Cond.classLink "SpanBoard" 36 "SpanBoard$Writer" ∈ zAll := z_mem 65 (by decide +kernel) rfl
theorem zis_W : Cond.instantiable "SpanBoard$Writer" 5 ∈ zAll := z_mem 67 (by decide +kernel) rfl
theorem zim_W_init : Cond.instanceMethod zy_W_init ∈ zAll := z_mem 69 (by decide +kernel) rfl
theorem zac_boolean : Cond.arrayClass .boolean ∈ zAll := z_mem 93 (by decide +kernel) rfl
theorem zcl_X_43 : Cond.classLink "SpanBoard" 43 "SpanBoard$Reader" ∈ zAll := z_mem 94 (by decide +kernel) rfl
theorem zis_D : Cond.instantiable "SpanBoard$Reader" 9 ∈ zAll := z_mem 96 (by decide +kernel) rfl
theorem zim_D_init : Cond.instanceMethod zy_D_init ∈ zAll := z_mem 98 (by decide +kernel) rfl
theorem zcl_D_9 : Cond.classLink "SpanBoard$Reader" 9 "SpanBoard$Pair" ∈ zAll := z_mem 101 (by decide +kernel) rfl
theorem zcl_X_50 : Cond.classLink "SpanBoard" 50 "SpanBoard$Post" ∈ zAll := z_mem 138 (by decide +kernel) rfl
theorem zis_O : Cond.instantiable "SpanBoard$Post" 2 ∈ zAll := z_mem 139 (by decide +kernel) rfl
theorem zim_O_init : Cond.instanceMethod zy_O_init ∈ zAll := z_mem 141 (by decide +kernel) rfl
theorem zcl_O_9 : Cond.classLink "SpanBoard$Post" 9 "SpanBoard$Letter" ∈ zAll := z_mem 144 (by decide +kernel) rfl
theorem zis_L : Cond.instantiable "SpanBoard$Letter" 6 ∈ zAll := z_mem 146 (by decide +kernel) rfl
theorem zim_L_init : Cond.instanceMethod zy_L_init ∈ zAll := z_mem 148 (by decide +kernel) rfl
theorem zac_int : Cond.arrayClass .int ∈ zAll := z_mem 213 (by decide +kernel) rfl
theorem zcl_W_19 : Cond.classLink "SpanBoard$Writer" 19 "SpanBoard$Pair" ∈ zAll := z_mem 232 (by decide +kernel) rfl
theorem zcl_J_18 : Cond.classLink "SpanBoardLaw" 18 "SpanBoardModel" ∈ zAll := z_mem 443 (by decide +kernel) rfl
theorem zis_M : Cond.instantiable "SpanBoardModel" 40 ∈ zAll := z_mem 444 (by decide +kernel) rfl
theorem zim_M_init : Cond.instanceMethod zy_M_init ∈ zAll := z_mem 446 (by decide +kernel) rfl
