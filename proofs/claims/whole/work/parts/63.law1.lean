-- the law's walk: its world, and a row for each kind of step
def zJS (D : va_G) (ka : Nat → ClassId) (cb : Nat) (M1 M2 : zM) (H : Heap) : Prop := (∃ (P : List Nat) (C : zC) (A : zA), zCP D ka cb P C A H ∧ zPok cb P ∧ zRep cb P C A M1) ∧ zRP D ka (cb + 346) M2 H ∧ cb + 385 ≤ H.size
def zJC (p : Program) (s : State) (m : MethodId) (c : Code) (args : Array Value) (b L : Nat) (xs : Nat → Int32) (D : va_G) (ka : Nat → ClassId) (cb : Nat) : Prop := p.tables.exec = Jvm.exec ∧ c.code = code ∧ c.maxLocals = 4 ∧ (∀ w ∈ zAll, w.before args s = true) ∧ s.vm.findClass zN_J = some m.cls ∧ va_K D vwCl (zty ka) s ∧ va_X b L xs s s.heap ∧ b < s.heap.size ∧ s.heap.size = cb
theorem zCP_keep {D : va_G} {ka : Nat → ClassId} {cb : Nat} {P : List Nat} {C : zC} {A : zA} {H H1 : Heap} (hP : zCP D ka cb P C A H) (hQ : zPok cb P) (h : ∀ q : Nat, q < H.size → ¬ zRA (cb + 346) q → H1[q]? = H[q]?) : zCP D ka cb P C A H1 := by
  refine va_P.kept hP (fun k q hk => h q.1 (hP k q hk).lt (fun h2 => ?_))
  obtain ⟨a, ha, rfl⟩ := List.mem_map.mp (List.mem_of_getElem? hk)
  have h4 : cb + 346 ≤ a ∧ a < cb + 346 + 39 := h2
  rcases List.mem_append.mp ha with h5 | h5
  · obtain ⟨i, hi, rfl⟩ := List.mem_map.mp h5
    have hi := List.mem_range.mp hi
    omega
  · have := hQ.2 a h5
    omega
section ZJ
variable {p : Program} {l : Launch} {e : Env} {s : State} {m : MethodId} {args : Array Value} {below : List Frame} {meth : Method} {c : Code} {H : Heap} {locs : List Loc} {cells slots : Nat} {Q : State → Prop}
variable {bb : ByteArray} {pc n nA index mc ms b L cb : Nat} {xs : Nat → Int32} {ls : Array Slot} {As rest st0 : List Value} {D : va_G} {ka : Nat → ClassId} {M M1 M2 gM : zM} {y : MethodName} {rt : Option FieldType} {rm : Room} {fv : Int32}
theorem zJ_rec (hK : va_K D vwCl (zty ka) s) (hJ : zJS D ka cb M1 M2 H) : ∃ cell : Cell, H[cb]? = some cell ∧ cell.vm.isStatics = false ∧ s.vm.findClass zN_X = some cell.cls := by
  obtain ⟨⟨P, C, A, h1, -, -⟩, -, -⟩ := hJ
  exact zC_recv (a := cb) (q := (zN_X, zT_X, 9)) hK h1 (zCL_in (k := 0) (by omega)) (zCE_x ka cb C A) rfl
theorem zJ_U (hK : va_K D vwCl (zty ka) s) (hJ : zJS D ka cb M1 M2 H) : ∀ U : State, U.heap = H → s.WarmedH U.vm → zCS D ka cb M1 U := by
  intro U hU hW
  obtain ⟨⟨P, C, A, h1, h2, h3⟩, -, h5⟩ := hJ
  exact ⟨P, C, A, ⟨by rw [hU]; exact h1, h2, by rw [hU]; exact h5, va_K.moved hW.alike hK⟩, h3⟩
theorem zJ_ci (hM : Met l y (.code y bb n rt :: zAll) rm (va_Pc (.ref cb :: As) (zCS D ka cb M1)) (va_Qi (fun r (_ : Unit) => r = fv) (fun _ t => zCS D ka cb gM t) (zCA cb)) mc ms (zCA cb)) (hg : GoodIn zAll (wsV zN_J index y.cls y (.code y bb n rt :: zAll))) (hy : y.cls = zN_X) (hd : zNoMH y nA) (hrm : rm.cells = mc ∧ rm.slots = ms) (hR : rm.frames + 1 ≤ room_1.frames ∧ 8 + (n + 11) + rm.locals ≤ room_1.locals)
    (hC : zJC p s m c args b L xs D ka cb) (hJ : zJS D ka cb M1 M2 H) (hS : va_S (zGA cb) s.heap H locs) (hl : ls.size = 4) (hA : As.length = nA) (hst : st0 = As.reverse ++ .ref cb :: rest) (hroom : (rest.map fun v => v.category).sum ≤ 8) (hcs : cells + mc ≤ room_1.cells ∧ slots + ms ≤ room_1.slots) (hdg : decode code pc = .ok (.invokevirtual index, 3))
    (kk : ∀ (H1 : Heap) (locs1 : List Loc), zJS D ka cb gM M2 H1 → va_S (zGA cb) s.heap H1 locs1 → W p l e room_1 s m args below meth c H1 locs1 (cells + mc) (slots + ms) Q (F0 m (pc + 3) ls (.int fv :: rest))) : W p l e room_1 s m args below meth c H locs cells slots Q (F0 m pc ls st0) := by
  obtain ⟨hx, hb, hml, hts, hown, hK, -, -, -⟩ := hC
  refine zK_calli zCS_blind hM hg hd hrm hR hx hb hml hts hown (by rw [hy]; exact zJ_rec hK hJ) (zJ_U hK hJ) hS (fun q h => ?_) hl hA hst hroom hcs hdg (fun t locs1 ht hB hS1 hz hk => ?_)
  · rcases h with h | h
    · exact h.1
    · exact Nat.le_trans (Nat.le_add_right _ _) h
  · obtain ⟨-, hR2, h5⟩ := hJ
    obtain ⟨P, C, A, ⟨h1, h2, h3, -⟩, h4⟩ := hB
    exact kk t.heap locs1 ⟨⟨P, C, A, h1, h2, h4⟩, zRP_keep hR2 hk, h3⟩ hS1
theorem zJ_cs (hM : Met l y (.code y bb n rt :: zAll) rm (va_Pc (.ref cb :: As) (zCS D ka cb M1)) (vp_Si (fun r => r = fv)) 0 0 (fun _ => False)) (hg : GoodIn zAll (wsV zN_J index y.cls y (.code y bb n rt :: zAll))) (hy : y.cls = zN_X) (hd : zNoMH y nA) (hrm : rm.cells = 0 ∧ rm.slots = 0) (hR : rm.frames + 1 ≤ room_1.frames ∧ 8 + (n + 11) + rm.locals ≤ room_1.locals)
    (hC : zJC p s m c args b L xs D ka cb) (hJ : zJS D ka cb M1 M2 H) (hl : ls.size = 4) (hA : As.length = nA) (hst : st0 = As.reverse ++ .ref cb :: rest) (hroom : (rest.map fun v => v.category).sum ≤ 8) (hcs : cells ≤ room_1.cells ∧ slots ≤ room_1.slots) (hdg : decode code pc = .ok (.invokevirtual index, 3))
    (kk : W p l e room_1 s m args below meth c H locs cells slots Q (F0 m (pc + 3) ls (.int fv :: rest))) : W p l e room_1 s m args below meth c H locs cells slots Q (F0 m pc ls st0) := by
  obtain ⟨hx, hb, hml, hts, hown, hK, -, -, -⟩ := hC
  exact zK_calls zCS_blind hM hg hd hrm hR hx hb hml hts hown (by rw [hy]; exact zJ_rec hK hJ) (zJ_U hK hJ) hl hA hst hroom hcs hdg kk
theorem zJ_ri (hM : Met l y (.code y bb n rt :: zAll) rm (va_Pc (.ref (cb + 346) :: As) (zRW D ka (cb + 346) M2)) (zRQi D ka (cb + 346) fv gM) 0 0 (zRA (cb + 346))) (hg : GoodIn zAll (wsV zN_J index zN_M y (.code y bb n rt :: zAll))) (hy : y.cls = zN_M) (hd : zNoMH y nA) (hrm : rm.cells = 0 ∧ rm.slots = 0) (hR : rm.frames + 1 ≤ room_1.frames ∧ 8 + (n + 11) + rm.locals ≤ room_1.locals)
    (hC : zJC p s m c args b L xs D ka cb) (hJ : zJS D ka cb M1 M2 H) (hS : va_S (zGA cb) s.heap H locs) (hl : ls.size = 4) (hA : As.length = nA) (hst : st0 = As.reverse ++ .ref (cb + 346) :: rest) (hroom : (rest.map fun v => v.category).sum ≤ 8) (hcs : cells ≤ room_1.cells ∧ slots ≤ room_1.slots) (hdg : decode code pc = .ok (.invokevirtual index, 3))
    (kk : ∀ (H1 : Heap) (locs1 : List Loc), zJS D ka cb M1 gM H1 → va_S (zGA cb) s.heap H1 locs1 → W p l e room_1 s m args below meth c H1 locs1 cells slots Q (F0 m (pc + 3) ls (.int fv :: rest))) : W p l e room_1 s m args below meth c H locs cells slots Q (F0 m pc ls st0) := by
  obtain ⟨hx, hb, hml, hts, hown, hK, -, -, -⟩ := hC
  refine zR_calli hM hg hy hd hrm hR hx hb hml hts hown hK hJ.2.1 hS (fun q h => Nat.le_trans (Nat.le_add_right _ _) h.1) hl hA hst hroom hcs hdg (fun H1 locs1 hP1 hS1 hz hk => ?_)
  obtain ⟨⟨P, C, A, h1, h2, h3⟩, -, h5⟩ := hJ
  exact kk H1 locs1 ⟨⟨P, C, A, zCP_keep h1 h2 hk, h2, h3⟩, hP1, Nat.le_trans h5 hz⟩ hS1
theorem zJ_rs (hM : Met l y (.code y bb n rt :: zAll) rm (va_Pc (.ref (cb + 346) :: As) (zRW D ka (cb + 346) M2)) (vp_Si (fun r => r = fv)) 0 0 (fun _ => False)) (hg : GoodIn zAll (wsV zN_J index zN_M y (.code y bb n rt :: zAll))) (hy : y.cls = zN_M) (hd : zNoMH y nA) (hrm : rm.cells = 0 ∧ rm.slots = 0) (hR : rm.frames + 1 ≤ room_1.frames ∧ 8 + (n + 11) + rm.locals ≤ room_1.locals)
    (hC : zJC p s m c args b L xs D ka cb) (hJ : zJS D ka cb M1 M2 H) (hl : ls.size = 4) (hA : As.length = nA) (hst : st0 = As.reverse ++ .ref (cb + 346) :: rest) (hroom : (rest.map fun v => v.category).sum ≤ 8) (hcs : cells ≤ room_1.cells ∧ slots ≤ room_1.slots) (hdg : decode code pc = .ok (.invokevirtual index, 3))
    (kk : W p l e room_1 s m args below meth c H locs cells slots Q (F0 m (pc + 3) ls (.int fv :: rest))) : W p l e room_1 s m args below meth c H locs cells slots Q (F0 m pc ls st0) := by
  obtain ⟨hx, hb, hml, hts, hown, hK, -, -, -⟩ := hC
  exact zR_calls hM hg hy hd hrm hR hx hb hml hts hown hK hJ.2.1 hl hA hst hroom hcs hdg kk
/-- an int of the script at i + k, pushed -/
theorem zJ_arg (k : Nat) {i : Nat} {nk : Int} (hC : zJC p s m c args b L xs D ka cb) (hS : va_S (zGA cb) s.heap H locs) (hl : lv_has ls 4 [(3, .int (nI i)), (2, .ref (cb + 346)), (1, .ref cb), (0, .ref b)]) (hi : i + 6 ≤ L) (hL : L ≤ 3073) (hk : k < 6) (hnk : Int32.ofInt nk = nI k)
    (d0 : decode code pc = .ok (.aload_n 0, 1)) (d1 : decode code (pc + 1) = .ok (.iload_n 3, 1)) (d2 : decode code (pc + 1 + 1) = .ok (.iconst nk, 1)) (d3 : decode code (pc + 1 + 1 + 1) = .ok (.iadd, 1)) (d4 : decode code (pc + 1 + 1 + 1 + 1) = .ok (.iaload, 1))
    (kk : W p l e room_1 s m args below meth c H locs cells slots Q (F0 m (pc + 1 + 1 + 1 + 1 + 1) ls (.int (xs (i + k)) :: rest))) : W p l e room_1 s m args below meth c H locs cells slots Q (F0 m pc ls rest) := by
  obtain ⟨hx, hb, -, -, -, -, hX, hbl, hcb⟩ := hC
  refine lv_aload_n hx hb d0 rfl (lv_at hl 3 rfl) ?_
  refine lv_iload_n hx hb d1 rfl (lv_at hl 0 rfl) ?_
  refine lv_iconst hx hb d2 hnk ?_
  refine lv_iadd hx hb d3 ?_
  rw [nI_add]
  refine va_sld hx hb hX hbl (fun h => ?_) hS (fun h8 => h8.elim (fun q => absurd q (nI_pos (by omega))) (fun q => by rw [nI_clamp (by omega)] at q; omega)) d4 ?_
  · have h : cb ≤ b := h
    omega
  · rw [nI_clamp (by omega)]
    exact kk
/-- the law's cell -/
theorem zJ_cell {j : Nat} (hj : j < 10000) (hL : L ≤ 3073) (hC : zJC p s m c args b L xs D ka cb) (hS : va_S (zGA cb) s.heap H locs) (hl : ls.size = 4) (hroom : (rest.map fun v => v.category).sum ≤ 8) (hcs : cells ≤ room_1.cells ∧ slots ≤ room_1.slots) (hdg : decode code pc = .ok (.invokestatic 9, 3))
    (kk : W p l e room_1 s m args below meth c H locs cells slots Q (F0 m (pc + 3) ls (.int (zcel L xs j) :: rest))) : W p l e room_1 s m args below meth c H locs cells slots Q (F0 m pc ls (.int (nI j) :: .ref b :: rest)) := by
  obtain ⟨hx, hb, hml, hts, hown, hK, hX, hbl, hcb⟩ := hC
  have hB : ∀ U : State, U.heap = H → s.WarmedH U.vm → zXW b L xs U := fun U hU hW => by
    refine ⟨va_X.moved hW.alike ?_, ?_⟩
    · rw [hU]
      refine va_X.kept hX (hS.2.1 b hbl (fun h => ?_))
      have h : cb ≤ b := h
      omega
    · rw [hU]
      exact Nat.lt_of_lt_of_le hbl hS.1
  refine vp_callSi (W.runS (As := [.ref b, .int (nI j)]) (rest := rest) ⟨hx, hb, hml, hown, hts⟩ (zj_cell l b L xs hL j hj) (cwS 2 hts (zg_J_cell zk_J_9) rfl rfl rfl ⟨rfl, by decide⟩ ⟨Nat.le_of_ble_eq_true rfl, Nat.le_of_ble_eq_true rfl⟩) ⟨zXW_blind, fun U hU hW => ⟨rfl, hB U hU hW⟩⟩ rfl rfl hl rfl (lv_room hroom) hdg hcs) (fun r hr => ?_)
  subst hr
  exact kk
end ZJ
