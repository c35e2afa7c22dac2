section ZPO
variable {p : Program} {l : Launch} {e : Env} {R : Room} {s : State} {m : MethodId} {args : Array Value} {below : List Frame} {meth : Method} {c : Code} {H : Heap} {locs : List Loc} {cells slots : Nat} {Q : State → Prop}
variable {cc bb : ByteArray} {pc n nA nL index mc ms b cb : Nat} {ls : Array Slot} {As rest st0 : List Value} {H0 : Heap} {own host : String} {y : MethodName} {rm : Room} {A0 A1 : Nat → Prop} {B B' : State → Prop}
theorem zK_callIN (hbl : FrameBlind (va_Pc (.ref b :: As) B)) (hM : Met l y (.code y bb n none :: zAll) rm (va_Pc (.ref b :: As) B) (va_Qv (fun (_ : Unit) => True) (fun _ t => B' t) A1) mc ms A1) (h0 : Cond.code y bb n none ∈ zAll) (hini : Cond.initialized y.cls ∈ zAll) (hin : Cond.instanceMethod y ∈ zAll) (hlk : va_Nw (.methodLinkNest own index y host) s) (hy1 : y.name = "<init>") (hd : zNoMH y nA) (hrm : rm.cells = mc ∧ rm.slots = ms) (hR : rm.frames + 1 ≤ R.frames ∧ 8 + (n + 11) + rm.locals ≤ R.locals)
    (hx : p.tables.exec = Jvm.exec) (hb : c.code = cc) (hml : c.maxLocals = nL) (hts : ∀ w ∈ zAll, w.before args s = true) (hown : s.vm.findClass own = some m.cls) (hB : ∀ U : State, U.heap = H → s.WarmedH U.vm → B U) (hS : va_S A0 H0 H locs) (hA0 : ∀ q, A1 q → A0 q) (hl : ls.size = nL) (hA : As.length = nA) (hst : st0 = As.reverse ++ .ref b :: rest) (hroom : (rest.map fun v => v.category).sum ≤ 8) (hcs : cells + mc ≤ R.cells ∧ slots + ms ≤ R.slots) (hdg : decode cc pc = .ok (.invokespecial index, 3))
    (kk : ∀ (t : State) (locs1 : List Loc), s.vm.Alike t.vm → B' t → va_S A0 H0 t.heap locs1 → H.size ≤ t.heap.size → (∀ q : Nat, q < H.size → ¬ A1 q → t.heap[q]? = H[q]?) → W p l e R s m args below meth c t.heap locs1 (cells + mc) (slots + ms) Q (F0 m (pc + 3) ls rest)) : W p l e R s m args below meth c H locs cells slots Q (F0 m pc ls st0) := by
  refine va_callv (va_runIN (As := As) (rest := rest) ⟨hx, hb, hml, hown, hts⟩ hM ⟨va_cnB nA hts (z_goodI h0) rfl hrm.1 hrm.2 hlk (hts _ hini) hd hR, hy1, hts _ hin⟩ ⟨hbl, fun U hU hW => ⟨rfl, hB U hU hW⟩⟩ rfl hA hl hst (lv_room hroom) hdg hcs) hS (fun q _ h => hA0 q h) (fun q h => hA0 q h) (fun u t H1 locs1 ht hvm hp hB hz hk hS1 => ?_)
  subst ht
  exact kk t locs1 hvm hB hS1 hz hk
end ZPO
/-- the post after k letters: its row at r, the letters behind it -/
def zPF (r k : Nat) : Nat → Option Nat := fun i => if i < k then some (r + 1 + i) else none
def zLb : va_E := .inr (zciL, [.int 0, .int 0, .int 0, .int 0, .int 0, .null])
def zEO (ka : Nat → ClassId) (E : Nat → va_E) (r h0 k : Nat) : Nat → va_E := fun a => if a = h0 then .inr (zciO, [.ref r, .int 0]) else if a = r then .inl (ka 3, 300, zq (zPF r k)) else if r + 1 ≤ a ∧ a < r + 1 + k then zLb else E a
theorem zPF_0 (r : Nat) : zPF r 0 = fun _ => none := by
  funext j
  unfold zPF
  rw [if_neg (by omega)]
theorem zPF_s (r k : Nat) : va_up (zPF r k) k (some (r + 1 + k)) = zPF r (k + 1) := by
  funext j
  by_cases h : j = k
  · subst h
    rw [va_up_self]
    unfold zPF
    rw [if_pos (by omega)]
  · rw [va_up_ne _ _ h]
    unfold zPF
    by_cases h2 : j < k
    · rw [if_pos h2, if_pos (by omega)]
    · rw [if_neg h2, if_neg (by omega)]
theorem zEO_h (ka : Nat → ClassId) (E : Nat → va_E) (r h0 k : Nat) : zEO ka E r h0 k h0 = .inr (zciO, [.ref r, .int 0]) := if_pos rfl
theorem zEO_r (ka : Nat → ClassId) (E : Nat → va_E) {r h0 : Nat} (k : Nat) (h : r ≠ h0) : zEO ka E r h0 k r = .inl (ka 3, 300, zq (zPF r k)) := by
  unfold zEO
  rw [if_neg h, if_pos rfl]
theorem zEO_0 (ka : Nat → ClassId) (E : Nat → va_E) {r h0 : Nat} (h : r ≠ h0) : va_up (va_up E r (.inl (ka 3, 300, zq (zPF r 0)))) h0 (.inr (zciO, [.ref r, .int 0])) = zEO ka E r h0 0 := by
  funext a
  unfold zEO
  by_cases h1 : a = h0
  · subst h1
    rw [va_up_self, if_pos rfl]
  · rw [va_up_ne _ _ h1, if_neg h1]
    by_cases h2 : a = r
    · subst h2
      rw [va_up_self, if_pos rfl]
    · rw [va_up_ne _ _ h2, if_neg h2, if_neg (by omega)]
theorem zEO_s (ka : Nat → ClassId) (E : Nat → va_E) {r h0 : Nat} (k : Nat) (h : h0 < r) : va_up (va_up (zEO ka E r h0 k) (r + 1 + k) zLb) r (.inl (ka 3, 300, zq (zPF r (k + 1)))) = zEO ka E r h0 (k + 1) := by
  funext a
  by_cases h2 : a = r
  · subst h2
    rw [va_up_self, zEO_r ka E (k + 1) (by omega)]
  · rw [va_up_ne _ _ h2]
    by_cases h1 : a = r + 1 + k
    · subst h1
      rw [va_up_self]
      unfold zEO
      rw [if_neg (by omega), if_neg (by omega), if_pos (by omega)]
    · rw [va_up_ne _ _ h1]
      unfold zEO
      by_cases h3 : a = h0
      · rw [if_pos h3, if_pos h3]
      · rw [if_neg h3, if_neg h3, if_neg h2, if_neg h2]
        by_cases h4 : r + 1 ≤ a ∧ a < r + 1 + k
        · rw [if_pos h4, if_pos (by omega)]
        · rw [if_neg h4, if_neg (by omega)]
set_option maxRecDepth 100000 in
set_option maxHeartbeats 4000000 in
theorem zi_O (l : Launch) (D : va_G) (ka : Nat → ClassId) (b0 n h0 : Nat) (E : Nat → va_E) (h1 : b0 ≤ h0) (h2 : h0 < b0 + n) (hE : E h0 = .inr (zciO, [.null, .int 0])) : Met l zy_O_init (.code zy_O_init zc_O_init 2 none :: zAll) ({ frames := 2, cells := 301, slots := 2100, locals := 64 }) (va_Pc [.ref h0] (zGV D ka b0 n E)) (va_Qv (fun (_ : Unit) => True) (fun _ t => zGW D ka b0 (n + 301) (zEO ka E (b0 + n) h0 300) t) (zGA b0)) 301 2100 (zGA b0) := by
  refine z_met (by decide) (Nat.le_of_ble_eq_true rfl) ?_
  intro pg e s m below meth c hx hb hml hr hts hown hlk hnm hB ls hl
  obtain ⟨⟨hP, hsz, hK⟩, hAO⟩ := hB
  have hS : va_S (zGA b0) s.heap s.heap [] := va_S.rf
  have hb0 : b0 ≤ s.heap.size := by omega
  have hl : lv_has ls 2 [(0, .ref h0)] := hl
  refine lv_aload_n hx hb zd_O_init_0 rfl (lv_at hl 0 rfl) ?_
  refine W.objInit hx hb hown (hts _ zk_O_3) (hts _ zobj_i) (hts _ zobj_c) rfl (by rw [hml]; exact hl.1) rfl zd_O_init_1 (Nat.le_of_ble_eq_true rfl) (Nat.le_of_ble_eq_true rfl) ?_
  refine W.eq (g2 := F0 m 4 ls []) rfl ?_
  refine lv_aload_n hx hb zd_O_init_4 rfl (lv_at hl 0 rfl) ?_
  refine lv_sipush (v := 300) hx hb zd_O_init_5 (by decide) ?_
  refine zg_newq 3 (C := "SpanBoard$Letter") (n := n) (N := 300) rfl hx hb hts hown zcl_O_9 hAO.2.2.2.2.1 hK hP hS hb0 (by omega) (by decide) (by decide) (Nat.le_of_ble_eq_true rfl) (Nat.le_of_ble_eq_true rfl) zd_O_init_8 (fun H hP hS => ?_)
  rw [← zPF_0 (b0 + n)] at hP
  have hE1 : (va_up E (b0 + n) (.inl (ka 3, 300, zq (zPF (b0 + n) 0)))) h0 = .inr (zciO, [.null, .int 0]) := by rw [va_up_ne _ _ (by omega)]; exact hE
  refine zr_putF (ty := (.array (.object "SpanBoard$Letter"))) hx hb hts zin_O zt_O zto_O znm_O hown hK hP (zG_D b0 (n + 1) _) hS (zGL_in h1 (by omega)) hE1 rfl 0 (by decide) (zl_O_11 hts) rfl rfl hnm rfl (by decide +kernel) rfl rfl (Nat.le_of_ble_eq_true rfl) zd_O_init_11 (fun H locs hP hS => ?_)
  have hP : zGP D b0 (n + 1) (zEO ka E (b0 + n) h0 0) H := zC_re (zEO_0 ka E (by omega)) hP
  refine lv_iconst (v := 0) hx hb zd_O_init_14 (by decide) ?_
  refine lv_istore_n hx hb zd_O_init_15 rfl hl (by decide) rfl (fun ls hl => ?_)
  have hl : lv_has ls 2 [(1, .int 0), (0, .ref h0)] := hl
  have L : ∀ (j k cl sl : Nat), k + j = 300 → cl = 1 + k → sl = 300 + 6 * k → ∀ (H : Heap) (locs : List Loc) (ls : Array Slot), lv_has ls 2 [(0, .ref h0), (1, .int (nI k))] → zGP D b0 (n + 1 + k) (zEO ka E (b0 + n) h0 k) H → va_S (zGA b0) s.heap H locs → W pg l e ({ frames := 2, cells := 301, slots := 2100, locals := 64 }) s m (List.toArray [.ref h0]) below meth c H locs cl sl (MQ below (va_Qv (fun (_ : Unit) => True) (fun _ t => zGW D ka b0 (n + 301) (zEO ka E (b0 + n) h0 300) t) (zGA b0)) (List.toArray [.ref h0]) s 301 2100 (zGA b0)) (F0 m 16 ls []) := by
    intro j
    induction j with
    | zero =>
      intro k cl sl hk hcl hsl H locs ls hl hP hS
      have hk : k = 300 := by omega
      subst hk
      have hcl : cl = 301 := by omega
      have hsl : sl = 2100 := by omega
      subst hcl
      subst hsl
      refine lv_iload_n hx hb zd_O_init_16 rfl (lv_at hl 1 rfl) ?_
      refine lv_sipush (v := 300) hx hb zd_O_init_17 (by decide) ?_
      refine lv_icmp_ge (tgt := 42) hx hb zd_O_init_20 (by decide) (fun h9 => ?_) (fun h9 => absurd (by decide) h9)
      have hP : zGP D b0 (n + 301) (zEO ka E (b0 + n) h0 300) H := by
        rw [show n + 301 = n + 1 + 300 by omega]
        exact hP
      refine zG_size (b0 := b0) (n := n + 301) (by omega) hP hS (by omega) (fun hz => ?_)
      exact zK_vret hx hb hr hlk hS (zG_U hK hP hS hz) zd_O_init_42
    | succ j ih =>
      intro k cl sl hk hcl hsl H locs ls hl hP hS
      refine lv_iload_n hx hb zd_O_init_16 rfl (lv_at hl 1 rfl) ?_
      refine lv_sipush (v := 300) hx hb zd_O_init_17 (by decide) ?_
      refine lv_icmp_ge (tgt := 42) hx hb zd_O_init_20 (by decide) (fun h9 => absurd h9 (nI_ge (b := 300) (by omega) (by decide))) (fun h9 => ?_)
      refine lv_aload_n hx hb zd_O_init_23 rfl (lv_at hl 0 rfl) ?_
      refine zr_get (v := .ref (b0 + n)) hx hb hts zin_O hown hK hP (zGL_in h1 (by omega)) (zEO_h ka E (b0 + n) h0 k) rfl 0 (by decide) (zl_O_11 hts) rfl rfl zd_O_init_24 ?_
      refine lv_iload_n hx hb zd_O_init_27 rfl (lv_at hl 1 rfl) ?_
      refine zg_new (ci := zciL) (fs := [.int 0, .int 0, .int 0, .int 0, .int 0, .null]) (C := zN_L) (T := zT_L) (N := 6) (n := n + 1 + k) hx hb hts zin_L zt_L zto_L hown zcl_O_9 zis_L zit_L hK hP hS hb0 (by omega) rfl (fun j hj => by rcases (show j = 0 ∨ j = 1 ∨ j = 2 ∨ j = 3 ∨ j = 4 ∨ j = 5 by omega) with rfl | rfl | rfl | rfl | rfl | rfl <;> rfl) (show cl + 1 ≤ 301 by omega) (show sl + 6 ≤ 2100 by omega) zd_O_init_28 (fun H hP hS => ?_)
      have ha : b0 + (n + 1 + k) = b0 + n + 1 + k := by omega
      rw [ha] at hP ⊢
      have hP : zGP D b0 (n + 1 + k + 1) (va_up (zEO ka E (b0 + n) h0 k) (b0 + n + 1 + k) zLb) H := hP
      refine lv_dup hx hb zd_O_init_31 rfl ?_
      refine zG_size (b0 := b0) (n := n + 1 + k + 1) (by omega) hP hS (by omega) (fun hz => ?_)
      refine zK_callIN (nA := 0) (As := []) (b := b0 + n + 1 + k) (rest := [.ref (b0 + n + 1 + k), .int (nI k), .ref (b0 + n)]) zGV_blind (zi_L l D ka b0 (n + 1 + k + 1) (b0 + n + 1 + k) (va_up (zEO ka E (b0 + n) h0 k) (b0 + n + 1 + k) zLb) (by omega) (by omega)) zh_L_init zit_L zim_L_init hAO.2.2.2.2.2 rfl (by decide) ⟨rfl, rfl⟩ ⟨Nat.le_of_ble_eq_true rfl, Nat.le_of_ble_eq_true rfl⟩ hx hb hml hts hown (fun U hU hW => ⟨zG_U hK hP hS hz U hU hW, zAO_moved hW hAO⟩) hS (fun _ h => h) hl.1 rfl rfl (Nat.le_of_ble_eq_true rfl) ⟨show cl + 1 ≤ 301 by omega, show sl + 6 ≤ 2100 by omega⟩ zd_O_init_32 (fun t locs hvm hB hS _ _ => ?_)
      obtain ⟨hP, -, -⟩ := hB
      have hA9 : va_up (zEO ka E (b0 + n) h0 k) (b0 + n + 1 + k) zLb (b0 + n) = .inl (ka 3, 300, zq (zPF (b0 + n) k)) := by rw [va_up_ne _ _ (by omega)]; exact zEO_r ka E k (by omega)
      refine zr_aast (r := (zN_L, zT_L, 6)) hx hb hK hP (zG_D b0 (n + 1 + k + 1) _) hS (zGL_in (by omega) (by omega)) 3 zciL hA9 rfl (zGL_in (by omega) (by omega)) (va_up_self _ _ _) rfl (j := k) rfl (by omega) (by decide) zd_O_init_35 (fun H locs hP hS => ?_)
      rw [zPF_s] at hP
      have hP : zGP D b0 (n + 1 + (k + 1)) (zEO ka E (b0 + n) h0 (k + 1)) H := zC_re (zEO_s ka E k (by omega)) hP
      refine lv_iinc (v := nI (k + 1)) (k := 1) hx hb zd_O_init_36 hl rfl (nI_1 _) (by decide) rfl (fun ls hl => ?_)
      have hl : lv_has ls 2 [(1, .int (nI (k + 1))), (0, .ref h0)] := hl
      refine lv_goto (tgt := 16) hx hb zd_O_init_39 (by decide) ?_
      exact ih (k + 1) _ _ (by omega) (by omega) (by omega) H locs ls (lv_sub hl [1, 0] rfl) hP hS
  exact L 300 0 _ _ (by omega) rfl rfl _ _ _ (lv_sub hl [1, 0] rfl) hP hS
