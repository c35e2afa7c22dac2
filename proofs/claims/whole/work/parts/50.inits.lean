set_option maxRecDepth 100000 in
set_option maxHeartbeats 4000000 in
theorem zi_L (l : Launch) (D : va_G) (ka : Nat → ClassId) (b0 n h0 : Nat) (E : Nat → va_E) (h1 : b0 ≤ h0) (h2 : h0 < b0 + n)  : Met l zy_L_init (.code zy_L_init zc_L_init 1 none :: zAll) ({ frames := 1, cells := 0, slots := 0, locals := 32 }) (va_Pc [.ref h0] (zGV D ka b0 n E)) (va_Qv (fun (_ : Unit) => True) (fun _ t => zGW D ka b0 n E t) (zGA b0)) 0 0 (zGA b0) := by
  refine z_met (by decide) (Nat.le_of_ble_eq_true rfl) ?_
  intro pg e s m below meth c hx hb hml hr hts hown hlk hnm hB ls hl
  obtain ⟨⟨hP, hsz, hK⟩, hAO⟩ := hB
  have hS : va_S (zGA b0) s.heap s.heap [] := va_S.rf
  have hb0 : b0 ≤ s.heap.size := by omega
  have hl : lv_has ls 1 [(0, .ref h0)] := hl
  refine lv_aload_n hx hb zd_L_init_0 rfl (lv_at hl 0 rfl) ?_
  refine W.objInit hx hb hown (hts _ zk_L_1) (hts _ zobj_i) (hts _ zobj_c) rfl (by rw [hml]; exact hl.1) rfl zd_L_init_1 (Nat.le_of_ble_eq_true rfl) (Nat.le_of_ble_eq_true rfl) ?_
  refine W.eq (g2 := F0 m 4 ls []) rfl ?_
  refine zG_size (b0 := b0) (n := n) (by omega) hP hS (by omega) (fun hz => ?_)
  exact zK_vret hx hb hr hlk hS (zG_U hK hP hS hz) zd_L_init_4
set_option maxRecDepth 100000 in
set_option maxHeartbeats 4000000 in
theorem zi_P (l : Launch) (D : va_G) (ka : Nat → ClassId) (b0 n h0 : Nat) (E : Nat → va_E) (h1 : b0 ≤ h0) (h2 : h0 < b0 + n) (hE : E h0 = .inr (zciP, [.int 0, .int 0, .int 0])) (x y z : Int32) : Met l zy_P_init (.code zy_P_init zc_P_init 4 none :: zAll) ({ frames := 1, cells := 0, slots := 0, locals := 32 }) (va_Pc [.ref h0, .int x, .int y, .int z] (zGV D ka b0 n E)) (va_Qv (fun (_ : Unit) => True) (fun _ t => zGW D ka b0 n (va_up E h0 (.inr (zciP, [.int x, .int y, .int z]))) t) (zGA b0)) 0 0 (zGA b0) := by
  refine z_met (by decide) (Nat.le_of_ble_eq_true rfl) ?_
  intro pg e s m below meth c hx hb hml hr hts hown hlk hnm hB ls hl
  obtain ⟨⟨hP, hsz, hK⟩, hAO⟩ := hB
  have hS : va_S (zGA b0) s.heap s.heap [] := va_S.rf
  have hb0 : b0 ≤ s.heap.size := by omega
  have hl : lv_has ls 4 [(0, .ref h0), (1, .int x), (2, .int y), (3, .int z)] := hl
  refine lv_aload_n hx hb zd_P_init_0 rfl (lv_at hl 0 rfl) ?_
  refine W.objInit hx hb hown (hts _ zk_P_3) (hts _ zobj_i) (hts _ zobj_c) rfl (by rw [hml]; exact hl.1) rfl zd_P_init_1 (Nat.le_of_ble_eq_true rfl) (Nat.le_of_ble_eq_true rfl) ?_
  refine W.eq (g2 := F0 m 4 ls []) rfl ?_
  refine lv_aload_n hx hb zd_P_init_4 rfl (lv_at hl 0 rfl) ?_
  refine lv_iload_n hx hb zd_P_init_5 rfl (lv_at hl 1 rfl) ?_
  refine zr_putF (ty := .int) hx hb hts zin_P zt_P zto_P znm_P hown hK hP (zG_D b0 n _) hS (zGL_in h1 (by omega)) hE rfl 0 (by decide) (zl_P_9 hts) rfl rfl hnm rfl (by decide +kernel) rfl rfl (Nat.le_of_ble_eq_true rfl) zd_P_init_6 (fun H locs hP hS => ?_)
  have hP : zGP D b0 n (va_up E h0 (.inr (zciP, [.int x, .int 0, .int 0]))) H := zC_re rfl hP
  refine lv_aload_n hx hb zd_P_init_9 rfl (lv_at hl 0 rfl) ?_
  refine lv_iload_n hx hb zd_P_init_10 rfl (lv_at hl 2 rfl) ?_
  refine zr_putF (ty := .int) hx hb hts zin_P zt_P zto_P znm_P hown hK hP (zG_D b0 n _) hS (zGL_in h1 (by omega)) (va_up_self _ _ _) rfl 1 (by decide) (zl_P_15 hts) rfl rfl hnm rfl (by decide +kernel) rfl rfl (Nat.le_of_ble_eq_true rfl) zd_P_init_11 (fun H locs hP hS => ?_)
  have hP : zGP D b0 n (va_up E h0 (.inr (zciP, [.int x, .int y, .int 0]))) H := zC_re (bx_uu E h0 _ _) hP
  refine lv_aload_n hx hb zd_P_init_14 rfl (lv_at hl 0 rfl) ?_
  refine lv_iload_n hx hb zd_P_init_15 rfl (lv_at hl 3 rfl) ?_
  refine zr_putF (ty := .int) hx hb hts zin_P zt_P zto_P znm_P hown hK hP (zG_D b0 n _) hS (zGL_in h1 (by omega)) (va_up_self _ _ _) rfl 2 (by decide) (zl_P_18 hts) rfl rfl hnm rfl (by decide +kernel) rfl rfl (Nat.le_of_ble_eq_true rfl) zd_P_init_16 (fun H locs hP hS => ?_)
  have hP : zGP D b0 n (va_up E h0 (.inr (zciP, [.int x, .int y, .int z]))) H := zC_re (bx_uu E h0 _ _) hP
  refine zG_size (b0 := b0) (n := n) (by omega) hP hS (by omega) (fun hz => ?_)
  exact zK_vret hx hb hr hlk hS (zG_U hK hP hS hz) zd_P_init_19
set_option maxRecDepth 100000 in
set_option maxHeartbeats 4000000 in
theorem zi_W (l : Launch) (D : va_G) (ka : Nat → ClassId) (b0 n h0 : Nat) (E : Nat → va_E) (h1 : b0 ≤ h0) (h2 : h0 < b0 + n) (hE : E h0 = .inr (zciW, [.null, .int 0, .null, .int 0, .int 0])) (a : Nat) : Met l zy_W_init (.code zy_W_init zc_W_init 2 none :: zAll) ({ frames := 1, cells := 1, slots := 9, locals := 32 }) (va_Pc [.ref h0, .ref a] (zGV D ka b0 n E)) (va_Qv (fun (_ : Unit) => True) (fun _ t => zGW D ka b0 (n + 1) (va_up (va_up E (b0 + n) (.inl (ka 1, 9, .inl (fun _ => 0)))) h0 (.inr (zciW, [.ref (b0 + n), .int 0, .ref a, .int 0, .int 0]))) t) (zGA b0)) 1 9 (zGA b0) := by
  refine z_met (by decide) (Nat.le_of_ble_eq_true rfl) ?_
  intro pg e s m below meth c hx hb hml hr hts hown hlk hnm hB ls hl
  obtain ⟨⟨hP, hsz, hK⟩, hAO⟩ := hB
  have hS : va_S (zGA b0) s.heap s.heap [] := va_S.rf
  have hb0 : b0 ≤ s.heap.size := by omega
  have hl : lv_has ls 2 [(0, .ref h0), (1, .ref a)] := hl
  refine lv_aload_n hx hb zd_W_init_0 rfl (lv_at hl 0 rfl) ?_
  refine W.objInit hx hb hown (hts _ zk_W_3) (hts _ zobj_i) (hts _ zobj_c) rfl (by rw [hml]; exact hl.1) rfl zd_W_init_1 (Nat.le_of_ble_eq_true rfl) (Nat.le_of_ble_eq_true rfl) ?_
  refine W.eq (g2 := F0 m 4 ls []) rfl ?_
  refine lv_aload_n hx hb zd_W_init_4 rfl (lv_at hl 0 rfl) ?_
  refine lv_bipush (v := 9) hx hb zd_W_init_5 (by decide) ?_
  refine zg_newa 1 (atype := .boolean) (n := n) (N := 9) rfl rfl rfl hx hb hts zac_boolean hK hP hS hb0 (by omega) (by decide) (by decide) (by decide) (Nat.le_of_ble_eq_true rfl) (Nat.le_of_ble_eq_true rfl) zd_W_init_7 (fun H hP hS => ?_)
  have hE1 : (va_up E (b0 + n) (.inl (ka 1, 9, .inl (fun _ => 0)))) h0 = .inr (zciW, [.null, .int 0, .null, .int 0, .int 0]) := by rw [va_up_ne _ _ (by omega)]; exact hE
  refine zr_putF (ty := (.array .boolean)) hx hb hts zin_W zt_W zto_W znm_W hown hK hP (zG_D b0 (n + 1) _) hS (zGL_in h1 (by omega)) hE1 rfl 0 (by decide) (zl_W_9 hts) rfl rfl hnm rfl (by decide +kernel) rfl rfl (Nat.le_of_ble_eq_true rfl) zd_W_init_9 (fun H locs hP hS => ?_)
  have hP : zGP D b0 (n + 1) (va_up (va_up E (b0 + n) (.inl (ka 1, 9, .inl (fun _ => 0)))) h0 (.inr (zciW, [.ref (b0 + n), .int 0, .null, .int 0, .int 0]))) H := zC_re rfl hP
  refine lv_aload_n hx hb zd_W_init_12 rfl (lv_at hl 0 rfl) ?_
  refine lv_aload_n hx hb zd_W_init_13 rfl (lv_at hl 1 rfl) ?_
  refine zr_put (ty := (.object "SpanBoard$Pair")) hx hb hts zin_W zt_W zto_W znm_W hown hK hP (zG_D b0 (n + 1) _) hS (zGL_in h1 (by omega)) (va_up_self _ _ _) rfl 2 (by decide) (zl_W_15 hts) rfl rfl (by decide +kernel) rfl rfl (Nat.le_of_ble_eq_true rfl) zd_W_init_14 (fun H locs hP hS => ?_)
  have hP : zGP D b0 (n + 1) (va_up (va_up E (b0 + n) (.inl (ka 1, 9, .inl (fun _ => 0)))) h0 (.inr (zciW, [.ref (b0 + n), .int 0, .ref a, .int 0, .int 0]))) H := zC_re (bx_uu (va_up E (b0 + n) (.inl (ka 1, 9, .inl (fun _ => 0)))) h0 _ _) hP
  refine zG_size (b0 := b0) (n := (n + 1)) (by omega) hP hS (by omega) (fun hz => ?_)
  exact zK_vret hx hb hr hlk hS (zG_U hK hP hS hz) zd_W_init_17
