def zF (a k : Nat) : Nat → Option Nat := fun j => if j < k then some a else none
theorem zF_0 (a : Nat) : zF a 0 = fun _ => none := by
  funext j
  unfold zF
  rw [if_neg (by omega)]
theorem zF_s (a k : Nat) : va_up (zF a k) k (some a) = zF a (k + 1) := by
  funext j
  by_cases h : j = k
  · subst h
    rw [va_up_self]
    unfold zF
    rw [if_pos (by omega)]
  · rw [va_up_ne _ _ h]
    unfold zF
    by_cases h2 : j < k
    · rw [if_pos h2, if_pos (by omega)]
    · rw [if_neg h2, if_neg (by omega)]
theorem zup_comm {E : Nat → va_E} {x y : Nat} {u v w : va_E} (h : x ≠ y) : va_up (va_up (va_up E x u) y v) x w = va_up (va_up E x w) y v := by
  funext a
  by_cases h1 : a = x
  · subst h1
    rw [va_up_self, va_up_ne _ _ h, va_up_self]
  · rw [va_up_ne _ _ h1]
    by_cases h2 : a = y
    · subst h2
      rw [va_up_self, va_up_self]
    · rw [va_up_ne _ _ h2, va_up_ne _ _ h2, va_up_ne _ _ h1, va_up_ne _ _ h1]
theorem zup_comm2 {E : Nat → va_E} {x y : Nat} {u v w : va_E} (h : x ≠ y) : va_up (va_up (va_up E x u) y v) x w = va_up (va_up E y v) x w := by
  funext a
  by_cases h1 : a = x
  · subst h1
    rw [va_up_self, va_up_self]
  · rw [va_up_ne _ _ h1, va_up_ne _ _ h1]
    by_cases h2 : a = y
    · subst h2
      rw [va_up_self, va_up_self]
    · rw [va_up_ne _ _ h2, va_up_ne _ _ h2, va_up_ne _ _ h1]
set_option maxRecDepth 100000 in
set_option maxHeartbeats 4000000 in
theorem zi_R (l : Launch) (D : va_G) (ka : Nat → ClassId) (b0 n h0 : Nat) (E : Nat → va_E) (h1 : b0 ≤ h0) (h2 : h0 < b0 + n) (hE : E h0 = .inr (zciR, [.null, .int 0, .int 0])) (a : Nat) (fs : List Value) (ha1 : b0 ≤ a) (ha2 : a < b0 + n) (hah : a ≠ h0) (hEa : E a = .inr (zciP, fs)) : Met l zy_R_init (.code zy_R_init zc_R_init 3 none :: zAll) ({ frames := 1, cells := 1, slots := 4, locals := 32 }) (va_Pc [.ref h0, .ref a] (zGV D ka b0 n E)) (va_Qv (fun (_ : Unit) => True) (fun _ t => zGW D ka b0 (n + 1) (va_up (va_up E (b0 + n) (.inl (ka 2, 4, zq (zF a 4)))) h0 (.inr (zciR, [.ref (b0 + n), .int 1, .int 0]))) t) (zGA b0)) 1 4 (zGA b0) := by
  refine z_met (by decide) (Nat.le_of_ble_eq_true rfl) ?_
  intro pg e s m below meth c hx hb hml hr hts hown hlk hnm hB ls hl
  obtain ⟨⟨hP, hsz, hK⟩, hAO⟩ := hB
  have hS : va_S (zGA b0) s.heap s.heap [] := va_S.rf
  have hb0 : b0 ≤ s.heap.size := by omega
  have hl : lv_has ls 3 [(0, .ref h0), (1, .ref a)] := hl
  refine lv_aload_n hx hb zd_R_init_0 rfl (lv_at hl 0 rfl) ?_
  refine W.objInit hx hb hown (hts _ zk_R_3) (hts _ zobj_i) (hts _ zobj_c) rfl (by rw [hml]; exact hl.1) rfl zd_R_init_1 (Nat.le_of_ble_eq_true rfl) (Nat.le_of_ble_eq_true rfl) ?_
  refine W.eq (g2 := F0 m 4 ls []) rfl ?_
  refine lv_aload_n hx hb zd_R_init_4 rfl (lv_at hl 0 rfl) ?_
  refine lv_iconst (v := 4) hx hb zd_R_init_5 (by decide) ?_
  refine zg_newq 2 (C := "SpanBoard$Pair") (n := n) (N := 4) rfl hx hb hts hown zcl_R_9 hAO.2.1 hK hP hS hb0 (by omega) (by decide) (by decide) (Nat.le_of_ble_eq_true rfl) (Nat.le_of_ble_eq_true rfl) zd_R_init_6 (fun H hP hS => ?_)
  rw [← zF_0 a] at hP
  have hE1 : (va_up E (b0 + n) (.inl (ka 2, 4, zq (zF a 0)))) h0 = .inr (zciR, [.null, .int 0, .int 0]) := by rw [va_up_ne _ _ (by omega)]; exact hE
  refine zr_putF (ty := (.array (.object "SpanBoard$Pair"))) hx hb hts zin_R zt_R zto_R znm_R hown hK hP (zG_D b0 (n + 1) _) hS (zGL_in h1 (by omega)) hE1 rfl 0 (by decide) (zl_R_11 hts) rfl rfl hnm rfl (by decide +kernel) rfl rfl (Nat.le_of_ble_eq_true rfl) zd_R_init_9 (fun H locs hP hS => ?_)
  have hP : zGP D b0 (n + 1) (va_up (va_up E (b0 + n) (.inl (ka 2, 4, zq (zF a 0)))) h0 (.inr (zciR, [.ref (b0 + n), .int 0, .int 0]))) H := zC_re rfl hP
  refine lv_aload_n hx hb zd_R_init_12 rfl (lv_at hl 0 rfl) ?_
  refine lv_iconst (v := 1) hx hb zd_R_init_13 (by decide) ?_
  refine zr_put (ty := .boolean) hx hb hts zin_R zt_R zto_R znm_R hown hK hP (zG_D b0 (n + 1) _) hS (zGL_in h1 (by omega)) (va_up_self _ _ _) rfl 1 (by decide) (zl_R_17 hts) rfl rfl (by decide +kernel) rfl rfl (Nat.le_of_ble_eq_true rfl) zd_R_init_14 (fun H locs hP hS => ?_)
  have hP : zGP D b0 (n + 1) (va_up (va_up E (b0 + n) (.inl (ka 2, 4, zq (zF a 0)))) h0 (.inr (zciR, [.ref (b0 + n), .int 1, .int 0]))) H := zC_re (bx_uu (va_up E (b0 + n) (.inl (ka 2, 4, zq (zF a 0)))) h0 _ _) hP
  refine lv_iconst (v := 0) hx hb zd_R_init_17 (by decide) ?_
  refine lv_istore_n hx hb zd_R_init_18 rfl hl (by decide) rfl (fun ls hl => ?_)
  have hl : lv_has ls 3 [(2, .int 0), (0, .ref h0), (1, .ref a)] := hl
  have L : ∀ (j k : Nat), k + j = 4 → ∀ (H : Heap) (locs : List Loc) (ls : Array Slot), lv_has ls 3 [(0, .ref h0), (1, .ref a), (2, .int (nI k))] → zGP D b0 (n + 1) (va_up (va_up E (b0 + n) (.inl (ka 2, 4, zq (zF a k)))) h0 (.inr (zciR, [.ref (b0 + n), .int 1, .int 0]))) H → va_S (zGA b0) s.heap H locs → W pg l e ({ frames := 1, cells := 1, slots := 4, locals := 32 }) s m (List.toArray [.ref h0, .ref a]) below meth c H locs (0 + 1) (0 + 4) (MQ below (va_Qv (fun (_ : Unit) => True) (fun _ t => zGW D ka b0 (n + 1) (va_up (va_up E (b0 + n) (.inl (ka 2, 4, zq (zF a 4)))) h0 (.inr (zciR, [.ref (b0 + n), .int 1, .int 0]))) t) (zGA b0)) (List.toArray [.ref h0, .ref a]) s (0 + 1) (0 + 4) (zGA b0)) (F0 m 19 ls []) := by
    intro j
    induction j with
    | zero =>
      intro k hk H locs ls hl hP hS
      have hk : k = 4 := by omega
      subst hk
      refine lv_iload_n hx hb zd_R_init_19 rfl (lv_at hl 2 rfl) ?_
      refine lv_iconst (v := 4) hx hb zd_R_init_20 (by decide) ?_
      refine lv_icmp_ge (tgt := 37) hx hb zd_R_init_21 (by decide) (fun h9 => ?_) (fun h9 => absurd (by decide) h9)
      refine zG_size (b0 := b0) (n := (n + 1)) (by omega) hP hS (by omega) (fun hz => ?_)
      exact zK_vret hx hb hr hlk hS (zG_U hK hP hS hz) zd_R_init_37
    | succ j ih =>
      intro k hk H locs ls hl hP hS
      refine lv_iload_n hx hb zd_R_init_19 rfl (lv_at hl 2 rfl) ?_
      refine lv_iconst (v := 4) hx hb zd_R_init_20 (by decide) ?_
      refine lv_icmp_ge (tgt := 37) hx hb zd_R_init_21 (by decide) (fun h9 => absurd h9 (nI_ge (b := 4) (by omega) (by decide))) (fun h9 => ?_)
      refine lv_aload_n hx hb zd_R_init_24 rfl (lv_at hl 0 rfl) ?_
      refine zr_get (v := .ref (b0 + n)) hx hb hts zin_R hown hK hP (zGL_in h1 (by omega)) (va_up_self _ _ _) rfl 0 (by decide) (zl_R_11 hts) rfl rfl zd_R_init_25 ?_
      refine lv_iload_n hx hb zd_R_init_28 rfl (lv_at hl 2 rfl) ?_
      refine lv_aload_n hx hb zd_R_init_29 rfl (lv_at hl 1 rfl) ?_
      have hA9 : (va_up (va_up E (b0 + n) (.inl (ka 2, 4, zq (zF a k)))) h0 (.inr (zciR, [.ref (b0 + n), .int 1, .int 0]))) (b0 + n) = .inl (ka 2, 4, zq (zF a k)) := by rw [va_up_ne _ _ (by omega), va_up_self]
      have hV9 : (va_up (va_up E (b0 + n) (.inl (ka 2, 4, zq (zF a k)))) h0 (.inr (zciR, [.ref (b0 + n), .int 1, .int 0]))) a = .inr (zciP, fs) := by rw [va_up_ne _ _ hah, va_up_ne _ _ (by omega)]; exact hEa
      refine zr_aast (r := (zN_P, zT_P, 3)) hx hb hK hP (zG_D b0 (n + 1) _) hS (zGL_in (by omega) (by omega)) 2 zciP hA9 rfl (zGL_in ha1 (by omega)) hV9 rfl (j := k) rfl (by omega) (by decide) zd_R_init_30 (fun H locs hP hS => ?_)
      rw [zF_s] at hP
      have hP : zGP D b0 (n + 1) (va_up (va_up E (b0 + n) (.inl (ka 2, 4, zq (zF a (k + 1))))) h0 (.inr (zciR, [.ref (b0 + n), .int 1, .int 0]))) H := zC_re (zup_comm (by omega)) hP
      refine lv_iinc (v := nI (k + 1)) (k := 2) hx hb zd_R_init_31 hl rfl (nI_1 _) (by decide) rfl (fun ls hl => ?_)
      have hl : lv_has ls 3 [(2, .int (nI (k + 1))), (0, .ref h0), (1, .ref a)] := hl
      refine lv_goto (tgt := 19) hx hb zd_R_init_34 (by decide) ?_
      exact ih (k + 1) (by omega) H locs ls (lv_sub hl [1, 2, 0] rfl) hP hS
  exact L 4 0 (by omega) _ _ _ (lv_sub hl [1, 2, 0] rfl) hP hS
set_option maxRecDepth 100000 in
set_option maxHeartbeats 4000000 in
theorem zi_D (l : Launch) (D : va_G) (ka : Nat → ClassId) (b0 n h0 : Nat) (E : Nat → va_E) (h1 : b0 ≤ h0) (h2 : h0 < b0 + n) (hE : E h0 = (.inr (zciD, [.null, .null, .int 0, .int 0, .int 0, .int 0, .int 0, .int 0, .null]))) (a : Nat) (fs : List Value) (ha1 : b0 ≤ a) (ha2 : a < b0 + n) (hah : a ≠ h0) (hEa : E a = .inr (zciP, fs)) : Met l zy_D_init (.code zy_D_init zc_D_init 3 none :: zAll) ({ frames := 1, cells := 2, slots := 13, locals := 32 }) (va_Pc [.ref h0, .ref a] (zGV D ka b0 n E)) (va_Qv (fun (_ : Unit) => True) (fun _ t => zGW D ka b0 (n + 2) (va_up (va_up (va_up E (b0 + n) (.inl (ka 2, 9, zq (fun _ => none)))) (b0 + (n + 1)) (.inl (ka 2, 4, zq (zF a 4)))) h0 (.inr (zciD, [.ref (b0 + n), .ref (b0 + (n + 1)), .int 0, .int 0, .int 0, .int 0, .int 0, .int 0, .null]))) t) (zGA b0)) 2 13 (zGA b0) := by
  refine z_met (by decide) (Nat.le_of_ble_eq_true rfl) ?_
  intro pg e s m below meth c hx hb hml hr hts hown hlk hnm hB ls hl
  obtain ⟨⟨hP, hsz, hK⟩, hAO⟩ := hB
  have hS : va_S (zGA b0) s.heap s.heap [] := va_S.rf
  have hb0 : b0 ≤ s.heap.size := by omega
  have hl : lv_has ls 3 [(0, .ref h0), (1, .ref a)] := hl
  refine lv_aload_n hx hb zd_D_init_0 rfl (lv_at hl 0 rfl) ?_
  refine W.objInit hx hb hown (hts _ zk_D_3) (hts _ zobj_i) (hts _ zobj_c) rfl (by rw [hml]; exact hl.1) rfl zd_D_init_1 (Nat.le_of_ble_eq_true rfl) (Nat.le_of_ble_eq_true rfl) ?_
  refine W.eq (g2 := F0 m 4 ls []) rfl ?_
  refine lv_aload_n hx hb zd_D_init_4 rfl (lv_at hl 0 rfl) ?_
  refine lv_bipush (v := 9) hx hb zd_D_init_5 (by decide) ?_
  refine zg_newq 2 (C := "SpanBoard$Pair") (n := n) (N := 9) rfl hx hb hts hown zcl_D_9 hAO.2.1 hK hP hS hb0 (by omega) (by decide) (by decide) (Nat.le_of_ble_eq_true rfl) (Nat.le_of_ble_eq_true rfl) zd_D_init_7 (fun H hP hS => ?_)
  have hE1 : (va_up E (b0 + n) (.inl (ka 2, 9, zq (fun _ => none)))) h0 = (.inr (zciD, [.null, .null, .int 0, .int 0, .int 0, .int 0, .int 0, .int 0, .null])) := by rw [va_up_ne _ _ (by omega)]; exact hE
  refine zr_putF (ty := (.array (.object "SpanBoard$Pair"))) hx hb hts zin_D zt_D zto_D znm_D hown hK hP (zG_D b0 (n + 1) _) hS (zGL_in h1 (by omega)) hE1 rfl 0 (by decide) (zl_D_11 hts) rfl rfl hnm rfl (by decide +kernel) rfl rfl (Nat.le_of_ble_eq_true rfl) zd_D_init_10 (fun H locs hP hS => ?_)
  have hP : zGP D b0 (n + 1) (va_up (va_up E (b0 + n) (.inl (ka 2, 9, zq (fun _ => none)))) h0 (.inr (zciD, [.ref (b0 + n), .null, .int 0, .int 0, .int 0, .int 0, .int 0, .int 0, .null]))) H := zC_re rfl hP
  refine lv_aload_n hx hb zd_D_init_13 rfl (lv_at hl 0 rfl) ?_
  refine lv_iconst (v := 4) hx hb zd_D_init_14 (by decide) ?_
  refine zg_newq 2 (C := "SpanBoard$Pair") (n := n + 1) (N := 4) rfl hx hb hts hown zcl_D_9 hAO.2.1 hK hP hS hb0 (by omega) (by decide) (by decide) (Nat.le_of_ble_eq_true rfl) (Nat.le_of_ble_eq_true rfl) zd_D_init_15 (fun H hP hS => ?_)
  rw [← zF_0 a] at hP
  have hE2 : (va_up (va_up (va_up E (b0 + n) (.inl (ka 2, 9, zq (fun _ => none)))) h0 (.inr (zciD, [.ref (b0 + n), .null, .int 0, .int 0, .int 0, .int 0, .int 0, .int 0, .null]))) (b0 + (n + 1)) (.inl (ka 2, 4, zq (zF a 0)))) h0 = (.inr (zciD, [.ref (b0 + n), .null, .int 0, .int 0, .int 0, .int 0, .int 0, .int 0, .null])) := by rw [va_up_ne _ _ (by omega), va_up_self]
  refine zr_putF (ty := (.array (.object "SpanBoard$Pair"))) hx hb hts zin_D zt_D zto_D znm_D hown hK hP (zG_D b0 (n + 2) _) hS (zGL_in h1 (by omega)) hE2 rfl 1 (by decide) (zl_D_17 hts) rfl rfl hnm rfl (by decide +kernel) rfl rfl (Nat.le_of_ble_eq_true rfl) zd_D_init_18 (fun H locs hP hS => ?_)
  have hP : zGP D b0 (n + 2) (va_up (va_up (va_up E (b0 + n) (.inl (ka 2, 9, zq (fun _ => none)))) (b0 + (n + 1)) (.inl (ka 2, 4, zq (zF a 0)))) h0 (.inr (zciD, [.ref (b0 + n), .ref (b0 + (n + 1)), .int 0, .int 0, .int 0, .int 0, .int 0, .int 0, .null]))) H := zC_re (zup_comm2 (by omega)) hP
  refine lv_aload_n hx hb zd_D_init_21 rfl (lv_at hl 0 rfl) ?_
  refine lv_iconst (v := 0) hx hb zd_D_init_22 (by decide) ?_
  refine zr_put (ty := .int) hx hb hts zin_D zt_D zto_D znm_D hown hK hP (zG_D b0 (n + 2) _) hS (zGL_in h1 (by omega)) (va_up_self _ _ _) rfl 3 (by decide) (zl_D_20 hts) rfl rfl (by decide +kernel) rfl rfl (Nat.le_of_ble_eq_true rfl) zd_D_init_23 (fun H locs hP hS => ?_)
  have hP : zGP D b0 (n + 2) (va_up (va_up (va_up E (b0 + n) (.inl (ka 2, 9, zq (fun _ => none)))) (b0 + (n + 1)) (.inl (ka 2, 4, zq (zF a 0)))) h0 (.inr (zciD, [.ref (b0 + n), .ref (b0 + (n + 1)), .int 0, .int 0, .int 0, .int 0, .int 0, .int 0, .null]))) H := zC_re (bx_uu _ h0 _ _) hP
  refine lv_iconst (v := 0) hx hb zd_D_init_26 (by decide) ?_
  refine lv_istore_n hx hb zd_D_init_27 rfl hl (by decide) rfl (fun ls hl => ?_)
  have hl : lv_has ls 3 [(2, .int 0), (0, .ref h0), (1, .ref a)] := hl
  have L : ∀ (j k : Nat), k + j = 4 → ∀ (H : Heap) (locs : List Loc) (ls : Array Slot), lv_has ls 3 [(0, .ref h0), (1, .ref a), (2, .int (nI k))] → zGP D b0 (n + 2) (va_up (va_up (va_up E (b0 + n) (.inl (ka 2, 9, zq (fun _ => none)))) (b0 + (n + 1)) (.inl (ka 2, 4, zq (zF a k)))) h0 (.inr (zciD, [.ref (b0 + n), .ref (b0 + (n + 1)), .int 0, .int 0, .int 0, .int 0, .int 0, .int 0, .null]))) H → va_S (zGA b0) s.heap H locs → W pg l e ({ frames := 1, cells := 2, slots := 13, locals := 32 }) s m (List.toArray [.ref h0, .ref a]) below meth c H locs (0 + 1 + 1) (0 + 9 + 4) (MQ below (va_Qv (fun (_ : Unit) => True) (fun _ t => zGW D ka b0 (n + 2) (va_up (va_up (va_up E (b0 + n) (.inl (ka 2, 9, zq (fun _ => none)))) (b0 + (n + 1)) (.inl (ka 2, 4, zq (zF a 4)))) h0 (.inr (zciD, [.ref (b0 + n), .ref (b0 + (n + 1)), .int 0, .int 0, .int 0, .int 0, .int 0, .int 0, .null]))) t) (zGA b0)) (List.toArray [.ref h0, .ref a]) s (0 + 1 + 1) (0 + 9 + 4) (zGA b0)) (F0 m 28 ls []) := by
    intro j
    induction j with
    | zero =>
      intro k hk H locs ls hl hP hS
      have hk : k = 4 := by omega
      subst hk
      refine lv_iload_n hx hb zd_D_init_28 rfl (lv_at hl 2 rfl) ?_
      refine lv_iconst (v := 4) hx hb zd_D_init_29 (by decide) ?_
      refine lv_icmp_ge (tgt := 46) hx hb zd_D_init_30 (by decide) (fun h9 => ?_) (fun h9 => absurd (by decide) h9)
      refine zG_size (b0 := b0) (n := (n + 2)) (by omega) hP hS (by omega) (fun hz => ?_)
      exact zK_vret hx hb hr hlk hS (zG_U hK hP hS hz) zd_D_init_46
    | succ j ih =>
      intro k hk H locs ls hl hP hS
      refine lv_iload_n hx hb zd_D_init_28 rfl (lv_at hl 2 rfl) ?_
      refine lv_iconst (v := 4) hx hb zd_D_init_29 (by decide) ?_
      refine lv_icmp_ge (tgt := 46) hx hb zd_D_init_30 (by decide) (fun h9 => absurd h9 (nI_ge (b := 4) (by omega) (by decide))) (fun h9 => ?_)
      refine lv_aload_n hx hb zd_D_init_33 rfl (lv_at hl 0 rfl) ?_
      refine zr_get (v := .ref (b0 + (n + 1))) hx hb hts zin_D hown hK hP (zGL_in h1 (by omega)) (va_up_self _ _ _) rfl 1 (by decide) (zl_D_17 hts) rfl rfl zd_D_init_34 ?_
      refine lv_iload_n hx hb zd_D_init_37 rfl (lv_at hl 2 rfl) ?_
      refine lv_aload_n hx hb zd_D_init_38 rfl (lv_at hl 1 rfl) ?_
      have hA9 : (va_up (va_up (va_up E (b0 + n) (.inl (ka 2, 9, zq (fun _ => none)))) (b0 + (n + 1)) (.inl (ka 2, 4, zq (zF a k)))) h0 (.inr (zciD, [.ref (b0 + n), .ref (b0 + (n + 1)), .int 0, .int 0, .int 0, .int 0, .int 0, .int 0, .null]))) (b0 + (n + 1)) = .inl (ka 2, 4, zq (zF a k)) := by rw [va_up_ne _ _ (by omega), va_up_self]
      have hV9 : (va_up (va_up (va_up E (b0 + n) (.inl (ka 2, 9, zq (fun _ => none)))) (b0 + (n + 1)) (.inl (ka 2, 4, zq (zF a k)))) h0 (.inr (zciD, [.ref (b0 + n), .ref (b0 + (n + 1)), .int 0, .int 0, .int 0, .int 0, .int 0, .int 0, .null]))) a = .inr (zciP, fs) := by rw [va_up_ne _ _ hah, va_up_ne _ _ (by omega)]; rw [va_up_ne _ _ (by omega)]; exact hEa
      refine zr_aast (r := (zN_P, zT_P, 3)) hx hb hK hP (zG_D b0 (n + 2) _) hS (zGL_in (by omega) (by omega)) 2 zciP hA9 rfl (zGL_in ha1 (by omega)) hV9 rfl (j := k) rfl (by omega) (by decide) zd_D_init_39 (fun H locs hP hS => ?_)
      rw [zF_s] at hP
      have hP : zGP D b0 (n + 2) (va_up (va_up (va_up E (b0 + n) (.inl (ka 2, 9, zq (fun _ => none)))) (b0 + (n + 1)) (.inl (ka 2, 4, zq (zF a (k + 1))))) h0 (.inr (zciD, [.ref (b0 + n), .ref (b0 + (n + 1)), .int 0, .int 0, .int 0, .int 0, .int 0, .int 0, .null]))) H := zC_re (zup_comm (by omega)) hP
      refine lv_iinc (v := nI (k + 1)) (k := 2) hx hb zd_D_init_40 hl rfl (nI_1 _) (by decide) rfl (fun ls hl => ?_)
      have hl : lv_has ls 3 [(2, .int (nI (k + 1))), (0, .ref h0), (1, .ref a)] := hl
      refine lv_goto (tgt := 28) hx hb zd_D_init_43 (by decide) ?_
      exact ih (k + 1) (by omega) H locs ls (lv_sub hl [1, 2, 0] rfl) hP hS
  exact L 4 0 (by omega) _ _ _ (lv_sub hl [1, 2, 0] rfl) hP hS
