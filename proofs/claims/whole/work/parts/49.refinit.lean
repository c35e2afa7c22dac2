-- the reference's constructor
def zRFk (rb k : Nat) (x : Int32) : List Value := .int x :: ((List.range 30).map (fun j => if j < k then Value.ref (rb + (j + 1)) else .null) ++ (.int 0 :: (List.range 8).map (fun j => if 30 + j < k then Value.ref (rb + (31 + j)) else .null)))
def zREk (ka : Nat → ClassId) (rb k : Nat) (x : Int32) (a : Nat) : va_E := if a = rb then .inr (zciM, zRFk rb k x) else if a < rb then .inr (0, []) else .inl (ka (if zbo (a - rb) then 1 else 0), zlen (a - rb), .inl (fun _ => 0))
theorem zREk_o (ka : Nat → ClassId) (rb k : Nat) (x : Int32) : zREk ka rb k x rb = .inr (zciM, zRFk rb k x) := by
  unfold zREk
  rw [if_pos rfl]
theorem zREk_new (ka : Nat → ClassId) (rb k : Nat) (x : Int32) {j : Nat} (h : 0 < j) : va_up (zREk ka rb k x) (rb + j) (.inl (ka (if zbo j then 1 else 0), zlen j, .inl (fun _ => 0))) = zREk ka rb k x := by
  funext a
  by_cases e : a = rb + j
  · subst e
    rw [va_up_self]
    unfold zREk
    rw [if_neg (show ¬ rb + j = rb by omega), if_neg (show ¬ rb + j < rb by omega), Nat.add_sub_cancel_left]
  · rw [va_up_ne _ _ e]
theorem zREk_put (ka : Nat → ClassId) (rb k k' : Nat) (x x' : Int32) {fs : List Value} (h : fs = zRFk rb k' x') : va_up (zREk ka rb k x) rb (.inr (zciM, fs)) = zREk ka rb k' x' := by
  funext a
  by_cases e : a = rb
  · rw [e, va_up_self, zREk_o, h]
  · rw [va_up_ne _ _ e]
    unfold zREk
    rw [if_neg e, if_neg e]
def zM0 (x : Int32) : zM := fun k j => if k = 0 ∧ j = 0 then x else 0
theorem zREk_end (ka : Nat → ClassId) (rb : Nat) (x : Int32) : zREk ka rb 38 x = zRE ka rb (zM0 x) := by
  funext a
  unfold zREk zRE
  split
  · rfl
  · split
    · rfl
    · have : zM0 x (a - rb) = fun _ => 0 := by
        funext j
        unfold zM0
        rw [if_neg (by omega)]
      rw [this]
theorem zGL_R (rb : Nat) : zGL rb 39 = zRL rb := rfl
def zclamp (x : Int32) : Int32 := if 1 ≤ x then (if x ≤ 9 then x else 9) else 1
set_option maxRecDepth 100000 in
set_option maxHeartbeats 4000000 in
theorem zm_init (l : Launch) (D : va_G) (ka : Nat → ClassId) (rb : Nat) (x0 : Int32) : Met l zy_M_init (.code zy_M_init zc_M_init 2 none :: zAll) ({ frames := 1, cells := 38, slots := 2783, locals := 32 }) (va_Pc [.ref rb, .int x0] (zGW D ka rb 1 (zREk ka rb 0 0))) (va_Qv (fun (_ : Unit) => True) (fun _ t => zRW D ka rb (zM0 (zclamp x0)) t ∧ t.heap.size = rb + 39) (zGA rb)) 38 2783 (zGA rb) := by
  refine z_met (by decide) (Nat.le_of_ble_eq_true rfl) ?_
  intro pg e s m below meth c hx hb hml hr hts hown hlk hnm hB ls hl
  obtain ⟨hP, hsz, hK⟩ := hB
  have hS : va_S (zGA rb) s.heap s.heap [] := va_S.rf
  have hl : lv_has ls 2 [(0, .ref rb), (1, .int x0)] := hl
  have hb0 : rb ≤ s.heap.size := by omega
  refine lv_aload_n hx hb zd_M_init_0 rfl (lv_at hl 0 rfl) ?_
  refine W.objInit hx hb hown (hts _ zk_M_1) (hts _ zobj_i) (hts _ zobj_c) rfl (by rw [hml]; exact hl.1) rfl zd_M_init_1 (Nat.le_of_ble_eq_true rfl) (Nat.le_of_ble_eq_true rfl) ?_
  refine W.eq (g2 := F0 m 4 ls []) rfl ?_
  refine lv_aload_n hx hb zd_M_init_4 rfl (lv_at hl 0 rfl) ?_
  refine lv_iconst (v := 4) hx hb zd_M_init_5 (by decide) ?_
  refine zg_newa 0 (atype := .int) (n := 1) (N := 4) rfl rfl rfl hx hb hts zac_int hK hP hS hb0 (by omega) (by decide) (by decide) (by decide) (Nat.le_of_ble_eq_true rfl) (Nat.le_of_ble_eq_true rfl) zd_M_init_6 (fun H hP hS => ?_)
  have hP : zGP D rb 2 (zREk ka rb 0 0) H := zC_re (zREk_new ka rb 0 0 (j := 1) (by decide)) hP
  refine W.cs (cells' := 1) (slots' := 4) rfl rfl ?_
  refine zr_putF (ty := .array .int) hx hb hts zin_M zt_M zto_M znm_M hown hK hP (zG_D rb 2 _) hS (zGL_in (Nat.le_refl _) (by omega)) (zREk_o ka rb 0 0) rfl 1 (by decide) (zl_M_7 hts) rfl rfl hnm rfl (by decide +kernel) rfl rfl (Nat.le_of_ble_eq_true rfl) zd_M_init_8 (fun H locs hP hS => ?_)
  have hP : zGP D rb 2 (zREk ka rb 1 0) H := zC_re (zREk_put ka rb 0 1 0 0 rfl) hP
  refine lv_aload_n hx hb zd_M_init_11 rfl (lv_at hl 0 rfl) ?_
  refine lv_iconst (v := 3) hx hb zd_M_init_12 (by decide) ?_
  refine zg_newa 1 (atype := .boolean) (n := 2) (N := 3) rfl rfl rfl hx hb hts zac_boolean hK hP hS hb0 (by omega) (by decide) (by decide) (by decide) (Nat.le_of_ble_eq_true rfl) (Nat.le_of_ble_eq_true rfl) zd_M_init_13 (fun H hP hS => ?_)
  have hP : zGP D rb 3 (zREk ka rb 1 0) H := zC_re (zREk_new ka rb 1 0 (j := 2) (by decide)) hP
  refine W.cs (cells' := 2) (slots' := 7) rfl rfl ?_
  refine zr_putF (ty := .array .boolean) hx hb hts zin_M zt_M zto_M znm_M hown hK hP (zG_D rb 3 _) hS (zGL_in (Nat.le_refl _) (by omega)) (zREk_o ka rb 1 0) rfl 2 (by decide) (zl_M_13 hts) rfl rfl hnm rfl (by decide +kernel) rfl rfl (Nat.le_of_ble_eq_true rfl) zd_M_init_15 (fun H locs hP hS => ?_)
  have hP : zGP D rb 3 (zREk ka rb 2 0) H := zC_re (zREk_put ka rb 1 2 0 0 rfl) hP
  refine lv_aload_n hx hb zd_M_init_18 rfl (lv_at hl 0 rfl) ?_
  refine lv_iconst (v := 3) hx hb zd_M_init_19 (by decide) ?_
  refine zg_newa 0 (atype := .int) (n := 3) (N := 3) rfl rfl rfl hx hb hts zac_int hK hP hS hb0 (by omega) (by decide) (by decide) (by decide) (Nat.le_of_ble_eq_true rfl) (Nat.le_of_ble_eq_true rfl) zd_M_init_20 (fun H hP hS => ?_)
  have hP : zGP D rb 4 (zREk ka rb 2 0) H := zC_re (zREk_new ka rb 2 0 (j := 3) (by decide)) hP
  refine W.cs (cells' := 3) (slots' := 10) rfl rfl ?_
  refine zr_putF (ty := .array .int) hx hb hts zin_M zt_M zto_M znm_M hown hK hP (zG_D rb 4 _) hS (zGL_in (Nat.le_refl _) (by omega)) (zREk_o ka rb 2 0) rfl 3 (by decide) (zl_M_17 hts) rfl rfl hnm rfl (by decide +kernel) rfl rfl (Nat.le_of_ble_eq_true rfl) zd_M_init_22 (fun H locs hP hS => ?_)
  have hP : zGP D rb 4 (zREk ka rb 3 0) H := zC_re (zREk_put ka rb 2 3 0 0 rfl) hP
  refine lv_aload_n hx hb zd_M_init_25 rfl (lv_at hl 0 rfl) ?_
  refine lv_bipush (v := 9) hx hb zd_M_init_26 (by decide) ?_
  refine zg_newa 1 (atype := .boolean) (n := 4) (N := 9) rfl rfl rfl hx hb hts zac_boolean hK hP hS hb0 (by omega) (by decide) (by decide) (by decide) (Nat.le_of_ble_eq_true rfl) (Nat.le_of_ble_eq_true rfl) zd_M_init_28 (fun H hP hS => ?_)
  have hP : zGP D rb 5 (zREk ka rb 3 0) H := zC_re (zREk_new ka rb 3 0 (j := 4) (by decide)) hP
  refine W.cs (cells' := 4) (slots' := 19) rfl rfl ?_
  refine zr_putF (ty := .array .boolean) hx hb hts zin_M zt_M zto_M znm_M hown hK hP (zG_D rb 5 _) hS (zGL_in (Nat.le_refl _) (by omega)) (zREk_o ka rb 3 0) rfl 4 (by decide) (zl_M_20 hts) rfl rfl hnm rfl (by decide +kernel) rfl rfl (Nat.le_of_ble_eq_true rfl) zd_M_init_30 (fun H locs hP hS => ?_)
  have hP : zGP D rb 5 (zREk ka rb 4 0) H := zC_re (zREk_put ka rb 3 4 0 0 rfl) hP
  refine lv_aload_n hx hb zd_M_init_33 rfl (lv_at hl 0 rfl) ?_
  refine lv_bipush (v := 9) hx hb zd_M_init_34 (by decide) ?_
  refine zg_newa 1 (atype := .boolean) (n := 5) (N := 9) rfl rfl rfl hx hb hts zac_boolean hK hP hS hb0 (by omega) (by decide) (by decide) (by decide) (Nat.le_of_ble_eq_true rfl) (Nat.le_of_ble_eq_true rfl) zd_M_init_36 (fun H hP hS => ?_)
  have hP : zGP D rb 6 (zREk ka rb 4 0) H := zC_re (zREk_new ka rb 4 0 (j := 5) (by decide)) hP
  refine W.cs (cells' := 5) (slots' := 28) rfl rfl ?_
  refine zr_putF (ty := .array .boolean) hx hb hts zin_M zt_M zto_M znm_M hown hK hP (zG_D rb 6 _) hS (zGL_in (Nat.le_refl _) (by omega)) (zREk_o ka rb 4 0) rfl 5 (by decide) (zl_M_23 hts) rfl rfl hnm rfl (by decide +kernel) rfl rfl (Nat.le_of_ble_eq_true rfl) zd_M_init_38 (fun H locs hP hS => ?_)
  have hP : zGP D rb 6 (zREk ka rb 5 0) H := zC_re (zREk_put ka rb 4 5 0 0 rfl) hP
  refine lv_aload_n hx hb zd_M_init_41 rfl (lv_at hl 0 rfl) ?_
  refine lv_bipush (v := 36) hx hb zd_M_init_42 (by decide) ?_
  refine zg_newa 0 (atype := .int) (n := 6) (N := 36) rfl rfl rfl hx hb hts zac_int hK hP hS hb0 (by omega) (by decide) (by decide) (by decide) (Nat.le_of_ble_eq_true rfl) (Nat.le_of_ble_eq_true rfl) zd_M_init_44 (fun H hP hS => ?_)
  have hP : zGP D rb 7 (zREk ka rb 5 0) H := zC_re (zREk_new ka rb 5 0 (j := 6) (by decide)) hP
  refine W.cs (cells' := 6) (slots' := 64) rfl rfl ?_
  refine zr_putF (ty := .array .int) hx hb hts zin_M zt_M zto_M znm_M hown hK hP (zG_D rb 7 _) hS (zGL_in (Nat.le_refl _) (by omega)) (zREk_o ka rb 5 0) rfl 6 (by decide) (zl_M_26 hts) rfl rfl hnm rfl (by decide +kernel) rfl rfl (Nat.le_of_ble_eq_true rfl) zd_M_init_46 (fun H locs hP hS => ?_)
  have hP : zGP D rb 7 (zREk ka rb 6 0) H := zC_re (zREk_put ka rb 5 6 0 0 rfl) hP
  refine lv_aload_n hx hb zd_M_init_49 rfl (lv_at hl 0 rfl) ?_
  refine lv_bipush (v := 36) hx hb zd_M_init_50 (by decide) ?_
  refine zg_newa 0 (atype := .int) (n := 7) (N := 36) rfl rfl rfl hx hb hts zac_int hK hP hS hb0 (by omega) (by decide) (by decide) (by decide) (Nat.le_of_ble_eq_true rfl) (Nat.le_of_ble_eq_true rfl) zd_M_init_52 (fun H hP hS => ?_)
  have hP : zGP D rb 8 (zREk ka rb 6 0) H := zC_re (zREk_new ka rb 6 0 (j := 7) (by decide)) hP
  refine W.cs (cells' := 7) (slots' := 100) rfl rfl ?_
  refine zr_putF (ty := .array .int) hx hb hts zin_M zt_M zto_M znm_M hown hK hP (zG_D rb 8 _) hS (zGL_in (Nat.le_refl _) (by omega)) (zREk_o ka rb 6 0) rfl 7 (by decide) (zl_M_29 hts) rfl rfl hnm rfl (by decide +kernel) rfl rfl (Nat.le_of_ble_eq_true rfl) zd_M_init_54 (fun H locs hP hS => ?_)
  have hP : zGP D rb 8 (zREk ka rb 7 0) H := zC_re (zREk_put ka rb 6 7 0 0 rfl) hP
  refine lv_aload_n hx hb zd_M_init_57 rfl (lv_at hl 0 rfl) ?_
  refine lv_bipush (v := 36) hx hb zd_M_init_58 (by decide) ?_
  refine zg_newa 0 (atype := .int) (n := 8) (N := 36) rfl rfl rfl hx hb hts zac_int hK hP hS hb0 (by omega) (by decide) (by decide) (by decide) (Nat.le_of_ble_eq_true rfl) (Nat.le_of_ble_eq_true rfl) zd_M_init_60 (fun H hP hS => ?_)
  have hP : zGP D rb 9 (zREk ka rb 7 0) H := zC_re (zREk_new ka rb 7 0 (j := 8) (by decide)) hP
  refine W.cs (cells' := 8) (slots' := 136) rfl rfl ?_
  refine zr_putF (ty := .array .int) hx hb hts zin_M zt_M zto_M znm_M hown hK hP (zG_D rb 9 _) hS (zGL_in (Nat.le_refl _) (by omega)) (zREk_o ka rb 7 0) rfl 8 (by decide) (zl_M_32 hts) rfl rfl hnm rfl (by decide +kernel) rfl rfl (Nat.le_of_ble_eq_true rfl) zd_M_init_62 (fun H locs hP hS => ?_)
  have hP : zGP D rb 9 (zREk ka rb 8 0) H := zC_re (zREk_put ka rb 7 8 0 0 rfl) hP
  refine lv_aload_n hx hb zd_M_init_65 rfl (lv_at hl 0 rfl) ?_
  refine lv_iconst (v := 4) hx hb zd_M_init_66 (by decide) ?_
  refine zg_newa 0 (atype := .int) (n := 9) (N := 4) rfl rfl rfl hx hb hts zac_int hK hP hS hb0 (by omega) (by decide) (by decide) (by decide) (Nat.le_of_ble_eq_true rfl) (Nat.le_of_ble_eq_true rfl) zd_M_init_67 (fun H hP hS => ?_)
  have hP : zGP D rb 10 (zREk ka rb 8 0) H := zC_re (zREk_new ka rb 8 0 (j := 9) (by decide)) hP
  refine W.cs (cells' := 9) (slots' := 140) rfl rfl ?_
  refine zr_putF (ty := .array .int) hx hb hts zin_M zt_M zto_M znm_M hown hK hP (zG_D rb 10 _) hS (zGL_in (Nat.le_refl _) (by omega)) (zREk_o ka rb 8 0) rfl 9 (by decide) (zl_M_35 hts) rfl rfl hnm rfl (by decide +kernel) rfl rfl (Nat.le_of_ble_eq_true rfl) zd_M_init_69 (fun H locs hP hS => ?_)
  have hP : zGP D rb 10 (zREk ka rb 9 0) H := zC_re (zREk_put ka rb 8 9 0 0 rfl) hP
  refine lv_aload_n hx hb zd_M_init_72 rfl (lv_at hl 0 rfl) ?_
  refine lv_iconst (v := 4) hx hb zd_M_init_73 (by decide) ?_
  refine zg_newa 0 (atype := .int) (n := 10) (N := 4) rfl rfl rfl hx hb hts zac_int hK hP hS hb0 (by omega) (by decide) (by decide) (by decide) (Nat.le_of_ble_eq_true rfl) (Nat.le_of_ble_eq_true rfl) zd_M_init_74 (fun H hP hS => ?_)
  have hP : zGP D rb 11 (zREk ka rb 9 0) H := zC_re (zREk_new ka rb 9 0 (j := 10) (by decide)) hP
  refine W.cs (cells' := 10) (slots' := 144) rfl rfl ?_
  refine zr_putF (ty := .array .int) hx hb hts zin_M zt_M zto_M znm_M hown hK hP (zG_D rb 11 _) hS (zGL_in (Nat.le_refl _) (by omega)) (zREk_o ka rb 9 0) rfl 10 (by decide) (zl_M_38 hts) rfl rfl hnm rfl (by decide +kernel) rfl rfl (Nat.le_of_ble_eq_true rfl) zd_M_init_76 (fun H locs hP hS => ?_)
  have hP : zGP D rb 11 (zREk ka rb 10 0) H := zC_re (zREk_put ka rb 9 10 0 0 rfl) hP
  refine lv_aload_n hx hb zd_M_init_79 rfl (lv_at hl 0 rfl) ?_
  refine lv_iconst (v := 4) hx hb zd_M_init_80 (by decide) ?_
  refine zg_newa 0 (atype := .int) (n := 11) (N := 4) rfl rfl rfl hx hb hts zac_int hK hP hS hb0 (by omega) (by decide) (by decide) (by decide) (Nat.le_of_ble_eq_true rfl) (Nat.le_of_ble_eq_true rfl) zd_M_init_81 (fun H hP hS => ?_)
  have hP : zGP D rb 12 (zREk ka rb 10 0) H := zC_re (zREk_new ka rb 10 0 (j := 11) (by decide)) hP
  refine W.cs (cells' := 11) (slots' := 148) rfl rfl ?_
  refine zr_putF (ty := .array .int) hx hb hts zin_M zt_M zto_M znm_M hown hK hP (zG_D rb 12 _) hS (zGL_in (Nat.le_refl _) (by omega)) (zREk_o ka rb 10 0) rfl 11 (by decide) (zl_M_41 hts) rfl rfl hnm rfl (by decide +kernel) rfl rfl (Nat.le_of_ble_eq_true rfl) zd_M_init_83 (fun H locs hP hS => ?_)
  have hP : zGP D rb 12 (zREk ka rb 11 0) H := zC_re (zREk_put ka rb 10 11 0 0 rfl) hP
  refine lv_aload_n hx hb zd_M_init_86 rfl (lv_at hl 0 rfl) ?_
  refine lv_iconst (v := 4) hx hb zd_M_init_87 (by decide) ?_
  refine zg_newa 1 (atype := .boolean) (n := 12) (N := 4) rfl rfl rfl hx hb hts zac_boolean hK hP hS hb0 (by omega) (by decide) (by decide) (by decide) (Nat.le_of_ble_eq_true rfl) (Nat.le_of_ble_eq_true rfl) zd_M_init_88 (fun H hP hS => ?_)
  have hP : zGP D rb 13 (zREk ka rb 11 0) H := zC_re (zREk_new ka rb 11 0 (j := 12) (by decide)) hP
  refine W.cs (cells' := 12) (slots' := 152) rfl rfl ?_
  refine zr_putF (ty := .array .boolean) hx hb hts zin_M zt_M zto_M znm_M hown hK hP (zG_D rb 13 _) hS (zGL_in (Nat.le_refl _) (by omega)) (zREk_o ka rb 11 0) rfl 12 (by decide) (zl_M_44 hts) rfl rfl hnm rfl (by decide +kernel) rfl rfl (Nat.le_of_ble_eq_true rfl) zd_M_init_90 (fun H locs hP hS => ?_)
  have hP : zGP D rb 13 (zREk ka rb 12 0) H := zC_re (zREk_put ka rb 11 12 0 0 rfl) hP
  refine lv_aload_n hx hb zd_M_init_93 rfl (lv_at hl 0 rfl) ?_
  refine lv_iconst (v := 4) hx hb zd_M_init_94 (by decide) ?_
  refine zg_newa 0 (atype := .int) (n := 13) (N := 4) rfl rfl rfl hx hb hts zac_int hK hP hS hb0 (by omega) (by decide) (by decide) (by decide) (Nat.le_of_ble_eq_true rfl) (Nat.le_of_ble_eq_true rfl) zd_M_init_95 (fun H hP hS => ?_)
  have hP : zGP D rb 14 (zREk ka rb 12 0) H := zC_re (zREk_new ka rb 12 0 (j := 13) (by decide)) hP
  refine W.cs (cells' := 13) (slots' := 156) rfl rfl ?_
  refine zr_putF (ty := .array .int) hx hb hts zin_M zt_M zto_M znm_M hown hK hP (zG_D rb 14 _) hS (zGL_in (Nat.le_refl _) (by omega)) (zREk_o ka rb 12 0) rfl 13 (by decide) (zl_M_47 hts) rfl rfl hnm rfl (by decide +kernel) rfl rfl (Nat.le_of_ble_eq_true rfl) zd_M_init_97 (fun H locs hP hS => ?_)
  have hP : zGP D rb 14 (zREk ka rb 13 0) H := zC_re (zREk_put ka rb 12 13 0 0 rfl) hP
  refine lv_aload_n hx hb zd_M_init_100 rfl (lv_at hl 0 rfl) ?_
  refine lv_bipush (v := 36) hx hb zd_M_init_101 (by decide) ?_
  refine zg_newa 1 (atype := .boolean) (n := 14) (N := 36) rfl rfl rfl hx hb hts zac_boolean hK hP hS hb0 (by omega) (by decide) (by decide) (by decide) (Nat.le_of_ble_eq_true rfl) (Nat.le_of_ble_eq_true rfl) zd_M_init_103 (fun H hP hS => ?_)
  have hP : zGP D rb 15 (zREk ka rb 13 0) H := zC_re (zREk_new ka rb 13 0 (j := 14) (by decide)) hP
  refine W.cs (cells' := 14) (slots' := 192) rfl rfl ?_
  refine zr_putF (ty := .array .boolean) hx hb hts zin_M zt_M zto_M znm_M hown hK hP (zG_D rb 15 _) hS (zGL_in (Nat.le_refl _) (by omega)) (zREk_o ka rb 13 0) rfl 14 (by decide) (zl_M_50 hts) rfl rfl hnm rfl (by decide +kernel) rfl rfl (Nat.le_of_ble_eq_true rfl) zd_M_init_105 (fun H locs hP hS => ?_)
  have hP : zGP D rb 15 (zREk ka rb 14 0) H := zC_re (zREk_put ka rb 13 14 0 0 rfl) hP
  refine lv_aload_n hx hb zd_M_init_108 rfl (lv_at hl 0 rfl) ?_
  refine lv_iconst (v := 3) hx hb zd_M_init_109 (by decide) ?_
  refine zg_newa 0 (atype := .int) (n := 15) (N := 3) rfl rfl rfl hx hb hts zac_int hK hP hS hb0 (by omega) (by decide) (by decide) (by decide) (Nat.le_of_ble_eq_true rfl) (Nat.le_of_ble_eq_true rfl) zd_M_init_110 (fun H hP hS => ?_)
  have hP : zGP D rb 16 (zREk ka rb 14 0) H := zC_re (zREk_new ka rb 14 0 (j := 15) (by decide)) hP
  refine W.cs (cells' := 15) (slots' := 195) rfl rfl ?_
  refine zr_putF (ty := .array .int) hx hb hts zin_M zt_M zto_M znm_M hown hK hP (zG_D rb 16 _) hS (zGL_in (Nat.le_refl _) (by omega)) (zREk_o ka rb 14 0) rfl 15 (by decide) (zl_M_53 hts) rfl rfl hnm rfl (by decide +kernel) rfl rfl (Nat.le_of_ble_eq_true rfl) zd_M_init_112 (fun H locs hP hS => ?_)
  have hP : zGP D rb 16 (zREk ka rb 15 0) H := zC_re (zREk_put ka rb 14 15 0 0 rfl) hP
  refine lv_aload_n hx hb zd_M_init_115 rfl (lv_at hl 0 rfl) ?_
  refine lv_iconst (v := 3) hx hb zd_M_init_116 (by decide) ?_
  refine zg_newa 0 (atype := .int) (n := 16) (N := 3) rfl rfl rfl hx hb hts zac_int hK hP hS hb0 (by omega) (by decide) (by decide) (by decide) (Nat.le_of_ble_eq_true rfl) (Nat.le_of_ble_eq_true rfl) zd_M_init_117 (fun H hP hS => ?_)
  have hP : zGP D rb 17 (zREk ka rb 15 0) H := zC_re (zREk_new ka rb 15 0 (j := 16) (by decide)) hP
  refine W.cs (cells' := 16) (slots' := 198) rfl rfl ?_
  refine zr_putF (ty := .array .int) hx hb hts zin_M zt_M zto_M znm_M hown hK hP (zG_D rb 17 _) hS (zGL_in (Nat.le_refl _) (by omega)) (zREk_o ka rb 15 0) rfl 16 (by decide) (zl_M_56 hts) rfl rfl hnm rfl (by decide +kernel) rfl rfl (Nat.le_of_ble_eq_true rfl) zd_M_init_119 (fun H locs hP hS => ?_)
  have hP : zGP D rb 17 (zREk ka rb 16 0) H := zC_re (zREk_put ka rb 15 16 0 0 rfl) hP
  refine lv_aload_n hx hb zd_M_init_122 rfl (lv_at hl 0 rfl) ?_
  refine lv_iconst (v := 3) hx hb zd_M_init_123 (by decide) ?_
  refine zg_newa 0 (atype := .int) (n := 17) (N := 3) rfl rfl rfl hx hb hts zac_int hK hP hS hb0 (by omega) (by decide) (by decide) (by decide) (Nat.le_of_ble_eq_true rfl) (Nat.le_of_ble_eq_true rfl) zd_M_init_124 (fun H hP hS => ?_)
  have hP : zGP D rb 18 (zREk ka rb 16 0) H := zC_re (zREk_new ka rb 16 0 (j := 17) (by decide)) hP
  refine W.cs (cells' := 17) (slots' := 201) rfl rfl ?_
  refine zr_putF (ty := .array .int) hx hb hts zin_M zt_M zto_M znm_M hown hK hP (zG_D rb 18 _) hS (zGL_in (Nat.le_refl _) (by omega)) (zREk_o ka rb 16 0) rfl 17 (by decide) (zl_M_59 hts) rfl rfl hnm rfl (by decide +kernel) rfl rfl (Nat.le_of_ble_eq_true rfl) zd_M_init_126 (fun H locs hP hS => ?_)
  have hP : zGP D rb 18 (zREk ka rb 17 0) H := zC_re (zREk_put ka rb 16 17 0 0 rfl) hP
  refine lv_aload_n hx hb zd_M_init_129 rfl (lv_at hl 0 rfl) ?_
  refine lv_iconst (v := 3) hx hb zd_M_init_130 (by decide) ?_
  refine zg_newa 0 (atype := .int) (n := 18) (N := 3) rfl rfl rfl hx hb hts zac_int hK hP hS hb0 (by omega) (by decide) (by decide) (by decide) (Nat.le_of_ble_eq_true rfl) (Nat.le_of_ble_eq_true rfl) zd_M_init_131 (fun H hP hS => ?_)
  have hP : zGP D rb 19 (zREk ka rb 17 0) H := zC_re (zREk_new ka rb 17 0 (j := 18) (by decide)) hP
  refine W.cs (cells' := 18) (slots' := 204) rfl rfl ?_
  refine zr_putF (ty := .array .int) hx hb hts zin_M zt_M zto_M znm_M hown hK hP (zG_D rb 19 _) hS (zGL_in (Nat.le_refl _) (by omega)) (zREk_o ka rb 17 0) rfl 18 (by decide) (zl_M_62 hts) rfl rfl hnm rfl (by decide +kernel) rfl rfl (Nat.le_of_ble_eq_true rfl) zd_M_init_133 (fun H locs hP hS => ?_)
  have hP : zGP D rb 19 (zREk ka rb 18 0) H := zC_re (zREk_put ka rb 17 18 0 0 rfl) hP
  refine lv_aload_n hx hb zd_M_init_136 rfl (lv_at hl 0 rfl) ?_
  refine lv_bipush (v := 27) hx hb zd_M_init_137 (by decide) ?_
  refine zg_newa 1 (atype := .boolean) (n := 19) (N := 27) rfl rfl rfl hx hb hts zac_boolean hK hP hS hb0 (by omega) (by decide) (by decide) (by decide) (Nat.le_of_ble_eq_true rfl) (Nat.le_of_ble_eq_true rfl) zd_M_init_139 (fun H hP hS => ?_)
  have hP : zGP D rb 20 (zREk ka rb 18 0) H := zC_re (zREk_new ka rb 18 0 (j := 19) (by decide)) hP
  refine W.cs (cells' := 19) (slots' := 231) rfl rfl ?_
  refine zr_putF (ty := .array .boolean) hx hb hts zin_M zt_M zto_M znm_M hown hK hP (zG_D rb 20 _) hS (zGL_in (Nat.le_refl _) (by omega)) (zREk_o ka rb 18 0) rfl 19 (by decide) (zl_M_65 hts) rfl rfl hnm rfl (by decide +kernel) rfl rfl (Nat.le_of_ble_eq_true rfl) zd_M_init_141 (fun H locs hP hS => ?_)
  have hP : zGP D rb 20 (zREk ka rb 19 0) H := zC_re (zREk_put ka rb 18 19 0 0 rfl) hP
  refine lv_aload_n hx hb zd_M_init_144 rfl (lv_at hl 0 rfl) ?_
  refine lv_bipush (v := 27) hx hb zd_M_init_145 (by decide) ?_
  refine zg_newa 0 (atype := .int) (n := 20) (N := 27) rfl rfl rfl hx hb hts zac_int hK hP hS hb0 (by omega) (by decide) (by decide) (by decide) (Nat.le_of_ble_eq_true rfl) (Nat.le_of_ble_eq_true rfl) zd_M_init_147 (fun H hP hS => ?_)
  have hP : zGP D rb 21 (zREk ka rb 19 0) H := zC_re (zREk_new ka rb 19 0 (j := 20) (by decide)) hP
  refine W.cs (cells' := 20) (slots' := 258) rfl rfl ?_
  refine zr_putF (ty := .array .int) hx hb hts zin_M zt_M zto_M znm_M hown hK hP (zG_D rb 21 _) hS (zGL_in (Nat.le_refl _) (by omega)) (zREk_o ka rb 19 0) rfl 20 (by decide) (zl_M_68 hts) rfl rfl hnm rfl (by decide +kernel) rfl rfl (Nat.le_of_ble_eq_true rfl) zd_M_init_149 (fun H locs hP hS => ?_)
  have hP : zGP D rb 21 (zREk ka rb 20 0) H := zC_re (zREk_put ka rb 19 20 0 0 rfl) hP
  refine lv_aload_n hx hb zd_M_init_152 rfl (lv_at hl 0 rfl) ?_
  refine lv_bipush (v := 27) hx hb zd_M_init_153 (by decide) ?_
  refine zg_newa 0 (atype := .int) (n := 21) (N := 27) rfl rfl rfl hx hb hts zac_int hK hP hS hb0 (by omega) (by decide) (by decide) (by decide) (Nat.le_of_ble_eq_true rfl) (Nat.le_of_ble_eq_true rfl) zd_M_init_155 (fun H hP hS => ?_)
  have hP : zGP D rb 22 (zREk ka rb 20 0) H := zC_re (zREk_new ka rb 20 0 (j := 21) (by decide)) hP
  refine W.cs (cells' := 21) (slots' := 285) rfl rfl ?_
  refine zr_putF (ty := .array .int) hx hb hts zin_M zt_M zto_M znm_M hown hK hP (zG_D rb 22 _) hS (zGL_in (Nat.le_refl _) (by omega)) (zREk_o ka rb 20 0) rfl 21 (by decide) (zl_M_71 hts) rfl rfl hnm rfl (by decide +kernel) rfl rfl (Nat.le_of_ble_eq_true rfl) zd_M_init_157 (fun H locs hP hS => ?_)
  have hP : zGP D rb 22 (zREk ka rb 21 0) H := zC_re (zREk_put ka rb 20 21 0 0 rfl) hP
  refine lv_aload_n hx hb zd_M_init_160 rfl (lv_at hl 0 rfl) ?_
  refine lv_bipush (v := 27) hx hb zd_M_init_161 (by decide) ?_
  refine zg_newa 0 (atype := .int) (n := 22) (N := 27) rfl rfl rfl hx hb hts zac_int hK hP hS hb0 (by omega) (by decide) (by decide) (by decide) (Nat.le_of_ble_eq_true rfl) (Nat.le_of_ble_eq_true rfl) zd_M_init_163 (fun H hP hS => ?_)
  have hP : zGP D rb 23 (zREk ka rb 21 0) H := zC_re (zREk_new ka rb 21 0 (j := 22) (by decide)) hP
  refine W.cs (cells' := 22) (slots' := 312) rfl rfl ?_
  refine zr_putF (ty := .array .int) hx hb hts zin_M zt_M zto_M znm_M hown hK hP (zG_D rb 23 _) hS (zGL_in (Nat.le_refl _) (by omega)) (zREk_o ka rb 21 0) rfl 22 (by decide) (zl_M_74 hts) rfl rfl hnm rfl (by decide +kernel) rfl rfl (Nat.le_of_ble_eq_true rfl) zd_M_init_165 (fun H locs hP hS => ?_)
  have hP : zGP D rb 23 (zREk ka rb 22 0) H := zC_re (zREk_put ka rb 21 22 0 0 rfl) hP
  refine lv_aload_n hx hb zd_M_init_168 rfl (lv_at hl 0 rfl) ?_
  refine lv_bipush (v := 12) hx hb zd_M_init_169 (by decide) ?_
  refine zg_newa 0 (atype := .int) (n := 23) (N := 12) rfl rfl rfl hx hb hts zac_int hK hP hS hb0 (by omega) (by decide) (by decide) (by decide) (Nat.le_of_ble_eq_true rfl) (Nat.le_of_ble_eq_true rfl) zd_M_init_171 (fun H hP hS => ?_)
  have hP : zGP D rb 24 (zREk ka rb 22 0) H := zC_re (zREk_new ka rb 22 0 (j := 23) (by decide)) hP
  refine W.cs (cells' := 23) (slots' := 324) rfl rfl ?_
  refine zr_putF (ty := .array .int) hx hb hts zin_M zt_M zto_M znm_M hown hK hP (zG_D rb 24 _) hS (zGL_in (Nat.le_refl _) (by omega)) (zREk_o ka rb 22 0) rfl 23 (by decide) (zl_M_77 hts) rfl rfl hnm rfl (by decide +kernel) rfl rfl (Nat.le_of_ble_eq_true rfl) zd_M_init_173 (fun H locs hP hS => ?_)
  have hP : zGP D rb 24 (zREk ka rb 23 0) H := zC_re (zREk_put ka rb 22 23 0 0 rfl) hP
  refine lv_aload_n hx hb zd_M_init_176 rfl (lv_at hl 0 rfl) ?_
  refine lv_bipush (v := 12) hx hb zd_M_init_177 (by decide) ?_
  refine zg_newa 0 (atype := .int) (n := 24) (N := 12) rfl rfl rfl hx hb hts zac_int hK hP hS hb0 (by omega) (by decide) (by decide) (by decide) (Nat.le_of_ble_eq_true rfl) (Nat.le_of_ble_eq_true rfl) zd_M_init_179 (fun H hP hS => ?_)
  have hP : zGP D rb 25 (zREk ka rb 23 0) H := zC_re (zREk_new ka rb 23 0 (j := 24) (by decide)) hP
  refine W.cs (cells' := 24) (slots' := 336) rfl rfl ?_
  refine zr_putF (ty := .array .int) hx hb hts zin_M zt_M zto_M znm_M hown hK hP (zG_D rb 25 _) hS (zGL_in (Nat.le_refl _) (by omega)) (zREk_o ka rb 23 0) rfl 24 (by decide) (zl_M_80 hts) rfl rfl hnm rfl (by decide +kernel) rfl rfl (Nat.le_of_ble_eq_true rfl) zd_M_init_181 (fun H locs hP hS => ?_)
  have hP : zGP D rb 25 (zREk ka rb 24 0) H := zC_re (zREk_put ka rb 23 24 0 0 rfl) hP
  refine lv_aload_n hx hb zd_M_init_184 rfl (lv_at hl 0 rfl) ?_
  refine lv_bipush (v := 12) hx hb zd_M_init_185 (by decide) ?_
  refine zg_newa 0 (atype := .int) (n := 25) (N := 12) rfl rfl rfl hx hb hts zac_int hK hP hS hb0 (by omega) (by decide) (by decide) (by decide) (Nat.le_of_ble_eq_true rfl) (Nat.le_of_ble_eq_true rfl) zd_M_init_187 (fun H hP hS => ?_)
  have hP : zGP D rb 26 (zREk ka rb 24 0) H := zC_re (zREk_new ka rb 24 0 (j := 25) (by decide)) hP
  refine W.cs (cells' := 25) (slots' := 348) rfl rfl ?_
  refine zr_putF (ty := .array .int) hx hb hts zin_M zt_M zto_M znm_M hown hK hP (zG_D rb 26 _) hS (zGL_in (Nat.le_refl _) (by omega)) (zREk_o ka rb 24 0) rfl 25 (by decide) (zl_M_83 hts) rfl rfl hnm rfl (by decide +kernel) rfl rfl (Nat.le_of_ble_eq_true rfl) zd_M_init_189 (fun H locs hP hS => ?_)
  have hP : zGP D rb 26 (zREk ka rb 25 0) H := zC_re (zREk_put ka rb 24 25 0 0 rfl) hP
  refine lv_aload_n hx hb zd_M_init_192 rfl (lv_at hl 0 rfl) ?_
  refine lv_iconst (v := 3) hx hb zd_M_init_193 (by decide) ?_
  refine zg_newa 1 (atype := .boolean) (n := 26) (N := 3) rfl rfl rfl hx hb hts zac_boolean hK hP hS hb0 (by omega) (by decide) (by decide) (by decide) (Nat.le_of_ble_eq_true rfl) (Nat.le_of_ble_eq_true rfl) zd_M_init_194 (fun H hP hS => ?_)
  have hP : zGP D rb 27 (zREk ka rb 25 0) H := zC_re (zREk_new ka rb 25 0 (j := 26) (by decide)) hP
  refine W.cs (cells' := 26) (slots' := 351) rfl rfl ?_
  refine zr_putF (ty := .array .boolean) hx hb hts zin_M zt_M zto_M znm_M hown hK hP (zG_D rb 27 _) hS (zGL_in (Nat.le_refl _) (by omega)) (zREk_o ka rb 25 0) rfl 26 (by decide) (zl_M_86 hts) rfl rfl hnm rfl (by decide +kernel) rfl rfl (Nat.le_of_ble_eq_true rfl) zd_M_init_196 (fun H locs hP hS => ?_)
  have hP : zGP D rb 27 (zREk ka rb 26 0) H := zC_re (zREk_put ka rb 25 26 0 0 rfl) hP
  refine lv_aload_n hx hb zd_M_init_199 rfl (lv_at hl 0 rfl) ?_
  refine lv_bipush (v := 12) hx hb zd_M_init_200 (by decide) ?_
  refine zg_newa 0 (atype := .int) (n := 27) (N := 12) rfl rfl rfl hx hb hts zac_int hK hP hS hb0 (by omega) (by decide) (by decide) (by decide) (Nat.le_of_ble_eq_true rfl) (Nat.le_of_ble_eq_true rfl) zd_M_init_202 (fun H hP hS => ?_)
  have hP : zGP D rb 28 (zREk ka rb 26 0) H := zC_re (zREk_new ka rb 26 0 (j := 27) (by decide)) hP
  refine W.cs (cells' := 27) (slots' := 363) rfl rfl ?_
  refine zr_putF (ty := .array .int) hx hb hts zin_M zt_M zto_M znm_M hown hK hP (zG_D rb 28 _) hS (zGL_in (Nat.le_refl _) (by omega)) (zREk_o ka rb 26 0) rfl 27 (by decide) (zl_M_89 hts) rfl rfl hnm rfl (by decide +kernel) rfl rfl (Nat.le_of_ble_eq_true rfl) zd_M_init_204 (fun H locs hP hS => ?_)
  have hP : zGP D rb 28 (zREk ka rb 27 0) H := zC_re (zREk_put ka rb 26 27 0 0 rfl) hP
  refine lv_aload_n hx hb zd_M_init_207 rfl (lv_at hl 0 rfl) ?_
  refine lv_iconst (v := 4) hx hb zd_M_init_208 (by decide) ?_
  refine zg_newa 1 (atype := .boolean) (n := 28) (N := 4) rfl rfl rfl hx hb hts zac_boolean hK hP hS hb0 (by omega) (by decide) (by decide) (by decide) (Nat.le_of_ble_eq_true rfl) (Nat.le_of_ble_eq_true rfl) zd_M_init_209 (fun H hP hS => ?_)
  have hP : zGP D rb 29 (zREk ka rb 27 0) H := zC_re (zREk_new ka rb 27 0 (j := 28) (by decide)) hP
  refine W.cs (cells' := 28) (slots' := 367) rfl rfl ?_
  refine zr_putF (ty := .array .boolean) hx hb hts zin_M zt_M zto_M znm_M hown hK hP (zG_D rb 29 _) hS (zGL_in (Nat.le_refl _) (by omega)) (zREk_o ka rb 27 0) rfl 28 (by decide) (zl_M_92 hts) rfl rfl hnm rfl (by decide +kernel) rfl rfl (Nat.le_of_ble_eq_true rfl) zd_M_init_211 (fun H locs hP hS => ?_)
  have hP : zGP D rb 29 (zREk ka rb 28 0) H := zC_re (zREk_put ka rb 27 28 0 0 rfl) hP
  refine lv_aload_n hx hb zd_M_init_214 rfl (lv_at hl 0 rfl) ?_
  refine lv_iconst (v := 4) hx hb zd_M_init_215 (by decide) ?_
  refine zg_newa 0 (atype := .int) (n := 29) (N := 4) rfl rfl rfl hx hb hts zac_int hK hP hS hb0 (by omega) (by decide) (by decide) (by decide) (Nat.le_of_ble_eq_true rfl) (Nat.le_of_ble_eq_true rfl) zd_M_init_216 (fun H hP hS => ?_)
  have hP : zGP D rb 30 (zREk ka rb 28 0) H := zC_re (zREk_new ka rb 28 0 (j := 29) (by decide)) hP
  refine W.cs (cells' := 29) (slots' := 371) rfl rfl ?_
  refine zr_putF (ty := .array .int) hx hb hts zin_M zt_M zto_M znm_M hown hK hP (zG_D rb 30 _) hS (zGL_in (Nat.le_refl _) (by omega)) (zREk_o ka rb 28 0) rfl 29 (by decide) (zl_M_95 hts) rfl rfl hnm rfl (by decide +kernel) rfl rfl (Nat.le_of_ble_eq_true rfl) zd_M_init_218 (fun H locs hP hS => ?_)
  have hP : zGP D rb 30 (zREk ka rb 29 0) H := zC_re (zREk_put ka rb 28 29 0 0 rfl) hP
  refine lv_aload_n hx hb zd_M_init_221 rfl (lv_at hl 0 rfl) ?_
  refine lv_iconst (v := 4) hx hb zd_M_init_222 (by decide) ?_
  refine zg_newa 0 (atype := .int) (n := 30) (N := 4) rfl rfl rfl hx hb hts zac_int hK hP hS hb0 (by omega) (by decide) (by decide) (by decide) (Nat.le_of_ble_eq_true rfl) (Nat.le_of_ble_eq_true rfl) zd_M_init_223 (fun H hP hS => ?_)
  have hP : zGP D rb 31 (zREk ka rb 29 0) H := zC_re (zREk_new ka rb 29 0 (j := 30) (by decide)) hP
  refine W.cs (cells' := 30) (slots' := 375) rfl rfl ?_
  refine zr_putF (ty := .array .int) hx hb hts zin_M zt_M zto_M znm_M hown hK hP (zG_D rb 31 _) hS (zGL_in (Nat.le_refl _) (by omega)) (zREk_o ka rb 29 0) rfl 30 (by decide) (zl_M_98 hts) rfl rfl hnm rfl (by decide +kernel) rfl rfl (Nat.le_of_ble_eq_true rfl) zd_M_init_225 (fun H locs hP hS => ?_)
  have hP : zGP D rb 31 (zREk ka rb 30 0) H := zC_re (zREk_put ka rb 29 30 0 0 rfl) hP
  refine lv_aload_n hx hb zd_M_init_228 rfl (lv_at hl 0 rfl) ?_
  refine lv_sipush (v := 301) hx hb zd_M_init_229 (by decide) ?_
  refine zg_newa 0 (atype := .int) (n := 31) (N := 301) rfl rfl rfl hx hb hts zac_int hK hP hS hb0 (by omega) (by decide) (by decide) (by decide) (Nat.le_of_ble_eq_true rfl) (Nat.le_of_ble_eq_true rfl) zd_M_init_232 (fun H hP hS => ?_)
  have hP : zGP D rb 32 (zREk ka rb 30 0) H := zC_re (zREk_new ka rb 30 0 (j := 31) (by decide)) hP
  refine W.cs (cells' := 31) (slots' := 676) rfl rfl ?_
  refine zr_putF (ty := .array .int) hx hb hts zin_M zt_M zto_M znm_M hown hK hP (zG_D rb 32 _) hS (zGL_in (Nat.le_refl _) (by omega)) (zREk_o ka rb 30 0) rfl 32 (by decide) (zl_M_101 hts) rfl rfl hnm rfl (by decide +kernel) rfl rfl (Nat.le_of_ble_eq_true rfl) zd_M_init_234 (fun H locs hP hS => ?_)
  have hP : zGP D rb 32 (zREk ka rb 31 0) H := zC_re (zREk_put ka rb 30 31 0 0 rfl) hP
  refine lv_aload_n hx hb zd_M_init_237 rfl (lv_at hl 0 rfl) ?_
  refine lv_sipush (v := 301) hx hb zd_M_init_238 (by decide) ?_
  refine zg_newa 0 (atype := .int) (n := 32) (N := 301) rfl rfl rfl hx hb hts zac_int hK hP hS hb0 (by omega) (by decide) (by decide) (by decide) (Nat.le_of_ble_eq_true rfl) (Nat.le_of_ble_eq_true rfl) zd_M_init_241 (fun H hP hS => ?_)
  have hP : zGP D rb 33 (zREk ka rb 31 0) H := zC_re (zREk_new ka rb 31 0 (j := 32) (by decide)) hP
  refine W.cs (cells' := 32) (slots' := 977) rfl rfl ?_
  refine zr_putF (ty := .array .int) hx hb hts zin_M zt_M zto_M znm_M hown hK hP (zG_D rb 33 _) hS (zGL_in (Nat.le_refl _) (by omega)) (zREk_o ka rb 31 0) rfl 33 (by decide) (zl_M_104 hts) rfl rfl hnm rfl (by decide +kernel) rfl rfl (Nat.le_of_ble_eq_true rfl) zd_M_init_243 (fun H locs hP hS => ?_)
  have hP : zGP D rb 33 (zREk ka rb 32 0) H := zC_re (zREk_put ka rb 31 32 0 0 rfl) hP
  refine lv_aload_n hx hb zd_M_init_246 rfl (lv_at hl 0 rfl) ?_
  refine lv_sipush (v := 301) hx hb zd_M_init_247 (by decide) ?_
  refine zg_newa 0 (atype := .int) (n := 33) (N := 301) rfl rfl rfl hx hb hts zac_int hK hP hS hb0 (by omega) (by decide) (by decide) (by decide) (Nat.le_of_ble_eq_true rfl) (Nat.le_of_ble_eq_true rfl) zd_M_init_250 (fun H hP hS => ?_)
  have hP : zGP D rb 34 (zREk ka rb 32 0) H := zC_re (zREk_new ka rb 32 0 (j := 33) (by decide)) hP
  refine W.cs (cells' := 33) (slots' := 1278) rfl rfl ?_
  refine zr_putF (ty := .array .int) hx hb hts zin_M zt_M zto_M znm_M hown hK hP (zG_D rb 34 _) hS (zGL_in (Nat.le_refl _) (by omega)) (zREk_o ka rb 32 0) rfl 34 (by decide) (zl_M_107 hts) rfl rfl hnm rfl (by decide +kernel) rfl rfl (Nat.le_of_ble_eq_true rfl) zd_M_init_252 (fun H locs hP hS => ?_)
  have hP : zGP D rb 34 (zREk ka rb 33 0) H := zC_re (zREk_put ka rb 32 33 0 0 rfl) hP
  refine lv_aload_n hx hb zd_M_init_255 rfl (lv_at hl 0 rfl) ?_
  refine lv_sipush (v := 301) hx hb zd_M_init_256 (by decide) ?_
  refine zg_newa 0 (atype := .int) (n := 34) (N := 301) rfl rfl rfl hx hb hts zac_int hK hP hS hb0 (by omega) (by decide) (by decide) (by decide) (Nat.le_of_ble_eq_true rfl) (Nat.le_of_ble_eq_true rfl) zd_M_init_259 (fun H hP hS => ?_)
  have hP : zGP D rb 35 (zREk ka rb 33 0) H := zC_re (zREk_new ka rb 33 0 (j := 34) (by decide)) hP
  refine W.cs (cells' := 34) (slots' := 1579) rfl rfl ?_
  refine zr_putF (ty := .array .int) hx hb hts zin_M zt_M zto_M znm_M hown hK hP (zG_D rb 35 _) hS (zGL_in (Nat.le_refl _) (by omega)) (zREk_o ka rb 33 0) rfl 35 (by decide) (zl_M_110 hts) rfl rfl hnm rfl (by decide +kernel) rfl rfl (Nat.le_of_ble_eq_true rfl) zd_M_init_261 (fun H locs hP hS => ?_)
  have hP : zGP D rb 35 (zREk ka rb 34 0) H := zC_re (zREk_put ka rb 33 34 0 0 rfl) hP
  refine lv_aload_n hx hb zd_M_init_264 rfl (lv_at hl 0 rfl) ?_
  refine lv_sipush (v := 301) hx hb zd_M_init_265 (by decide) ?_
  refine zg_newa 0 (atype := .int) (n := 35) (N := 301) rfl rfl rfl hx hb hts zac_int hK hP hS hb0 (by omega) (by decide) (by decide) (by decide) (Nat.le_of_ble_eq_true rfl) (Nat.le_of_ble_eq_true rfl) zd_M_init_268 (fun H hP hS => ?_)
  have hP : zGP D rb 36 (zREk ka rb 34 0) H := zC_re (zREk_new ka rb 34 0 (j := 35) (by decide)) hP
  refine W.cs (cells' := 35) (slots' := 1880) rfl rfl ?_
  refine zr_putF (ty := .array .int) hx hb hts zin_M zt_M zto_M znm_M hown hK hP (zG_D rb 36 _) hS (zGL_in (Nat.le_refl _) (by omega)) (zREk_o ka rb 34 0) rfl 36 (by decide) (zl_M_113 hts) rfl rfl hnm rfl (by decide +kernel) rfl rfl (Nat.le_of_ble_eq_true rfl) zd_M_init_270 (fun H locs hP hS => ?_)
  have hP : zGP D rb 36 (zREk ka rb 35 0) H := zC_re (zREk_put ka rb 34 35 0 0 rfl) hP
  refine lv_aload_n hx hb zd_M_init_273 rfl (lv_at hl 0 rfl) ?_
  refine lv_sipush (v := 301) hx hb zd_M_init_274 (by decide) ?_
  refine zg_newa 0 (atype := .int) (n := 36) (N := 301) rfl rfl rfl hx hb hts zac_int hK hP hS hb0 (by omega) (by decide) (by decide) (by decide) (Nat.le_of_ble_eq_true rfl) (Nat.le_of_ble_eq_true rfl) zd_M_init_277 (fun H hP hS => ?_)
  have hP : zGP D rb 37 (zREk ka rb 35 0) H := zC_re (zREk_new ka rb 35 0 (j := 36) (by decide)) hP
  refine W.cs (cells' := 36) (slots' := 2181) rfl rfl ?_
  refine zr_putF (ty := .array .int) hx hb hts zin_M zt_M zto_M znm_M hown hK hP (zG_D rb 37 _) hS (zGL_in (Nat.le_refl _) (by omega)) (zREk_o ka rb 35 0) rfl 37 (by decide) (zl_M_116 hts) rfl rfl hnm rfl (by decide +kernel) rfl rfl (Nat.le_of_ble_eq_true rfl) zd_M_init_279 (fun H locs hP hS => ?_)
  have hP : zGP D rb 37 (zREk ka rb 36 0) H := zC_re (zREk_put ka rb 35 36 0 0 rfl) hP
  refine lv_aload_n hx hb zd_M_init_282 rfl (lv_at hl 0 rfl) ?_
  refine lv_sipush (v := 301) hx hb zd_M_init_283 (by decide) ?_
  refine zg_newa 0 (atype := .int) (n := 37) (N := 301) rfl rfl rfl hx hb hts zac_int hK hP hS hb0 (by omega) (by decide) (by decide) (by decide) (Nat.le_of_ble_eq_true rfl) (Nat.le_of_ble_eq_true rfl) zd_M_init_286 (fun H hP hS => ?_)
  have hP : zGP D rb 38 (zREk ka rb 36 0) H := zC_re (zREk_new ka rb 36 0 (j := 37) (by decide)) hP
  refine W.cs (cells' := 37) (slots' := 2482) rfl rfl ?_
  refine zr_putF (ty := .array .int) hx hb hts zin_M zt_M zto_M znm_M hown hK hP (zG_D rb 38 _) hS (zGL_in (Nat.le_refl _) (by omega)) (zREk_o ka rb 36 0) rfl 38 (by decide) (zl_M_119 hts) rfl rfl hnm rfl (by decide +kernel) rfl rfl (Nat.le_of_ble_eq_true rfl) zd_M_init_288 (fun H locs hP hS => ?_)
  have hP : zGP D rb 38 (zREk ka rb 37 0) H := zC_re (zREk_put ka rb 36 37 0 0 rfl) hP
  refine lv_aload_n hx hb zd_M_init_291 rfl (lv_at hl 0 rfl) ?_
  refine lv_sipush (v := 301) hx hb zd_M_init_292 (by decide) ?_
  refine zg_newa 0 (atype := .int) (n := 38) (N := 301) rfl rfl rfl hx hb hts zac_int hK hP hS hb0 (by omega) (by decide) (by decide) (by decide) (Nat.le_of_ble_eq_true rfl) (Nat.le_of_ble_eq_true rfl) zd_M_init_295 (fun H hP hS => ?_)
  have hP : zGP D rb 39 (zREk ka rb 37 0) H := zC_re (zREk_new ka rb 37 0 (j := 38) (by decide)) hP
  refine W.cs (cells' := 38) (slots' := 2783) rfl rfl ?_
  refine zr_putF (ty := .array .int) hx hb hts zin_M zt_M zto_M znm_M hown hK hP (zG_D rb 39 _) hS (zGL_in (Nat.le_refl _) (by omega)) (zREk_o ka rb 37 0) rfl 39 (by decide) (zl_M_122 hts) rfl rfl hnm rfl (by decide +kernel) rfl rfl (Nat.le_of_ble_eq_true rfl) zd_M_init_297 (fun H locs hP hS => ?_)
  have hP : zGP D rb 39 (zREk ka rb 38 0) H := zC_re (zREk_put ka rb 37 38 0 0 rfl) hP
  refine lv_aload_n hx hb zd_M_init_300 rfl (lv_at hl 0 rfl) ?_
  refine lv_iload_n hx hb zd_M_init_301 rfl (lv_at hl 1 rfl) ?_
  refine lv_iconst (v := 1) hx hb zd_M_init_302 (by decide) ?_
  refine lv_icmp_ge (tgt := 310) hx hb zd_M_init_303 (by decide) (fun h1 => ?_) (fun h1 => ?_)
  · refine lv_iload_n hx hb zd_M_init_310 rfl (lv_at hl 1 rfl) ?_
    refine lv_bipush (v := 9) hx hb zd_M_init_311 (by decide) ?_
    refine lv_icmp_le (tgt := 321) hx hb zd_M_init_313 (by decide) (fun h2 => ?_) (fun h2 => ?_)
    · refine lv_iload_n hx hb zd_M_init_321 rfl (lv_at hl 1 rfl) ?_
      refine zr_putF (ty := .int) hx hb hts zin_M zt_M zto_M znm_M hown hK hP (zG_D rb 39 _) hS (zGL_in (Nat.le_refl _) (by omega)) (zREk_o ka rb 38 0) rfl 0 (by decide) (zl_M_125 hts) rfl rfl hnm rfl (by decide +kernel) rfl rfl (Nat.le_of_ble_eq_true rfl) zd_M_init_322 (fun H locs hP hS => ?_)
      have hP : zGP D rb 39 (zREk ka rb 38 x0) H := zC_re (zREk_put ka rb 38 38 0 x0 rfl) hP
      refine zG_size (b0 := rb) (n := 39) (by decide) hP hS (by omega) (fun hz => ?_)
      rw [zREk_end, show x0 = zclamp x0 from (by simp [zclamp, h1, h2])] at hP
      exact zK_vret hx hb hr hlk hS (fun t ht hW => ⟨⟨by rw [ht]; exact hP, va_K.moved hW.alike hK⟩, by rw [ht]; exact hz⟩) zd_M_init_325
    · refine lv_bipush (v := 9) hx hb zd_M_init_316 (by decide) ?_
      refine lv_goto (tgt := 322) hx hb zd_M_init_318 (by decide) ?_
      refine zr_putF (ty := .int) hx hb hts zin_M zt_M zto_M znm_M hown hK hP (zG_D rb 39 _) hS (zGL_in (Nat.le_refl _) (by omega)) (zREk_o ka rb 38 0) rfl 0 (by decide) (zl_M_125 hts) rfl rfl hnm rfl (by decide +kernel) rfl rfl (Nat.le_of_ble_eq_true rfl) zd_M_init_322 (fun H locs hP hS => ?_)
      have hP : zGP D rb 39 (zREk ka rb 38 9) H := zC_re (zREk_put ka rb 38 38 0 9 rfl) hP
      refine zG_size (b0 := rb) (n := 39) (by decide) hP hS (by omega) (fun hz => ?_)
      rw [zREk_end, show 9 = zclamp x0 from (by simp [zclamp, h1, h2])] at hP
      exact zK_vret hx hb hr hlk hS (fun t ht hW => ⟨⟨by rw [ht]; exact hP, va_K.moved hW.alike hK⟩, by rw [ht]; exact hz⟩) zd_M_init_325
  · refine lv_iconst (v := 1) hx hb zd_M_init_306 (by decide) ?_
    refine lv_goto (tgt := 322) hx hb zd_M_init_307 (by decide) ?_
    refine zr_putF (ty := .int) hx hb hts zin_M zt_M zto_M znm_M hown hK hP (zG_D rb 39 _) hS (zGL_in (Nat.le_refl _) (by omega)) (zREk_o ka rb 38 0) rfl 0 (by decide) (zl_M_125 hts) rfl rfl hnm rfl (by decide +kernel) rfl rfl (Nat.le_of_ble_eq_true rfl) zd_M_init_322 (fun H locs hP hS => ?_)
    have hP : zGP D rb 39 (zREk ka rb 38 1) H := zC_re (zREk_put ka rb 38 38 0 1 rfl) hP
    refine zG_size (b0 := rb) (n := 39) (by decide) hP hS (by omega) (fun hz => ?_)
    rw [zREk_end, show 1 = zclamp x0 from (by simp [zclamp, h1])] at hP
    exact zK_vret hx hb hr hlk hS (fun t ht hW => ⟨⟨by rw [ht]; exact hP, va_K.moved hW.alike hK⟩, by rw [ht]; exact hz⟩) zd_M_init_325
