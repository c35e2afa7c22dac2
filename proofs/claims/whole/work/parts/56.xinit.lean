theorem zCE_pair0 (ka : Nat → ClassId) (cb : Nat) (x : Int32) : zCE ka cb (zC0 x) (zA0 cb) (cb + 1) = .inr (zciP, [.int 0, .int 0, .int 0]) := zCE_pair ka cb (zC0 x) (zA0 cb) (Or.inl rfl)
theorem zwm_s1 : Cond.static Lib.Math.min.name ∈ zAll := z_mem 19 (by decide +kernel) rfl
theorem zwm_s2 : Cond.static Lib.Math.max.name ∈ zAll := z_mem 22 (by decide +kernel) rfl
set_option maxRecDepth 100000 in
theorem zwm_c1 : Cond.code Lib.Math.min.name Lib.Math.min.code 2 (some .int) ∈ zAll := z_mem 20 rfl rfl
set_option maxRecDepth 100000 in
theorem zwm_c2 : Cond.code Lib.Math.max.name Lib.Math.max.code 2 (some .int) ∈ zAll := z_mem 23 rfl rfl
set_option maxRecDepth 100000 in
set_option maxHeartbeats 8000000 in
theorem zi_X (l : Launch) (D : va_G) (ka : Nat → ClassId) (cb : Nat) (x : Int32) : Met l zy_X_init (.code zy_X_init zc_X_init 4 none :: zAll) ({ frames := 3, cells := 345, slots := 2320, locals := 128 }) (va_Pc [.ref cb, .int x] (zGV D ka cb 1 (zEX ka cb (zclamp x) [.int 0, .null, .null, .null, .null, .null, .null, .null, .null]))) (va_Qv (fun (_ : Unit) => True) (fun _ t => zGW D ka cb 346 (zCE ka cb (zC0 (zclamp x)) (zA0 cb)) t) (zGA cb)) 345 2320 (zGA cb) := by
  refine z_met (by decide) (Nat.le_of_ble_eq_true rfl) ?_
  intro pg e s m below meth c hx hb hml hr hts hown hlk hnm hB ls hl
  obtain ⟨⟨hP, hsz, hK⟩, hAO⟩ := hB
  have hS : va_S (zGA cb) s.heap s.heap [] := va_S.rf
  have hb0 : cb ≤ s.heap.size := by omega
  have hl : lv_has ls 4 [(0, .ref cb), (1, .int x)] := hl
  refine lv_aload_n hx hb zd_X_init_0 rfl (lv_at hl 0 rfl) ?_
  refine W.objInit hx hb hown (hts _ zk_X_1) (hts _ zobj_i) (hts _ zobj_c) rfl (by rw [hml]; exact hl.1) rfl zd_X_init_1 (Nat.le_of_ble_eq_true rfl) (Nat.le_of_ble_eq_true rfl) ?_
  refine W.eq (g2 := F0 m 4 ls []) rfl ?_
  refine lv_aload_n hx hb zd_X_init_4 rfl (lv_at hl 0 rfl) ?_
  refine lv_iconst (v := 1) hx hb zd_X_init_5 (by decide) ?_
  refine lv_bipush (v := 9) hx hb zd_X_init_6 (by decide) ?_
  refine lv_iload_n hx hb zd_X_init_8 rfl (lv_at hl 1 rfl) ?_
  refine va_mmin hx hb (hml.trans hl.1.symm) hown (hts _ zk_X_9) (hts _ zwm_s1) (hts _ zwm_i) (hts _ zwm_c1) (Nat.le_of_ble_eq_true rfl) (Nat.le_of_ble_eq_true rfl) (Nat.le_of_ble_eq_true rfl) (Nat.le_of_ble_eq_true rfl) zd_X_init_9 ?_
  refine va_mmax hx hb (hml.trans hl.1.symm) hown (hts _ zk_X_15) (hts _ zwm_s2) (hts _ zwm_i) (hts _ zwm_c2) (Nat.le_of_ble_eq_true rfl) (Nat.le_of_ble_eq_true rfl) (Nat.le_of_ble_eq_true rfl) (Nat.le_of_ble_eq_true rfl) zd_X_init_12 ?_
  rw [zclamp_m]
  refine zr_putF (ty := .int) hx hb hts zin_X zt_X zto_X znm_X hown hK hP (zG_D cb 1 _) hS (zGL_in (by omega) (by omega)) (zEX_x ka cb _ _) rfl 0 (by decide) (zl_X_18 hts) rfl rfl hnm rfl (by decide +kernel) rfl rfl (Nat.le_of_ble_eq_true rfl) zd_X_init_15 (fun H locs hP hS => ?_)
  have hP : zGP D cb 1 (zEX ka cb (zclamp x) [.int (zclamp x), .null, .null, .null, .null, .null, .null, .null, .null]) H := zC_re (zEX_s ka cb _ _ _) hP
  refine zg_new (ci := zciP) (fs := [.int 0, .int 0, .int 0]) (C := zN_P) (T := zT_P) (N := 3) (n := 1) hx hb hts zin_P zt_P zto_P hown zcl_X_22 zis_P zit_P hK hP hS hb0 (by omega) rfl (fun j hj => by rcases (show j = 0 ∨ j = 1 ∨ j = 2 by omega) with rfl | rfl | rfl <;> rfl) (Nat.le_of_ble_eq_true rfl) (Nat.le_of_ble_eq_true rfl) zd_X_init_18 (fun H hP hS => ?_)
  refine lv_dup hx hb zd_X_init_21 rfl ?_
  refine lv_iconst (v := 0) hx hb zd_X_init_22 (by decide) ?_
  refine lv_iconst (v := 0) hx hb zd_X_init_23 (by decide) ?_
  refine lv_iconst (v := 0) hx hb zd_X_init_24 (by decide) ?_
  have hEp : ∀ fs : List Value, zEX ka cb (zclamp x) fs (cb + 1) = (.inr (zciP, [.int 0, .int 0, .int 0])) := fun fs => (zEX_at (by omega)).trans (zCE_pair0 ka cb (zclamp x))
  have hP : zGP D cb 2 (zEX ka cb (zclamp x) [.int (zclamp x), .null, .null, .null, .null, .null, .null, .null, .null]) H := zC_re (zup_id (hEp _)) hP
  refine zG_size (b0 := cb) (n := 2) (by omega) hP hS (by omega) (fun hz => ?_)
  refine zK_callI (nA := 3) (As := [.int 0, .int 0, .int 0]) (rest := [.ref (cb + 1)]) zGV_blind (zi_P l D ka cb 2 (cb + 1) (zEX ka cb (zclamp x) [.int (zclamp x), .null, .null, .null, .null, .null, .null, .null, .null]) (by omega) (by omega) (hEp _) 0 0 0) zh_P_init zit_P zim_P_init zk_X_24 rfl (by decide) ⟨rfl, rfl⟩ ⟨(Nat.le_of_ble_eq_true rfl), (Nat.le_of_ble_eq_true rfl)⟩ hx hb hml hts hown (fun U hU hW => ⟨zG_U hK hP hS hz U hU hW, zAO_moved hW hAO⟩) hS (fun _ h => h) hl.1 rfl rfl (Nat.le_of_ble_eq_true rfl) ⟨(Nat.le_of_ble_eq_true rfl), (Nat.le_of_ble_eq_true rfl)⟩ zd_X_init_25 (fun t locs hvm hB hS _ _ => ?_)
  obtain ⟨hP, -, -⟩ := hB
  have hP : zGP D cb 2 (zEX ka cb (zclamp x) [.int (zclamp x), .null, .null, .null, .null, .null, .null, .null, .null]) t.heap := zC_re (zup_id (hEp _)) hP
  refine lv_astore_n hx hb zd_X_init_28 rfl hl (by decide) rfl (fun ls hl => ?_)
  have hl : lv_has ls 4 [(2, .ref (cb + 1)), (0, .ref cb), (1, .int x)] := hl
  have hl : lv_has ls 4 [(0, .ref cb), (1, .int x), (2, .ref (cb + 1))] := lv_sub hl [1, 2, 0] rfl
  refine lv_aload_n hx hb zd_X_init_29 rfl (lv_at hl 0 rfl) ?_
  refine lv_bipush (v := 9) hx hb zd_X_init_30 (by decide) ?_
  refine zg_newq 4 (C := "SpanBoard$Recorder") (n := 2) (N := 9) rfl hx hb hts hown zcl_X_27 hAO.1 hK hP hS hb0 (by omega) (by decide) (by decide) (Nat.le_of_ble_eq_true rfl) (Nat.le_of_ble_eq_true rfl) zd_X_init_32 (fun H hP hS => ?_)
  rw [← zH_0 (fun r => some (cb + (3 + 2 * r)))] at hP
  have hP : zGP D cb 3 (zEL ka cb (zclamp x) [.int (zclamp x), .null, .null, .null, .null, .null, .null, .null, .null] (cb + 2) (ka 4) 9 (fun r => some (cb + (3 + 2 * r))) 0) H := hP
  refine zr_putF (ty := (.array (.object "SpanBoard$Recorder"))) hx hb hts zin_X zt_X zto_X znm_X hown hK hP (zG_D cb 3 _) hS (zGL_in (by omega) (by omega)) (zEL_x (by omega)) rfl 1 (by decide) (zl_X_29 hts) rfl rfl hnm rfl (by decide +kernel) rfl rfl (Nat.le_of_ble_eq_true rfl) zd_X_init_35 (fun H locs hP hS => ?_)
  have hP : zGP D cb 3 (zEL ka cb (zclamp x) [.int (zclamp x), .ref (cb + 2), .null, .null, .null, .null, .null, .null, .null] (cb + 2) (ka 4) 9 (fun r => some (cb + (3 + 2 * r))) 0) H := zC_re (zEL_p (by omega)) hP
  refine lv_iconst (v := 0) hx hb zd_X_init_38 (by decide) ?_
  refine lv_istore_n hx hb zd_X_init_39 rfl hl (by decide) rfl (fun ls hl => ?_)
  have hl : lv_has ls 4 [(3, .int 0), (0, .ref cb), (1, .int x), (2, .ref (cb + 1))] := hl
  have hl : lv_has ls 4 [(0, .ref cb), (1, .int x), (2, .ref (cb + 1)), (3, .int (nI 0))] := lv_sub hl [1, 2, 3, 0] rfl
  suffices hk9 : ∀ (H : Heap) (locs : List Loc) (ls : Array Slot), lv_has ls 4 [(0, .ref cb), (1, .int x), (2, .ref (cb + 1))] → zGP D cb 21 (zEX ka cb (zclamp x) [.int (zclamp x), .ref (cb + 2), .null, .null, .null, .null, .null, .null, .null]) H → va_S (zGA cb) s.heap H locs → W pg l e ({ frames := 3, cells := 345, slots := 2320, locals := 128 }) s m (List.toArray [.ref cb, .int x]) below meth c H locs 20 75 (MQ below (va_Qv (fun (_ : Unit) => True) (fun _ t => zGW D ka cb 346 (zCE ka cb (zC0 (zclamp x)) (zA0 cb)) t) (zGA cb)) (List.toArray [.ref cb, .int x]) s 345 2320 (zGA cb)) (F0 m 66 ls []) by
    have L : ∀ (j k cl sl : Nat), k + j = 9 → cl = 2 + 2 * k → sl = 12 + 7 * k → ∀ (H : Heap) (locs : List Loc) (ls : Array Slot), lv_has ls 4 [(0, .ref cb), (1, .int x), (2, .ref (cb + 1)), (3, .int (nI k))] → zGP D cb (3 + 2 * k) (zEL ka cb (zclamp x) [.int (zclamp x), .ref (cb + 2), .null, .null, .null, .null, .null, .null, .null] (cb + 2) (ka 4) 9 (fun r => some (cb + (3 + 2 * r))) k) H → va_S (zGA cb) s.heap H locs → W pg l e ({ frames := 3, cells := 345, slots := 2320, locals := 128 }) s m (List.toArray [.ref cb, .int x]) below meth c H locs cl sl (MQ below (va_Qv (fun (_ : Unit) => True) (fun _ t => zGW D ka cb 346 (zCE ka cb (zC0 (zclamp x)) (zA0 cb)) t) (zGA cb)) (List.toArray [.ref cb, .int x]) s 345 2320 (zGA cb)) (F0 m 40 ls []) := by
      intro j
      induction j with
      | zero =>
        intro k cl sl hk hcl hsl H locs ls hl hP hS
        have hk : k = 9 := by omega
        subst hk
        have hcl : cl = 20 := by omega
        have hsl : sl = 75 := by omega
        subst hcl
        subst hsl
        refine lv_iload_n hx hb zd_X_init_40 rfl (lv_at hl 3 rfl) ?_
        refine lv_bipush (v := 9) hx hb zd_X_init_41 (by decide) ?_
        refine lv_icmp_ge (tgt := 66) hx hb zd_X_init_43 (by decide) (fun h9 => ?_) (fun h9 => absurd (by decide) h9)
        exact hk9 H locs ls (lv_sub hl [0, 1, 2] rfl) (zEL_end (by omega) (zCE_recs ka cb _ _) hP) hS
      | succ j ih =>
        intro k cl sl hk hcl hsl H locs ls hl hP hS
        refine lv_iload_n hx hb zd_X_init_40 rfl (lv_at hl 3 rfl) ?_
        refine lv_bipush (v := 9) hx hb zd_X_init_41 (by decide) ?_
        refine lv_icmp_ge (tgt := 66) hx hb zd_X_init_43 (by decide) (fun h9 => absurd h9 (nI_ge (b := 9) (by omega) (by decide))) (fun h9 => ?_)
        refine lv_aload_n hx hb zd_X_init_46 rfl (lv_at hl 0 rfl) ?_
        refine zr_get (v := .ref (cb + 2)) hx hb hts zin_X hown hK hP (zGL_in (by omega) (by omega)) (zEL_x (by omega)) rfl 1 (by decide) (zl_X_29 hts) rfl rfl zd_X_init_47 ?_
        refine lv_iload_n hx hb zd_X_init_50 rfl (lv_at hl 3 rfl) ?_
        refine zg_new (ci := zciR) (fs := [.null, .int 0, .int 0]) (C := zN_R) (T := zT_R) (N := 3) (n := (3 + 2 * k)) hx hb hts zin_R zt_R zto_R hown zcl_X_27 zis_R zit_R hK hP hS hb0 (by omega) rfl (fun j hj => by rcases (show j = 0 ∨ j = 1 ∨ j = 2 by omega) with rfl | rfl | rfl <;> rfl) (show cl + 1 ≤ 345 by omega) (show sl + 3 ≤ 2320 by omega) zd_X_init_51 (fun H hP hS => ?_)
        refine lv_dup hx hb zd_X_init_54 rfl ?_
        refine lv_aload_n hx hb zd_X_init_55 rfl (lv_at hl 2 rfl) ?_
        refine zG_size (b0 := cb) (n := (3 + 2 * k) + 1) (by omega) hP hS (by omega) (fun hz => ?_)
        refine zK_callI (nA := 1) (As := [.ref (cb + 1)]) (rest := [.ref (cb + (3 + 2 * k)), .int (nI k), .ref (cb + 2)]) zGV_blind (zi_R l D ka cb ((3 + 2 * k) + 1) (cb + (3 + 2 * k)) (va_up (zEL ka cb (zclamp x) [.int (zclamp x), .ref (cb + 2), .null, .null, .null, .null, .null, .null, .null] (cb + 2) (ka 4) 9 (fun r => some (cb + (3 + 2 * r))) k) (cb + (3 + 2 * k)) (.inr (zciR, [.null, .int 0, .int 0]))) (by omega) (by omega) (va_up_self _ _ _) (cb + 1) [.int 0, .int 0, .int 0] (by omega) (by omega) (by omega) (by rw [va_up_ne _ _ (by omega)]; exact (zEL_at (by omega) (by omega)).trans (zCE_pair0 ka cb (zclamp x)))) zh_R_init zit_R zim_R_init zk_X_33 rfl (by decide) ⟨rfl, rfl⟩ ⟨(Nat.le_of_ble_eq_true rfl), (Nat.le_of_ble_eq_true rfl)⟩ hx hb hml hts hown (fun U hU hW => ⟨zG_U hK hP hS hz U hU hW, zAO_moved hW hAO⟩) hS (fun _ h => h) hl.1 rfl rfl (Nat.le_of_ble_eq_true rfl) ⟨show cl + 1 + 1 ≤ 345 by omega, show sl + 3 + 4 ≤ 2320 by omega⟩ zd_X_init_56 (fun t locs hvm hB hS _ _ => ?_)
        obtain ⟨hP, -, -⟩ := hB
        have hP : zGP D cb ((3 + 2 * k) + 1 + 1) (zEL ka cb (zclamp x) [.int (zclamp x), .ref (cb + 2), .null, .null, .null, .null, .null, .null, .null] (cb + 2) (ka 4) 9 (fun r => some (cb + (3 + 2 * r))) k) t.heap := zC_re (zmk_R (by omega)) hP
        have hV : (zEL ka cb (zclamp x) [.int (zclamp x), .ref (cb + 2), .null, .null, .null, .null, .null, .null, .null] (cb + 2) (ka 4) 9 (fun r => some (cb + (3 + 2 * r))) k) (cb + (3 + 2 * k)) = .inr (zciR, _) := (zEL_at (by omega) (by omega)).trans (zCE_rec ka cb _ _ (by omega))
        refine zr_aast (r := (zN_R, zT_R, 3)) hx hb hK hP (zG_D cb _ _) hS (zGL_in (by omega) (by omega)) 4 zciR (zEL_a ka cb _ _ _ _ _ _ _) rfl (zGL_in (by omega) (by omega)) hV rfl (j := k) rfl (by omega) (by decide) zd_X_init_59 (fun H locs hP hS => ?_)
        have hP : zGP D cb (3 + 2 * (k + 1)) (zEL ka cb (zclamp x) [.int (zclamp x), .ref (cb + 2), .null, .null, .null, .null, .null, .null, .null] (cb + 2) (ka 4) 9 (fun r => some (cb + (3 + 2 * r))) (k + 1)) H := zC_re (zEL_s ka cb _ _ _ _ _ (fun r => some (cb + (3 + 2 * r))) k) hP
        refine lv_iinc (v := nI (k + 1)) (k := 3) hx hb zd_X_init_60 hl rfl (nI_1 _) (by decide) rfl (fun ls hl => ?_)
        have hl : lv_has ls 4 [(3, .int (nI (k + 1))), (0, .ref cb), (1, .int x), (2, .ref (cb + 1))] := hl
        refine lv_goto (tgt := 40) hx hb zd_X_init_63 (by decide) ?_
        exact ih (k + 1) _ _ (by omega) (by omega) (by omega) H locs ls (lv_sub hl [1, 2, 3, 0] rfl) hP hS
    exact L 9 0 _ _ (by omega) rfl rfl _ _ _ hl hP hS
  intro H locs ls hl hP hS
  refine lv_aload_n hx hb zd_X_init_66 rfl (lv_at hl 0 rfl) ?_
  refine lv_iconst (v := 4) hx hb zd_X_init_67 (by decide) ?_
  refine zg_newq 5 (C := "SpanBoard$Writer") (n := 21) (N := 4) rfl hx hb hts hown zcl_X_36 hAO.2.2.1 hK hP hS hb0 (by omega) (by decide) (by decide) (Nat.le_of_ble_eq_true rfl) (Nat.le_of_ble_eq_true rfl) zd_X_init_68 (fun H hP hS => ?_)
  rw [← zH_0 (fun r => some (cb + (22 + 2 * r)))] at hP
  have hP : zGP D cb 22 (zEL ka cb (zclamp x) [.int (zclamp x), .ref (cb + 2), .null, .null, .null, .null, .null, .null, .null] (cb + 21) (ka 5) 4 (fun r => some (cb + (22 + 2 * r))) 0) H := hP
  refine zr_putF (ty := (.array (.object "SpanBoard$Writer"))) hx hb hts zin_X zt_X zto_X znm_X hown hK hP (zG_D cb 22 _) hS (zGL_in (by omega) (by omega)) (zEL_x (by omega)) rfl 2 (by decide) (zl_X_38 hts) rfl rfl hnm rfl (by decide +kernel) rfl rfl (Nat.le_of_ble_eq_true rfl) zd_X_init_71 (fun H locs hP hS => ?_)
  have hP : zGP D cb 22 (zEL ka cb (zclamp x) [.int (zclamp x), .ref (cb + 2), .ref (cb + 21), .null, .null, .null, .null, .null, .null] (cb + 21) (ka 5) 4 (fun r => some (cb + (22 + 2 * r))) 0) H := zC_re (zEL_p (by omega)) hP
  refine lv_iconst (v := 0) hx hb zd_X_init_74 (by decide) ?_
  refine lv_istore_n hx hb zd_X_init_75 rfl hl (by decide) rfl (fun ls hl => ?_)
  have hl : lv_has ls 4 [(3, .int 0), (0, .ref cb), (1, .int x), (2, .ref (cb + 1))] := hl
  have hl : lv_has ls 4 [(0, .ref cb), (1, .int x), (2, .ref (cb + 1)), (3, .int (nI 0))] := lv_sub hl [1, 2, 3, 0] rfl
  suffices hk9 : ∀ (H : Heap) (locs : List Loc) (ls : Array Slot), lv_has ls 4 [(0, .ref cb), (1, .int x), (2, .ref (cb + 1))] → zGP D cb 30 (zEX ka cb (zclamp x) [.int (zclamp x), .ref (cb + 2), .ref (cb + 21), .null, .null, .null, .null, .null, .null]) H → va_S (zGA cb) s.heap H locs → W pg l e ({ frames := 3, cells := 345, slots := 2320, locals := 128 }) s m (List.toArray [.ref cb, .int x]) below meth c H locs 29 135 (MQ below (va_Qv (fun (_ : Unit) => True) (fun _ t => zGW D ka cb 346 (zCE ka cb (zC0 (zclamp x)) (zA0 cb)) t) (zGA cb)) (List.toArray [.ref cb, .int x]) s 345 2320 (zGA cb)) (F0 m 101 ls []) by
    have L : ∀ (j k cl sl : Nat), k + j = 4 → cl = 21 + 2 * k → sl = 79 + 14 * k → ∀ (H : Heap) (locs : List Loc) (ls : Array Slot), lv_has ls 4 [(0, .ref cb), (1, .int x), (2, .ref (cb + 1)), (3, .int (nI k))] → zGP D cb (22 + 2 * k) (zEL ka cb (zclamp x) [.int (zclamp x), .ref (cb + 2), .ref (cb + 21), .null, .null, .null, .null, .null, .null] (cb + 21) (ka 5) 4 (fun r => some (cb + (22 + 2 * r))) k) H → va_S (zGA cb) s.heap H locs → W pg l e ({ frames := 3, cells := 345, slots := 2320, locals := 128 }) s m (List.toArray [.ref cb, .int x]) below meth c H locs cl sl (MQ below (va_Qv (fun (_ : Unit) => True) (fun _ t => zGW D ka cb 346 (zCE ka cb (zC0 (zclamp x)) (zA0 cb)) t) (zGA cb)) (List.toArray [.ref cb, .int x]) s 345 2320 (zGA cb)) (F0 m 76 ls []) := by
      intro j
      induction j with
      | zero =>
        intro k cl sl hk hcl hsl H locs ls hl hP hS
        have hk : k = 4 := by omega
        subst hk
        have hcl : cl = 29 := by omega
        have hsl : sl = 135 := by omega
        subst hcl
        subst hsl
        refine lv_iload_n hx hb zd_X_init_76 rfl (lv_at hl 3 rfl) ?_
        refine lv_iconst (v := 4) hx hb zd_X_init_77 (by decide) ?_
        refine lv_icmp_ge (tgt := 101) hx hb zd_X_init_78 (by decide) (fun h9 => ?_) (fun h9 => absurd (by decide) h9)
        exact hk9 H locs ls (lv_sub hl [0, 1, 2] rfl) (zEL_end (by omega) (zCE_wris ka cb _ _) hP) hS
      | succ j ih =>
        intro k cl sl hk hcl hsl H locs ls hl hP hS
        refine lv_iload_n hx hb zd_X_init_76 rfl (lv_at hl 3 rfl) ?_
        refine lv_iconst (v := 4) hx hb zd_X_init_77 (by decide) ?_
        refine lv_icmp_ge (tgt := 101) hx hb zd_X_init_78 (by decide) (fun h9 => absurd h9 (nI_ge (b := 4) (by omega) (by decide))) (fun h9 => ?_)
        refine lv_aload_n hx hb zd_X_init_81 rfl (lv_at hl 0 rfl) ?_
        refine zr_get (v := .ref (cb + 21)) hx hb hts zin_X hown hK hP (zGL_in (by omega) (by omega)) (zEL_x (by omega)) rfl 2 (by decide) (zl_X_38 hts) rfl rfl zd_X_init_82 ?_
        refine lv_iload_n hx hb zd_X_init_85 rfl (lv_at hl 3 rfl) ?_
        refine zg_new (ci := zciW) (fs := [.null, .int 0, .null, .int 0, .int 0]) (C := zN_W) (T := zT_W) (N := 5) (n := (22 + 2 * k)) hx hb hts zin_W zt_W zto_W hown zcl_X_36 zis_W zit_W hK hP hS hb0 (by omega) rfl (fun j hj => by rcases (show j = 0 ∨ j = 1 ∨ j = 2 ∨ j = 3 ∨ j = 4 by omega) with rfl | rfl | rfl | rfl | rfl <;> rfl) (show cl + 1 ≤ 345 by omega) (show sl + 5 ≤ 2320 by omega) zd_X_init_86 (fun H hP hS => ?_)
        refine lv_dup hx hb zd_X_init_89 rfl ?_
        refine lv_aload_n hx hb zd_X_init_90 rfl (lv_at hl 2 rfl) ?_
        refine zG_size (b0 := cb) (n := (22 + 2 * k) + 1) (by omega) hP hS (by omega) (fun hz => ?_)
        refine zK_callI (nA := 1) (As := [.ref (cb + 1)]) (rest := [.ref (cb + (22 + 2 * k)), .int (nI k), .ref (cb + 21)]) zGV_blind (zi_W l D ka cb ((22 + 2 * k) + 1) (cb + (22 + 2 * k)) (va_up (zEL ka cb (zclamp x) [.int (zclamp x), .ref (cb + 2), .ref (cb + 21), .null, .null, .null, .null, .null, .null] (cb + 21) (ka 5) 4 (fun r => some (cb + (22 + 2 * r))) k) (cb + (22 + 2 * k)) (.inr (zciW, [.null, .int 0, .null, .int 0, .int 0]))) (by omega) (by omega) (va_up_self _ _ _) (cb + 1)) zh_W_init zit_W zim_W_init zk_X_42 rfl (by decide) ⟨rfl, rfl⟩ ⟨(Nat.le_of_ble_eq_true rfl), (Nat.le_of_ble_eq_true rfl)⟩ hx hb hml hts hown (fun U hU hW => ⟨zG_U hK hP hS hz U hU hW, zAO_moved hW hAO⟩) hS (fun _ h => h) hl.1 rfl rfl (Nat.le_of_ble_eq_true rfl) ⟨show cl + 1 + 1 ≤ 345 by omega, show sl + 5 + 9 ≤ 2320 by omega⟩ zd_X_init_91 (fun t locs hvm hB hS _ _ => ?_)
        obtain ⟨hP, -, -⟩ := hB
        have hP : zGP D cb ((22 + 2 * k) + 1 + 1) (zEL ka cb (zclamp x) [.int (zclamp x), .ref (cb + 2), .ref (cb + 21), .null, .null, .null, .null, .null, .null] (cb + 21) (ka 5) 4 (fun r => some (cb + (22 + 2 * r))) k) t.heap := zC_re (zmk_W (by omega)) hP
        have hV : (zEL ka cb (zclamp x) [.int (zclamp x), .ref (cb + 2), .ref (cb + 21), .null, .null, .null, .null, .null, .null] (cb + 21) (ka 5) 4 (fun r => some (cb + (22 + 2 * r))) k) (cb + (22 + 2 * k)) = .inr (zciW, _) := (zEL_at (by omega) (by omega)).trans (zCE_wri ka cb _ _ (by omega))
        refine zr_aast (r := (zN_W, zT_W, 5)) hx hb hK hP (zG_D cb _ _) hS (zGL_in (by omega) (by omega)) 5 zciW (zEL_a ka cb _ _ _ _ _ _ _) rfl (zGL_in (by omega) (by omega)) hV rfl (j := k) rfl (by omega) (by decide) zd_X_init_94 (fun H locs hP hS => ?_)
        have hP : zGP D cb (22 + 2 * (k + 1)) (zEL ka cb (zclamp x) [.int (zclamp x), .ref (cb + 2), .ref (cb + 21), .null, .null, .null, .null, .null, .null] (cb + 21) (ka 5) 4 (fun r => some (cb + (22 + 2 * r))) (k + 1)) H := zC_re (zEL_s ka cb _ _ _ _ _ (fun r => some (cb + (22 + 2 * r))) k) hP
        refine lv_iinc (v := nI (k + 1)) (k := 3) hx hb zd_X_init_95 hl rfl (nI_1 _) (by decide) rfl (fun ls hl => ?_)
        have hl : lv_has ls 4 [(3, .int (nI (k + 1))), (0, .ref cb), (1, .int x), (2, .ref (cb + 1))] := hl
        refine lv_goto (tgt := 76) hx hb zd_X_init_98 (by decide) ?_
        exact ih (k + 1) _ _ (by omega) (by omega) (by omega) H locs ls (lv_sub hl [1, 2, 3, 0] rfl) hP hS
    exact L 4 0 _ _ (by omega) rfl rfl _ _ _ hl hP hS
  intro H locs ls hl hP hS
  refine lv_aload_n hx hb zd_X_init_101 rfl (lv_at hl 0 rfl) ?_
  refine lv_iconst (v := 3) hx hb zd_X_init_102 (by decide) ?_
  refine zg_newq 6 (C := "SpanBoard$Reader") (n := 30) (N := 3) rfl hx hb hts hown zcl_X_43 hAO.2.2.2.1 hK hP hS hb0 (by omega) (by decide) (by decide) (Nat.le_of_ble_eq_true rfl) (Nat.le_of_ble_eq_true rfl) zd_X_init_103 (fun H hP hS => ?_)
  rw [← zH_0 (fun r => some (cb + (31 + 3 * r)))] at hP
  have hP : zGP D cb 31 (zEL ka cb (zclamp x) [.int (zclamp x), .ref (cb + 2), .ref (cb + 21), .null, .null, .null, .null, .null, .null] (cb + 30) (ka 6) 3 (fun r => some (cb + (31 + 3 * r))) 0) H := hP
  refine zr_putF (ty := (.array (.object "SpanBoard$Reader"))) hx hb hts zin_X zt_X zto_X znm_X hown hK hP (zG_D cb 31 _) hS (zGL_in (by omega) (by omega)) (zEL_x (by omega)) rfl 3 (by decide) (zl_X_45 hts) rfl rfl hnm rfl (by decide +kernel) rfl rfl (Nat.le_of_ble_eq_true rfl) zd_X_init_106 (fun H locs hP hS => ?_)
  have hP : zGP D cb 31 (zEL ka cb (zclamp x) [.int (zclamp x), .ref (cb + 2), .ref (cb + 21), .ref (cb + 30), .null, .null, .null, .null, .null] (cb + 30) (ka 6) 3 (fun r => some (cb + (31 + 3 * r))) 0) H := zC_re (zEL_p (by omega)) hP
  refine lv_iconst (v := 0) hx hb zd_X_init_109 (by decide) ?_
  refine lv_istore_n hx hb zd_X_init_110 rfl hl (by decide) rfl (fun ls hl => ?_)
  have hl : lv_has ls 4 [(3, .int 0), (0, .ref cb), (1, .int x), (2, .ref (cb + 1))] := hl
  have hl : lv_has ls 4 [(0, .ref cb), (1, .int x), (2, .ref (cb + 1)), (3, .int (nI 0))] := lv_sub hl [1, 2, 3, 0] rfl
  suffices hk9 : ∀ (H : Heap) (locs : List Loc) (ls : Array Slot), lv_has ls 4 [(0, .ref cb), (1, .int x), (2, .ref (cb + 1))] → zGP D cb 40 (zEX ka cb (zclamp x) [.int (zclamp x), .ref (cb + 2), .ref (cb + 21), .ref (cb + 30), .null, .null, .null, .null, .null]) H → va_S (zGA cb) s.heap H locs → W pg l e ({ frames := 3, cells := 345, slots := 2320, locals := 128 }) s m (List.toArray [.ref cb, .int x]) below meth c H locs 39 204 (MQ below (va_Qv (fun (_ : Unit) => True) (fun _ t => zGW D ka cb 346 (zCE ka cb (zC0 (zclamp x)) (zA0 cb)) t) (zGA cb)) (List.toArray [.ref cb, .int x]) s 345 2320 (zGA cb)) (F0 m 136 ls []) by
    have L : ∀ (j k cl sl : Nat), k + j = 3 → cl = 30 + 3 * k → sl = 138 + 22 * k → ∀ (H : Heap) (locs : List Loc) (ls : Array Slot), lv_has ls 4 [(0, .ref cb), (1, .int x), (2, .ref (cb + 1)), (3, .int (nI k))] → zGP D cb (31 + 3 * k) (zEL ka cb (zclamp x) [.int (zclamp x), .ref (cb + 2), .ref (cb + 21), .ref (cb + 30), .null, .null, .null, .null, .null] (cb + 30) (ka 6) 3 (fun r => some (cb + (31 + 3 * r))) k) H → va_S (zGA cb) s.heap H locs → W pg l e ({ frames := 3, cells := 345, slots := 2320, locals := 128 }) s m (List.toArray [.ref cb, .int x]) below meth c H locs cl sl (MQ below (va_Qv (fun (_ : Unit) => True) (fun _ t => zGW D ka cb 346 (zCE ka cb (zC0 (zclamp x)) (zA0 cb)) t) (zGA cb)) (List.toArray [.ref cb, .int x]) s 345 2320 (zGA cb)) (F0 m 111 ls []) := by
      intro j
      induction j with
      | zero =>
        intro k cl sl hk hcl hsl H locs ls hl hP hS
        have hk : k = 3 := by omega
        subst hk
        have hcl : cl = 39 := by omega
        have hsl : sl = 204 := by omega
        subst hcl
        subst hsl
        refine lv_iload_n hx hb zd_X_init_111 rfl (lv_at hl 3 rfl) ?_
        refine lv_iconst (v := 3) hx hb zd_X_init_112 (by decide) ?_
        refine lv_icmp_ge (tgt := 136) hx hb zd_X_init_113 (by decide) (fun h9 => ?_) (fun h9 => absurd (by decide) h9)
        exact hk9 H locs ls (lv_sub hl [0, 1, 2] rfl) (zEL_end (by omega) (zCE_reas ka cb _ _) hP) hS
      | succ j ih =>
        intro k cl sl hk hcl hsl H locs ls hl hP hS
        refine lv_iload_n hx hb zd_X_init_111 rfl (lv_at hl 3 rfl) ?_
        refine lv_iconst (v := 3) hx hb zd_X_init_112 (by decide) ?_
        refine lv_icmp_ge (tgt := 136) hx hb zd_X_init_113 (by decide) (fun h9 => absurd h9 (nI_ge (b := 3) (by omega) (by decide))) (fun h9 => ?_)
        refine lv_aload_n hx hb zd_X_init_116 rfl (lv_at hl 0 rfl) ?_
        refine zr_get (v := .ref (cb + 30)) hx hb hts zin_X hown hK hP (zGL_in (by omega) (by omega)) (zEL_x (by omega)) rfl 3 (by decide) (zl_X_45 hts) rfl rfl zd_X_init_117 ?_
        refine lv_iload_n hx hb zd_X_init_120 rfl (lv_at hl 3 rfl) ?_
        refine zg_new (ci := zciD) (fs := [.null, .null, .int 0, .int 0, .int 0, .int 0, .int 0, .int 0, .null]) (C := zN_D) (T := zT_D) (N := 9) (n := (31 + 3 * k)) hx hb hts zin_D zt_D zto_D hown zcl_X_43 zis_D zit_D hK hP hS hb0 (by omega) rfl (fun j hj => by rcases (show j = 0 ∨ j = 1 ∨ j = 2 ∨ j = 3 ∨ j = 4 ∨ j = 5 ∨ j = 6 ∨ j = 7 ∨ j = 8 by omega) with rfl | rfl | rfl | rfl | rfl | rfl | rfl | rfl | rfl <;> rfl) (show cl + 1 ≤ 345 by omega) (show sl + 9 ≤ 2320 by omega) zd_X_init_121 (fun H hP hS => ?_)
        refine lv_dup hx hb zd_X_init_124 rfl ?_
        refine lv_aload_n hx hb zd_X_init_125 rfl (lv_at hl 2 rfl) ?_
        refine zG_size (b0 := cb) (n := (31 + 3 * k) + 1) (by omega) hP hS (by omega) (fun hz => ?_)
        refine zK_callI (nA := 1) (As := [.ref (cb + 1)]) (rest := [.ref (cb + (31 + 3 * k)), .int (nI k), .ref (cb + 30)]) zGV_blind (zi_D l D ka cb ((31 + 3 * k) + 1) (cb + (31 + 3 * k)) (va_up (zEL ka cb (zclamp x) [.int (zclamp x), .ref (cb + 2), .ref (cb + 21), .ref (cb + 30), .null, .null, .null, .null, .null] (cb + 30) (ka 6) 3 (fun r => some (cb + (31 + 3 * r))) k) (cb + (31 + 3 * k)) (.inr (zciD, [.null, .null, .int 0, .int 0, .int 0, .int 0, .int 0, .int 0, .null]))) (by omega) (by omega) (va_up_self _ _ _) (cb + 1) [.int 0, .int 0, .int 0] (by omega) (by omega) (by omega) (by rw [va_up_ne _ _ (by omega)]; exact (zEL_at (by omega) (by omega)).trans (zCE_pair0 ka cb (zclamp x)))) zh_D_init zit_D zim_D_init zk_X_49 rfl (by decide) ⟨rfl, rfl⟩ ⟨(Nat.le_of_ble_eq_true rfl), (Nat.le_of_ble_eq_true rfl)⟩ hx hb hml hts hown (fun U hU hW => ⟨zG_U hK hP hS hz U hU hW, zAO_moved hW hAO⟩) hS (fun _ h => h) hl.1 rfl rfl (Nat.le_of_ble_eq_true rfl) ⟨show cl + 1 + 2 ≤ 345 by omega, show sl + 9 + 13 ≤ 2320 by omega⟩ zd_X_init_126 (fun t locs hvm hB hS _ _ => ?_)
        obtain ⟨hP, -, -⟩ := hB
        have hP : zGP D cb ((31 + 3 * k) + 1 + 2) (zEL ka cb (zclamp x) [.int (zclamp x), .ref (cb + 2), .ref (cb + 21), .ref (cb + 30), .null, .null, .null, .null, .null] (cb + 30) (ka 6) 3 (fun r => some (cb + (31 + 3 * r))) k) t.heap := zC_re (zmk_D (by omega)) hP
        have hV : (zEL ka cb (zclamp x) [.int (zclamp x), .ref (cb + 2), .ref (cb + 21), .ref (cb + 30), .null, .null, .null, .null, .null] (cb + 30) (ka 6) 3 (fun r => some (cb + (31 + 3 * r))) k) (cb + (31 + 3 * k)) = .inr (zciD, _) := (zEL_at (by omega) (by omega)).trans (zCE_rea ka cb _ _ (by omega))
        refine zr_aast (r := (zN_D, zT_D, 9)) hx hb hK hP (zG_D cb _ _) hS (zGL_in (by omega) (by omega)) 6 zciD (zEL_a ka cb _ _ _ _ _ _ _) rfl (zGL_in (by omega) (by omega)) hV rfl (j := k) rfl (by omega) (by decide) zd_X_init_129 (fun H locs hP hS => ?_)
        have hP : zGP D cb (31 + 3 * (k + 1)) (zEL ka cb (zclamp x) [.int (zclamp x), .ref (cb + 2), .ref (cb + 21), .ref (cb + 30), .null, .null, .null, .null, .null] (cb + 30) (ka 6) 3 (fun r => some (cb + (31 + 3 * r))) (k + 1)) H := zC_re (zEL_s ka cb _ _ _ _ _ (fun r => some (cb + (31 + 3 * r))) k) hP
        refine lv_iinc (v := nI (k + 1)) (k := 3) hx hb zd_X_init_130 hl rfl (nI_1 _) (by decide) rfl (fun ls hl => ?_)
        have hl : lv_has ls 4 [(3, .int (nI (k + 1))), (0, .ref cb), (1, .int x), (2, .ref (cb + 1))] := hl
        refine lv_goto (tgt := 111) hx hb zd_X_init_133 (by decide) ?_
        exact ih (k + 1) _ _ (by omega) (by omega) (by omega) H locs ls (lv_sub hl [1, 2, 3, 0] rfl) hP hS
    exact L 3 0 _ _ (by omega) rfl rfl _ _ _ hl hP hS
  intro H locs ls hl hP hS
  refine lv_aload_n hx hb zd_X_init_136 rfl (lv_at hl 0 rfl) ?_
  refine zg_new (ci := zciO) (fs := [.null, .int 0]) (C := zN_O) (T := zT_O) (N := 2) (n := 40) hx hb hts zin_O zt_O zto_O hown zcl_X_50 zis_O zit_O hK hP hS hb0 (by omega) rfl (fun j hj => by rcases (show j = 0 ∨ j = 1 by omega) with rfl | rfl <;> rfl) (Nat.le_of_ble_eq_true rfl) (Nat.le_of_ble_eq_true rfl) zd_X_init_137 (fun H hP hS => ?_)
  refine lv_dup hx hb zd_X_init_140 rfl ?_
  refine zG_size (b0 := cb) (n := 41) (by omega) hP hS (by omega) (fun hz => ?_)
  refine zK_callI (nA := 0) (As := []) (rest := [.ref (cb + 40), .ref cb]) zGV_blind (zi_O l D ka cb 41 (cb + 40) (va_up (zEX ka cb (zclamp x) [.int (zclamp x), .ref (cb + 2), .ref (cb + 21), .ref (cb + 30), .null, .null, .null, .null, .null]) (cb + 40) (.inr (zciO, [.null, .int 0]))) (by omega) (by omega) (va_up_self _ _ _)) zh_O_init zit_O zim_O_init zk_X_52 rfl (by decide) ⟨rfl, rfl⟩ ⟨(Nat.le_of_ble_eq_true rfl), (Nat.le_of_ble_eq_true rfl)⟩ hx hb hml hts hown (fun U hU hW => ⟨zG_U hK hP hS hz U hU hW, zAO_moved hW hAO⟩) hS (fun _ h => h) hl.1 rfl rfl (Nat.le_of_ble_eq_true rfl) ⟨(Nat.le_of_ble_eq_true rfl), (Nat.le_of_ble_eq_true rfl)⟩ zd_X_init_141 (fun t locs hvm hB hS _ _ => ?_)
  obtain ⟨hP, -, -⟩ := hB
  have hP : zGP D cb 342 (zEX ka cb (zclamp x) [.int (zclamp x), .ref (cb + 2), .ref (cb + 21), .ref (cb + 30), .null, .null, .null, .null, .null]) t.heap := by rw [← zmk_O (d := .inr (zciO, [.null, .int 0]))]; exact hP
  refine zr_putF (ty := (.object "SpanBoard$Post")) hx hb hts zin_X zt_X zto_X znm_X hown hK hP (zG_D cb 342 _) hS (zGL_in (by omega) (by omega)) (zEX_x ka cb _ _) rfl 4 (by decide) (zl_X_53 hts) rfl rfl hnm rfl (by decide +kernel) rfl rfl (Nat.le_of_ble_eq_true rfl) zd_X_init_144 (fun H locs hP hS => ?_)
  have hP : zGP D cb 342 (zEX ka cb (zclamp x) [.int (zclamp x), .ref (cb + 2), .ref (cb + 21), .ref (cb + 30), .ref (cb + 40), .null, .null, .null, .null]) H := zC_re (zEX_s ka cb _ _ _) hP
  refine lv_aload_n hx hb zd_X_init_147 rfl (lv_at hl 0 rfl) ?_
  refine lv_iconst (v := 4) hx hb zd_X_init_148 (by decide) ?_
  refine zg_newa 0 (atype := .int) (n := 342) (N := 4) rfl rfl rfl hx hb hts zac_int hK hP hS hb0 (by omega) (by decide) (by decide) (by decide) (Nat.le_of_ble_eq_true rfl) (Nat.le_of_ble_eq_true rfl) zd_X_init_149 (fun H hP hS => ?_)
  have hP : zGP D cb 343 (zEX ka cb (zclamp x) [.int (zclamp x), .ref (cb + 2), .ref (cb + 21), .ref (cb + 30), .ref (cb + 40), .null, .null, .null, .null]) H := zC_re (zup_id ((zEX_at (by omega)).trans (zCE_hop ka cb _ _))) hP
  refine zr_putF (ty := (.array .int)) hx hb hts zin_X zt_X zto_X znm_X hown hK hP (zG_D cb 343 _) hS (zGL_in (by omega) (by omega)) (zEX_x ka cb _ _) rfl 5 (by decide) (zl_X_57 hts) rfl rfl hnm rfl (by decide +kernel) rfl rfl (Nat.le_of_ble_eq_true rfl) zd_X_init_151 (fun H locs hP hS => ?_)
  have hP : zGP D cb 343 (zEX ka cb (zclamp x) [.int (zclamp x), .ref (cb + 2), .ref (cb + 21), .ref (cb + 30), .ref (cb + 40), .ref (cb + 342), .null, .null, .null]) H := zC_re (zEX_s ka cb _ _ _) hP
  refine lv_aload_n hx hb zd_X_init_154 rfl (lv_at hl 0 rfl) ?_
  refine lv_iconst (v := 4) hx hb zd_X_init_155 (by decide) ?_
  refine zg_newq 2 (C := "SpanBoard$Pair") (n := 343) (N := 4) rfl hx hb hts hown zcl_X_22 hAO.2.1 hK hP hS hb0 (by omega) (by decide) (by decide) (Nat.le_of_ble_eq_true rfl) (Nat.le_of_ble_eq_true rfl) zd_X_init_156 (fun H hP hS => ?_)
  have hP : zGP D cb 344 (zEX ka cb (zclamp x) [.int (zclamp x), .ref (cb + 2), .ref (cb + 21), .ref (cb + 30), .ref (cb + 40), .ref (cb + 342), .null, .null, .null]) H := zC_re (zup_id ((zEX_at (by omega)).trans (zCE_lan ka cb _ _))) hP
  refine zr_putF (ty := (.array (.object "SpanBoard$Pair"))) hx hb hts zin_X zt_X zto_X znm_X hown hK hP (zG_D cb 344 _) hS (zGL_in (by omega) (by omega)) (zEX_x ka cb _ _) rfl 6 (by decide) (zl_X_61 hts) rfl rfl hnm rfl (by decide +kernel) rfl rfl (Nat.le_of_ble_eq_true rfl) zd_X_init_159 (fun H locs hP hS => ?_)
  have hP : zGP D cb 344 (zEX ka cb (zclamp x) [.int (zclamp x), .ref (cb + 2), .ref (cb + 21), .ref (cb + 30), .ref (cb + 40), .ref (cb + 342), .ref (cb + 343), .null, .null]) H := zC_re (zEX_s ka cb _ _ _) hP
  refine lv_aload_n hx hb zd_X_init_162 rfl (lv_at hl 0 rfl) ?_
  refine lv_iconst (v := 3) hx hb zd_X_init_163 (by decide) ?_
  refine zg_newa 1 (atype := .boolean) (n := 344) (N := 3) rfl rfl rfl hx hb hts zac_boolean hK hP hS hb0 (by omega) (by decide) (by decide) (by decide) (Nat.le_of_ble_eq_true rfl) (Nat.le_of_ble_eq_true rfl) zd_X_init_164 (fun H hP hS => ?_)
  have hP : zGP D cb 345 (zEX ka cb (zclamp x) [.int (zclamp x), .ref (cb + 2), .ref (cb + 21), .ref (cb + 30), .ref (cb + 40), .ref (cb + 342), .ref (cb + 343), .null, .null]) H := zC_re (zup_id ((zEX_at (by omega)).trans (zCE_hav ka cb _ _))) hP
  refine zr_putF (ty := (.array .boolean)) hx hb hts zin_X zt_X zto_X znm_X hown hK hP (zG_D cb 345 _) hS (zGL_in (by omega) (by omega)) (zEX_x ka cb _ _) rfl 7 (by decide) (zl_X_65 hts) rfl rfl hnm rfl (by decide +kernel) rfl rfl (Nat.le_of_ble_eq_true rfl) zd_X_init_166 (fun H locs hP hS => ?_)
  have hP : zGP D cb 345 (zEX ka cb (zclamp x) [.int (zclamp x), .ref (cb + 2), .ref (cb + 21), .ref (cb + 30), .ref (cb + 40), .ref (cb + 342), .ref (cb + 343), .ref (cb + 344), .null]) H := zC_re (zEX_s ka cb _ _ _) hP
  refine lv_aload_n hx hb zd_X_init_169 rfl (lv_at hl 0 rfl) ?_
  refine lv_iconst (v := 3) hx hb zd_X_init_170 (by decide) ?_
  refine zg_newa 0 (atype := .int) (n := 345) (N := 3) rfl rfl rfl hx hb hts zac_int hK hP hS hb0 (by omega) (by decide) (by decide) (by decide) (Nat.le_of_ble_eq_true rfl) (Nat.le_of_ble_eq_true rfl) zd_X_init_171 (fun H hP hS => ?_)
  have hP : zGP D cb 346 (zEX ka cb (zclamp x) [.int (zclamp x), .ref (cb + 2), .ref (cb + 21), .ref (cb + 30), .ref (cb + 40), .ref (cb + 342), .ref (cb + 343), .ref (cb + 344), .null]) H := zC_re (zup_id ((zEX_at (by omega)).trans (zCE_val ka cb _ _))) hP
  refine zr_putF (ty := (.array .int)) hx hb hts zin_X zt_X zto_X znm_X hown hK hP (zG_D cb 346 _) hS (zGL_in (by omega) (by omega)) (zEX_x ka cb _ _) rfl 8 (by decide) (zl_X_69 hts) rfl rfl hnm rfl (by decide +kernel) rfl rfl (Nat.le_of_ble_eq_true rfl) zd_X_init_173 (fun H locs hP hS => ?_)
  have hP : zGP D cb 346 (zEX ka cb (zclamp x) [.int (zclamp x), .ref (cb + 2), .ref (cb + 21), .ref (cb + 30), .ref (cb + 40), .ref (cb + 342), .ref (cb + 343), .ref (cb + 344), .ref (cb + 345)]) H := zC_re (zEX_s ka cb _ _ _) hP
  rw [zEX_end] at hP
  refine zG_size (b0 := cb) (n := 346) (by omega) hP hS (by omega) (fun hz => ?_)
  exact zK_vret hx hb hr hlk hS (zG_U hK hP hS hz) zd_X_init_176
