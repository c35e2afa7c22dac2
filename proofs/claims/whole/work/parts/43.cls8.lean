set_option maxRecDepth 100000 in
set_option maxHeartbeats 4000000 in
theorem zc_m_X_bringTell_f (l : Launch) (D : va_G) (ka : Nat → ClassId) (cb : Nat) (P : List Nat) (C : zC) (A : zA) (M : zM) (hRep : zRep cb P C A M) (hO : zOk M) (r d a : Nat) (hr0 : r < 9) (hd : d < 3) (ha : zPR cb P (C 22) (C 23) (C 24) a (M 36 300) (M 37 300) (M 38 300)) (hh : ¬ zhearsD C A d r (M 35 300)) : Met l zy_X_bringTell (.code zy_X_bringTell zc_X_bringTell 7 none :: zAll) ({ frames := 3, cells := 0, slots := 0, locals := 71 }) (va_Pc [.ref cb, .int (nI r), .int (nI d), .int (M 35 300), .ref a] (zCW D ka cb P C A)) (va_Qv (fun (_ : Unit) => True) (fun _ t => zCS D ka cb (ztellComes M d r) t) (zCA cb)) 0 0 (zCA cb) := by
  refine z_met (by decide) (Nat.le_of_ble_eq_true rfl) ?_
  intro pg e s m below meth c hx hb hml hr hts hown hlk hnm hB ls hl
  obtain ⟨hP, hQ, hz, hK⟩ := hB
  have hS : va_S (zCA cb) s.heap s.heap [] := va_S.rf
  have hl : lv_has ls 7 [(0, .ref cb), (1, .int (nI r)), (2, .int (nI d)), (3, .int (M 35 300)), (4, .ref a)] := hl
  have hL := zOk_lt hO
  obtain ⟨-, hA, ⟨R, hR1, hR2, hR3, hR4⟩, hWk, -⟩ := id hO
  obtain ⟨p, hp, ha16⟩ := hA d hd
  refine lv_aload_n hx hb zd_X_bringTell_0 rfl (lv_at hl 0 rfl) ?_
  refine zr_get hx hb hts zin_X hown hK hP zCL_0 (zCE_x ka cb C A) rfl 3 (by decide) (zl_X_45 hts) rfl rfl zd_X_bringTell_1 ?_
  refine lv_iload_n hx hb zd_X_bringTell_4 rfl (lv_at hl 2 rfl) ?_
  refine zr_aald (v := .ref (cb + (31 + 3 * d))) hx hb hK hP (zCL_in (by omega)) 6 (zCE_reas ka cb C A) rfl (j := d) rfl (show d < 3 from by omega) (by decide) rfl zd_X_bringTell_5 ?_
  refine lv_astore hx hb zd_X_bringTell_6 hl (by decide) rfl (fun ls hl => ?_)
  have hl : lv_has ls 7 [(5, .ref (cb + (31 + 3 * d))), (0, .ref cb), (1, .int (nI r)), (2, .int (nI d)), (3, .int (M 35 300)), (4, .ref a)] := hl
  refine lv_aload hx hb zd_X_bringTell_8 (lv_at hl 0 rfl) ?_
  refine lv_iload_n hx hb zd_X_bringTell_10 rfl (lv_at hl 2 rfl) ?_
  refine lv_iload_n hx hb zd_X_bringTell_11 rfl (lv_at hl 4 rfl) ?_
  refine lv_aload hx hb zd_X_bringTell_12 (lv_at hl 5 rfl) ?_
  refine zK_callv (nA := 3) (As := [.int (nI r), .int (M 35 300), .ref a]) (rest := []) zCW_blind (zc_m_D_hear_f l D ka cb P C A d r a hd hr0 ha.1 (M 35 300) hh) (zg_D_hear zk_X_233) (by decide) ⟨rfl, rfl⟩ ⟨Nat.le_of_ble_eq_true rfl, Nat.le_of_ble_eq_true rfl⟩ hx hb hml hts hown (zC_recv hK hP (zCL_in (by omega)) (zCE_rea ka cb C A (d := d) (by omega)) rfl) (zC_U hK hP hQ hz hS) hS (fun _ h => h) hl.1 rfl rfl (Nat.le_of_ble_eq_true rfl) ⟨Nat.le_of_ble_eq_true rfl, Nat.le_of_ble_eq_true rfl⟩ zd_X_bringTell_14 (fun t locs hvm hB hS _ _ => ?_)
  obtain ⟨hP, -, -, -⟩ := hB
  generalize t.heap = H at hP hS ⊢
  refine lv_aload hx hb zd_X_bringTell_17 (lv_at hl 0 rfl) ?_
  refine zK_calls (nA := 0) (As := []) (rest := []) zCW_blind (zc_m_D_isReading l D ka cb P C A d (by omega)) (zg_D_isReading zk_X_101) (by decide) ⟨rfl, rfl⟩ ⟨Nat.le_of_ble_eq_true rfl, Nat.le_of_ble_eq_true rfl⟩ hx hb hml hts hown (zC_recv hK hP (zCL_in (by omega)) (zCE_rea ka cb C A (d := d) (by omega)) rfl) (zC_U hK hP hQ hz hS) hl.1 rfl rfl (Nat.le_of_ble_eq_true rfl) ⟨Nat.le_of_ble_eq_true rfl, Nat.le_of_ble_eq_true rfl⟩ zd_X_bringTell_19 ?_
  refine lv_if_eq (tgt := 35) hx hb zd_X_bringTell_22 (by decide) (fun h22 => ?_) (fun h22 => ?_)
  · have c22 := zb_0 h22
    rw [zr_st hRep hd] at c22
    exact zK_vret hx hb hr hlk hS (fun t ht hW => ⟨_, _, _, zC_U hK hP hQ hz hS t ht hW, (zRep_eq hRep (ztellComes_no (zhears_f hRep hd hr0 hh)).symm)⟩) zd_X_bringTell_35
  · have c22 := zb_1 h22
    rw [zr_st hRep hd] at c22
    refine lv_aload hx hb zd_X_bringTell_25 (lv_at hl 0 rfl) ?_
    refine zr_get hx hb hts zin_D hown hK hP (zCL_in (by omega)) (zCE_rea ka cb C A (d := d) (by omega)) rfl 2 (by decide) (zl_X_192 hts) rfl rfl zd_X_bringTell_27 ?_
    refine z_top (y := nI (zans M d)) (zr_tc hRep hd) ?_
    refine lv_bipush (v := 7) hx hb zd_X_bringTell_30 (by decide) ?_
    refine lv_icmp_ge (tgt := 36) hx hb zd_X_bringTell_32 (by decide) (fun h32 => absurd h32 (nI_ge (b := 7) (hR4 d hd c22).1 (by decide))) (fun h32 => ?_)
    exact zK_vret hx hb hr hlk hS (fun t ht hW => ⟨_, _, _, zC_U hK hP hQ hz hS t ht hW, (zRep_eq hRep (ztellComes_no (zhears_f hRep hd hr0 hh)).symm)⟩) zd_X_bringTell_35
set_option maxRecDepth 100000 in
set_option maxHeartbeats 4000000 in
theorem zc_m_X_bringTell_t (l : Launch) (D : va_G) (ka : Nat → ClassId) (cb : Nat) (P : List Nat) (C : zC) (A : zA) (M : zM) (hRep : zRep cb P C A M) (hO : zOk M) (r d a : Nat) (hr0 : r < 9) (hd : d < 3) (ha : zPR cb P (C 22) (C 23) (C 24) a (M 36 300) (M 37 300) (M 38 300)) (hh : zhearsD C A d r (M 35 300)) : Met l zy_X_bringTell (.code zy_X_bringTell zc_X_bringTell 7 none :: zAll) ({ frames := 3, cells := 0, slots := 0, locals := 71 }) (va_Pc [.ref cb, .int (nI r), .int (nI d), .int (M 35 300), .ref a] (zCW D ka cb P C A)) (va_Qv (fun (_ : Unit) => True) (fun _ t => zCS D ka cb (ztellComes M d r) t) (zCA cb)) 0 0 (zCA cb) := by
  refine z_met (by decide) (Nat.le_of_ble_eq_true rfl) ?_
  intro pg e s m below meth c hx hb hml hr hts hown hlk hnm hB ls hl
  obtain ⟨hP, hQ, hz, hK⟩ := hB
  have hS : va_S (zCA cb) s.heap s.heap [] := va_S.rf
  have hl : lv_has ls 7 [(0, .ref cb), (1, .int (nI r)), (2, .int (nI d)), (3, .int (M 35 300)), (4, .ref a)] := hl
  have hL := zOk_lt hO
  obtain ⟨-, hA, ⟨R, hR1, hR2, hR3, hR4⟩, hWk, -⟩ := id hO
  obtain ⟨p, hp, ha16⟩ := hA d hd
  refine lv_aload_n hx hb zd_X_bringTell_0 rfl (lv_at hl 0 rfl) ?_
  refine zr_get hx hb hts zin_X hown hK hP zCL_0 (zCE_x ka cb C A) rfl 3 (by decide) (zl_X_45 hts) rfl rfl zd_X_bringTell_1 ?_
  refine lv_iload_n hx hb zd_X_bringTell_4 rfl (lv_at hl 2 rfl) ?_
  refine zr_aald (v := .ref (cb + (31 + 3 * d))) hx hb hK hP (zCL_in (by omega)) 6 (zCE_reas ka cb C A) rfl (j := d) rfl (show d < 3 from by omega) (by decide) rfl zd_X_bringTell_5 ?_
  refine lv_astore hx hb zd_X_bringTell_6 hl (by decide) rfl (fun ls hl => ?_)
  have hl : lv_has ls 7 [(5, .ref (cb + (31 + 3 * d))), (0, .ref cb), (1, .int (nI r)), (2, .int (nI d)), (3, .int (M 35 300)), (4, .ref a)] := hl
  refine lv_aload hx hb zd_X_bringTell_8 (lv_at hl 0 rfl) ?_
  refine lv_iload_n hx hb zd_X_bringTell_10 rfl (lv_at hl 2 rfl) ?_
  refine lv_iload_n hx hb zd_X_bringTell_11 rfl (lv_at hl 4 rfl) ?_
  refine lv_aload hx hb zd_X_bringTell_12 (lv_at hl 5 rfl) ?_
  refine zK_callv (nA := 3) (As := [.int (nI r), .int (M 35 300), .ref a]) (rest := []) zCW_blind (zc_m_D_hear_t l D ka cb P C A d r a hd hr0 ha.1 (M 35 300) hh) (zg_D_hear zk_X_233) (by decide) ⟨rfl, rfl⟩ ⟨Nat.le_of_ble_eq_true rfl, Nat.le_of_ble_eq_true rfl⟩ hx hb hml hts hown (zC_recv hK hP (zCL_in (by omega)) (zCE_rea ka cb C A (d := d) (by omega)) rfl) (zC_U hK hP hQ hz hS) hS (fun _ h => h) hl.1 rfl rfl (Nat.le_of_ble_eq_true rfl) ⟨Nat.le_of_ble_eq_true rfl, Nat.le_of_ble_eq_true rfl⟩ zd_X_bringTell_14 (fun t locs hvm hB hS _ _ => ?_)
  obtain ⟨hP, -, -, -⟩ := hB
  generalize t.heap = H at hP hS ⊢
  have hnt := zhears_t hRep hd hr0 hh
  have hRep := zRep_told hRep hd hr0 hh.2.2 ha
  have hle : zans (ztold M d r) d ≤ zans M d + 1 := zans_one
  have hpt : C 11 d 0 = nI p := (zr_pt hRep hd).trans ha16
  refine lv_aload hx hb zd_X_bringTell_17 (lv_at hl 0 rfl) ?_
  refine zK_calls (nA := 0) (As := []) (rest := []) zCW_blind (zc_m_D_isReading l D ka cb P (zs3 C 7 d 0 (C 7 d 0 + 1)) (zs3 A 2 d r (some a)) d (by omega)) (zg_D_isReading zk_X_101) (by decide) ⟨rfl, rfl⟩ ⟨Nat.le_of_ble_eq_true rfl, Nat.le_of_ble_eq_true rfl⟩ hx hb hml hts hown (zC_recv hK hP (zCL_in (by omega)) (zCE_rea ka cb (zs3 C 7 d 0 (C 7 d 0 + 1)) (zs3 A 2 d r (some a)) (d := d) (by omega)) rfl) (zC_U hK hP hQ hz hS) hl.1 rfl rfl (Nat.le_of_ble_eq_true rfl) ⟨Nat.le_of_ble_eq_true rfl, Nat.le_of_ble_eq_true rfl⟩ zd_X_bringTell_19 ?_
  refine lv_if_eq (tgt := 35) hx hb zd_X_bringTell_22 (by decide) (fun h22 => absurd hh.1 (zb_0 h22)) (fun h22 => ?_)
  refine lv_aload hx hb zd_X_bringTell_25 (lv_at hl 0 rfl) ?_
  refine zr_get hx hb hts zin_D hown hK hP (zCL_in (by omega)) (zCE_rea ka cb (zs3 C 7 d 0 (C 7 d 0 + 1)) (zs3 A 2 d r (some a)) (d := d) (by omega)) rfl 2 (by decide) (zl_X_192 hts) rfl rfl zd_X_bringTell_27 ?_
  refine z_top (y := nI (zans (ztold M d r) d)) (zr_tc hRep hd) ?_
  refine lv_bipush (v := 7) hx hb zd_X_bringTell_30 (by decide) ?_
  refine lv_icmp_ge (tgt := 36) hx hb zd_X_bringTell_32 (by decide) (fun h32 => ?_) (fun h32 => ?_)
  · have h18 : M 18 d = 1 := (zr_st hRep hd).symm.trans hh.1
    have hlt7 := (hR4 d hd h18).1
    have h7 : zans (ztold M d r) d = 7 := by have := (nI_leI (a := 7) (by decide) (by omega)).mp h32; omega
    refine lv_aload hx hb zd_X_bringTell_36 (lv_at hl 0 rfl) ?_
    refine zK_callq (nA := 0) (As := []) (rest := []) zCW_blind (zc_m_D_findBelieved l D ka cb P (zs3 C 7 d 0 (C 7 d 0 + 1)) (zs3 A 2 d r (some a)) d hd (zr_hto hRep hd)) (zg_D_findBelieved zk_X_236) (by decide) ⟨rfl, rfl⟩ ⟨Nat.le_of_ble_eq_true rfl, Nat.le_of_ble_eq_true rfl⟩ hx hb hml hts hown (zC_recv hK hP (zCL_in (by omega)) (zCE_rea ka cb (zs3 C 7 d 0 (C 7 d 0 + 1)) (zs3 A 2 d r (some a)) (d := d) (by omega)) rfl) (zC_U hK hP hQ hz hS) hl.1 rfl rfl (Nat.le_of_ble_eq_true rfl) ⟨Nat.le_of_ble_eq_true rfl, Nat.le_of_ble_eq_true rfl⟩ zd_X_bringTell_38 ?_
    rcases zbest_rel hRep hd 9 (Nat.le_refl _) with ⟨q1, q2⟩ | ⟨b, an, q1, q2, q3, q4, q5, q6, q7⟩
    · refine z_topr (v := .null) (congrArg va_rf q1) ?_
      refine lv_astoreN hx hb zd_X_bringTell_41 hl (by decide) rfl (fun ls hl => ?_)
      have hl : lv_has ls 7 [(6, .null), (5, .ref (cb + (31 + 3 * d))), (0, .ref cb), (1, .int (nI r)), (2, .int (nI d)), (3, .int (M 35 300)), (4, .ref a)] := hl
      refine lv_aloadN hx hb zd_X_bringTell_43 (lv_at hl 0 rfl) ?_
      refine lv_ifnullN (tgt := 73) hx hb zd_X_bringTell_45 (by decide) ?_
      refine lv_aload hx hb zd_X_bringTell_73 (lv_at hl 1 rfl) ?_
      refine zr_get hx hb hts zin_D hown hK hP (zCL_in (by omega)) (zCE_rea ka cb (zs3 C 7 d 0 (C 7 d 0 + 1)) (zs3 A 2 d r (some a)) (d := d) (by omega)) rfl 5 (by decide) (zl_X_189 hts) rfl rfl zd_X_bringTell_75 ?_
      refine z_top (y := ztold M d r 17 d) (zr_rd hRep hd) ?_
      refine lv_aload_n hx hb zd_X_bringTell_78 rfl (lv_at hl 2 rfl) ?_
      refine zr_get hx hb hts zin_X hown hK hP zCL_0 (zCE_x ka cb (zs3 C 7 d 0 (C 7 d 0 + 1)) (zs3 A 2 d r (some a))) rfl 0 (by decide) (zl_X_18 hts) rfl rfl zd_X_bringTell_79 ?_
      refine z_top (y := M 0 0) hRep.1 ?_
      refine lv_icmp_lt (tgt := 94) hx hb zd_X_bringTell_82 (by decide) (fun h82 => ?_) (fun h82 => ?_)
      · have hne : ¬ ztold M d r 17 d = ztold M d r 0 0 := fun q => by rw [q] at h82; exact Int32.lt_irrefl h82
        refine lv_aload hx hb zd_X_bringTell_94 (lv_at hl 1 rfl) ?_
        refine lv_aload hx hb zd_X_bringTell_96 (lv_at hl 1 rfl) ?_
        refine zr_get hx hb hts zin_D hown hK hP (zCL_in (by omega)) (zCE_rea ka cb (zs3 C 7 d 0 (C 7 d 0 + 1)) (zs3 A 2 d r (some a)) (d := d) (by omega)) rfl 5 (by decide) (zl_X_189 hts) rfl rfl zd_X_bringTell_98 ?_
        refine z_top (y := ztold M d r 17 d) (zr_rd hRep hd) ?_
        refine lv_iconst (v := 1) hx hb zd_X_bringTell_101 (by decide) ?_
        refine lv_iadd hx hb zd_X_bringTell_102 ?_
        refine zK_callv (nA := 1) (As := [.int ((ztold M d r 17 d) + 1)]) (rest := []) zCW_blind (zc_m_D_beginRound l D ka cb P (zs3 C 7 d 0 (C 7 d 0 + 1)) (zs3 A 2 d r (some a)) d (by omega) ((ztold M d r 17 d) + 1)) (zg_D_beginRound zk_X_243) (by decide) ⟨rfl, rfl⟩ ⟨Nat.le_of_ble_eq_true rfl, Nat.le_of_ble_eq_true rfl⟩ hx hb hml hts hown (zC_recv hK hP (zCL_in (by omega)) (zCE_rea ka cb (zs3 C 7 d 0 (C 7 d 0 + 1)) (zs3 A 2 d r (some a)) (d := d) (by omega)) rfl) (zC_U hK hP hQ hz hS) hS (fun _ h => h) hl.1 rfl rfl (Nat.le_of_ble_eq_true rfl) ⟨Nat.le_of_ble_eq_true rfl, Nat.le_of_ble_eq_true rfl⟩ zd_X_bringTell_103 (fun t locs hvm hB hS _ _ => ?_)
        obtain ⟨hP, -, -, -⟩ := hB
        generalize t.heap = H at hP hS ⊢
        have hRep := zRep_round hRep d ((ztold M d r 17 d) + 1)
        refine lv_aload_n hx hb zd_X_bringTell_106 rfl (lv_at hl 2 rfl) ?_
        refine lv_iload_n hx hb zd_X_bringTell_107 rfl (lv_at hl 4 rfl) ?_
        refine zK_calli (nA := 1) (As := [.int (nI d)]) (rest := []) zCS_blind (zc_m_X_sendAsks l D ka cb (ztcl d (zst (zst (ztold M d r) 17 d ((ztold M d r 17 d) + 1)) 15 d (ztold M d r 15 d + 1)) 9) (zLt_of hL (by rw [ztcl_k (by decide) 9]; rfl)) d (by omega)) (zg_X_sendAsks zk_X_108) (by decide) ⟨rfl, rfl⟩ ⟨Nat.le_of_ble_eq_true rfl, Nat.le_of_ble_eq_true rfl⟩ hx hb hml hts hown (zC_recv hK hP zCL_0 (zCE_x ka cb (zroundC (zs3 C 7 d 0 (C 7 d 0 + 1)) d ((ztold M d r 17 d) + 1)) (ztc (zs3 A 2 d r (some a)) d 9)) rfl) (fun U hU hW => ⟨_, _, _, zC_U hK hP hQ hz hS U hU hW, hRep⟩) hS (fun _ h => h) hl.1 rfl rfl (Nat.le_of_ble_eq_true rfl) ⟨Nat.le_of_ble_eq_true rfl, Nat.le_of_ble_eq_true rfl⟩ zd_X_bringTell_108 (fun t locs hvm hB hS _ _ => ?_)
        obtain ⟨P, C, A, ⟨hP, hQ, -, -⟩, hRep⟩ := hB
        generalize t.heap = H at hP hS ⊢
        rw [zask_eq] at hRep
        refine lv_pop hx hb zd_X_bringTell_111 rfl ?_
        exact zK_vret hx hb hr hlk hS (fun t ht hW => ⟨_, _, _, zC_U hK hP hQ hz hS t ht hW, (zRep_eq hRep (by rw [ztellComes_eq hnt, if_pos h7, zlooks_n q2 hne]; rfl))⟩) zd_X_bringTell_112
      · obtain ⟨k, k1, k2, k3⟩ := (hR4 d hd h18).2
        have heq : ztold M d r 17 d = ztold M d r 0 0 := by have e17 : ztold M d r 17 d = nI k := k3; rw [e17, hR3] at h82; have hge : ¬ k < R := fun q => h82 (nI_lt q (by omega)); rw [e17, show ztold M d r 0 0 = nI R from hR3, show k = R by omega]
        refine lv_aload hx hb zd_X_bringTell_85 (lv_at hl 1 rfl) ?_
        refine lv_iconst (v := 3) hx hb zd_X_bringTell_87 (by decide) ?_
        refine zr_put (ty := .int) hx hb hts zin_D zt_D zto_D znm_D hown hK hP (zC_D hQ _) hS (zCL_in (by omega)) (zCE_rea ka cb (zs3 C 7 d 0 (C 7 d 0 + 1)) (zs3 A 2 d r (some a)) (d := d) (by omega)) rfl 3 (by decide) (zl_X_177 hts) rfl rfl (by decide +kernel) rfl rfl (Nat.le_of_ble_eq_true rfl) zd_X_bringTell_88 (fun H locs hP hS => ?_)
        have hP : zCP D ka cb P (zs3 (zs3 C 7 d 0 (C 7 d 0 + 1)) 8 d 0 3) (zs3 A 2 d r (some a)) H := zC_re (zCU_rea3 ka cb (zs3 C 7 d 0 (C 7 d 0 + 1)) (zs3 A 2 d r (some a)) (d := d) (by omega) 3) hP
        refine lv_goto (tgt := 112) hx hb zd_X_bringTell_91 (by decide) ?_
        exact zK_vret hx hb hr hlk hS (fun t ht hW => ⟨_, _, _, zC_U hK hP hQ hz hS t ht hW, (zRep_eq (zRep_busy hRep d 3) (by rw [ztellComes_eq hnt, if_pos h7, zlooks_b q2 heq]))⟩) zd_X_bringTell_112
    · refine z_topr (v := .ref an) (congrArg va_rf q1) ?_
      refine lv_astore hx hb zd_X_bringTell_41 hl (by decide) rfl (fun ls hl => ?_)
      have hl : lv_has ls 7 [(6, .ref an), (5, .ref (cb + (31 + 3 * d))), (0, .ref cb), (1, .int (nI r)), (2, .int (nI d)), (3, .int (M 35 300)), (4, .ref a)] := hl
      refine lv_aload hx hb zd_X_bringTell_43 (lv_at hl 0 rfl) ?_
      refine lv_ifnull hx hb zd_X_bringTell_45 ?_
      refine lv_aload hx hb zd_X_bringTell_48 (lv_at hl 1 rfl) ?_
      refine lv_aload hx hb zd_X_bringTell_50 (lv_at hl 0 rfl) ?_
      obtain ⟨rm, m1, m2, m3, m4, m5⟩ := zr_rem hRep hd hp
      by_cases hlt : (zs3 C 7 d 0 (C 7 d 0 + 1)) 22 an 0 < (zs3 C 7 d 0 (C 7 d 0 + 1)) 22 rm 0
      · have hlt2 := hlt
        rw [q5, m3] at hlt2
        refine zK_callv (nA := 1) (As := [.ref an]) (rest := []) zCW_blind (zc_m_D_settle_b l D ka cb P (zs3 C 7 d 0 (C 7 d 0 + 1)) (zs3 A 2 d r (some a)) d an rm p hd hp q4 m2 hpt m1 hlt) (zg_D_settle zk_X_240) (by decide) ⟨rfl, rfl⟩ ⟨Nat.le_of_ble_eq_true rfl, Nat.le_of_ble_eq_true rfl⟩ hx hb hml hts hown (zC_recv hK hP (zCL_in (by omega)) (zCE_rea ka cb (zs3 C 7 d 0 (C 7 d 0 + 1)) (zs3 A 2 d r (some a)) (d := d) (by omega)) rfl) (zC_U hK hP hQ hz hS) hS (fun _ h => h) hl.1 rfl rfl (Nat.le_of_ble_eq_true rfl) ⟨Nat.le_of_ble_eq_true rfl, Nat.le_of_ble_eq_true rfl⟩ zd_X_bringTell_52 (fun t locs hvm hB hS _ _ => ?_)
        obtain ⟨hP, -, -, -⟩ := hB
        generalize t.heap = H at hP hS ⊢
        refine lv_aload_n hx hb zd_X_bringTell_55 rfl (lv_at hl 2 rfl) ?_
        refine zr_get hx hb hts zin_X hown hK hP zCL_0 (zCE_x ka cb (zs3 (zs3 (zs3 C 7 d 0 (C 7 d 0 + 1)) 12 d 0 ((zs3 C 7 d 0 (C 7 d 0 + 1)) 11 d 0)) 8 d 0 2) (zs3 (zs3 (zs3 A 2 d r (some a)) 4 d 0 (some rm)) 3 d p (some rm))) rfl 6 (by decide) (zl_X_61 hts) rfl rfl zd_X_bringTell_56 ?_
        refine lv_aload hx hb zd_X_bringTell_59 (lv_at hl 1 rfl) ?_
        refine zr_get hx hb hts zin_D hown hK hP (zCL_in (by omega)) (zCE_rea ka cb (zs3 (zs3 (zs3 C 7 d 0 (C 7 d 0 + 1)) 12 d 0 ((zs3 C 7 d 0 (C 7 d 0 + 1)) 11 d 0)) 8 d 0 2) (zs3 (zs3 (zs3 A 2 d r (some a)) 4 d 0 (some rm)) 3 d p (some rm)) (d := d) (by omega)) rfl 6 (by decide) (zl_X_170 hts) rfl rfl zd_X_bringTell_61 ?_
        refine lv_aload hx hb zd_X_bringTell_64 (lv_at hl 1 rfl) ?_
        refine zr_get hx hb hts zin_D hown hK hP (zCL_in (by omega)) (zCE_rea ka cb (zs3 (zs3 (zs3 C 7 d 0 (C 7 d 0 + 1)) 12 d 0 ((zs3 C 7 d 0 (C 7 d 0 + 1)) 11 d 0)) 8 d 0 2) (zs3 (zs3 (zs3 A 2 d r (some a)) 4 d 0 (some rm)) 3 d p (some rm)) (d := d) (by omega)) rfl 8 (by decide) (zl_X_180 hts) rfl rfl zd_X_bringTell_66 ?_
        refine z_topr (v := .ref rm) (congrArg va_rf (zs3_s (zs3 A 2 d r (some a)) 4 d 0 (some rm))) ?_
        refine zr_aast (r := (zN_P, zT_P, 3)) hx hb hK hP (zC_D hQ _) hS (zCL_in (by omega)) 2 zciP (zCE_lan ka cb (zs3 (zs3 (zs3 C 7 d 0 (C 7 d 0 + 1)) 12 d 0 ((zs3 C 7 d 0 (C 7 d 0 + 1)) 11 d 0)) 8 d 0 2) (zs3 (zs3 (zs3 A 2 d r (some a)) 4 d 0 (some rm)) 3 d p (some rm))) rfl (zCL_p m2) (zCE_pair ka cb (zs3 (zs3 (zs3 C 7 d 0 (C 7 d 0 + 1)) 12 d 0 ((zs3 C 7 d 0 (C 7 d 0 + 1)) 11 d 0)) 8 d 0 2) (zs3 (zs3 (zs3 A 2 d r (some a)) 4 d 0 (some rm)) 3 d p (some rm)) (zP_adr hQ m2)) rfl (j := p) hpt (show p < 4 from by omega) (by decide) zd_X_bringTell_69 (fun H locs hP hS => ?_)
        have hP : zCP D ka cb P (zs3 (zs3 (zs3 C 7 d 0 (C 7 d 0 + 1)) 12 d 0 ((zs3 C 7 d 0 (C 7 d 0 + 1)) 11 d 0)) 8 d 0 2) (zs3 (zs3 (zs3 (zs3 A 2 d r (some a)) 4 d 0 (some rm)) 3 d p (some rm)) 7 0 p (some rm)) H := zC_re (zCU_lan ka cb (zs3 (zs3 (zs3 C 7 d 0 (C 7 d 0 + 1)) 12 d 0 ((zs3 C 7 d 0 (C 7 d 0 + 1)) 11 d 0)) 8 d 0 2) (zs3 (zs3 (zs3 A 2 d r (some a)) 4 d 0 (some rm)) 3 d p (some rm)) p (some rm)) hP
        refine lv_goto (tgt := 112) hx hb zd_X_bringTell_70 (by decide) ?_
        exact zK_vret hx hb hr hlk hS (fun t ht hW => ⟨_, _, _, zC_U hK hP hQ hz hS t ht hW, (zRep_eq (zRep_settle (b := 9 * d + b) hRep hd hp ha16 (by rw [zknow_b hlt2]; exact ⟨m2, m3, m4, m5⟩)) (by rw [ztellComes_eq hnt, if_pos h7, zlooks_s q2 ha16 hp]))⟩) zd_X_bringTell_112
      · have hlt2 := hlt
        rw [q5, m3] at hlt2
        refine zK_callv (nA := 1) (As := [.ref an]) (rest := []) zCW_blind (zc_m_D_settle_a l D ka cb P (zs3 C 7 d 0 (C 7 d 0 + 1)) (zs3 A 2 d r (some a)) d an rm p hd hp q4 m2 hpt m1 hlt) (zg_D_settle zk_X_240) (by decide) ⟨rfl, rfl⟩ ⟨Nat.le_of_ble_eq_true rfl, Nat.le_of_ble_eq_true rfl⟩ hx hb hml hts hown (zC_recv hK hP (zCL_in (by omega)) (zCE_rea ka cb (zs3 C 7 d 0 (C 7 d 0 + 1)) (zs3 A 2 d r (some a)) (d := d) (by omega)) rfl) (zC_U hK hP hQ hz hS) hS (fun _ h => h) hl.1 rfl rfl (Nat.le_of_ble_eq_true rfl) ⟨Nat.le_of_ble_eq_true rfl, Nat.le_of_ble_eq_true rfl⟩ zd_X_bringTell_52 (fun t locs hvm hB hS _ _ => ?_)
        obtain ⟨hP, -, -, -⟩ := hB
        generalize t.heap = H at hP hS ⊢
        refine lv_aload_n hx hb zd_X_bringTell_55 rfl (lv_at hl 2 rfl) ?_
        refine zr_get hx hb hts zin_X hown hK hP zCL_0 (zCE_x ka cb (zs3 (zs3 (zs3 C 7 d 0 (C 7 d 0 + 1)) 12 d 0 ((zs3 C 7 d 0 (C 7 d 0 + 1)) 11 d 0)) 8 d 0 2) (zs3 (zs3 (zs3 A 2 d r (some a)) 4 d 0 (some an)) 3 d p (some an))) rfl 6 (by decide) (zl_X_61 hts) rfl rfl zd_X_bringTell_56 ?_
        refine lv_aload hx hb zd_X_bringTell_59 (lv_at hl 1 rfl) ?_
        refine zr_get hx hb hts zin_D hown hK hP (zCL_in (by omega)) (zCE_rea ka cb (zs3 (zs3 (zs3 C 7 d 0 (C 7 d 0 + 1)) 12 d 0 ((zs3 C 7 d 0 (C 7 d 0 + 1)) 11 d 0)) 8 d 0 2) (zs3 (zs3 (zs3 A 2 d r (some a)) 4 d 0 (some an)) 3 d p (some an)) (d := d) (by omega)) rfl 6 (by decide) (zl_X_170 hts) rfl rfl zd_X_bringTell_61 ?_
        refine lv_aload hx hb zd_X_bringTell_64 (lv_at hl 1 rfl) ?_
        refine zr_get hx hb hts zin_D hown hK hP (zCL_in (by omega)) (zCE_rea ka cb (zs3 (zs3 (zs3 C 7 d 0 (C 7 d 0 + 1)) 12 d 0 ((zs3 C 7 d 0 (C 7 d 0 + 1)) 11 d 0)) 8 d 0 2) (zs3 (zs3 (zs3 A 2 d r (some a)) 4 d 0 (some an)) 3 d p (some an)) (d := d) (by omega)) rfl 8 (by decide) (zl_X_180 hts) rfl rfl zd_X_bringTell_66 ?_
        refine z_topr (v := .ref an) (congrArg va_rf (zs3_s (zs3 A 2 d r (some a)) 4 d 0 (some an))) ?_
        refine zr_aast (r := (zN_P, zT_P, 3)) hx hb hK hP (zC_D hQ _) hS (zCL_in (by omega)) 2 zciP (zCE_lan ka cb (zs3 (zs3 (zs3 C 7 d 0 (C 7 d 0 + 1)) 12 d 0 ((zs3 C 7 d 0 (C 7 d 0 + 1)) 11 d 0)) 8 d 0 2) (zs3 (zs3 (zs3 A 2 d r (some a)) 4 d 0 (some an)) 3 d p (some an))) rfl (zCL_p q4) (zCE_pair ka cb (zs3 (zs3 (zs3 C 7 d 0 (C 7 d 0 + 1)) 12 d 0 ((zs3 C 7 d 0 (C 7 d 0 + 1)) 11 d 0)) 8 d 0 2) (zs3 (zs3 (zs3 A 2 d r (some a)) 4 d 0 (some an)) 3 d p (some an)) (zP_adr hQ q4)) rfl (j := p) hpt (show p < 4 from by omega) (by decide) zd_X_bringTell_69 (fun H locs hP hS => ?_)
        have hP : zCP D ka cb P (zs3 (zs3 (zs3 C 7 d 0 (C 7 d 0 + 1)) 12 d 0 ((zs3 C 7 d 0 (C 7 d 0 + 1)) 11 d 0)) 8 d 0 2) (zs3 (zs3 (zs3 (zs3 A 2 d r (some a)) 4 d 0 (some an)) 3 d p (some an)) 7 0 p (some an)) H := zC_re (zCU_lan ka cb (zs3 (zs3 (zs3 C 7 d 0 (C 7 d 0 + 1)) 12 d 0 ((zs3 C 7 d 0 (C 7 d 0 + 1)) 11 d 0)) 8 d 0 2) (zs3 (zs3 (zs3 A 2 d r (some a)) 4 d 0 (some an)) 3 d p (some an)) p (some an)) hP
        refine lv_goto (tgt := 112) hx hb zd_X_bringTell_70 (by decide) ?_
        exact zK_vret hx hb hr hlk hS (fun t ht hW => ⟨_, _, _, zC_U hK hP hQ hz hS t ht hW, (zRep_eq (zRep_settle (b := 9 * d + b) hRep hd hp ha16 ⟨q4, q5.trans (zknow_a hlt2).1.symm, q6.trans (zknow_a hlt2).2.1.symm, q7.trans (zknow_a hlt2).2.2.symm⟩) (by rw [ztellComes_eq hnt, if_pos h7, zlooks_s q2 ha16 hp]))⟩) zd_X_bringTell_112
  · have h7 : ¬ zans (ztold M d r) d = 7 := fun q => h32 (by rw [q]; decide)
    exact zK_vret hx hb hr hlk hS (fun t ht hW => ⟨_, _, _, zC_U hK hP hQ hz hS t ht hW, (zRep_eq hRep (by rw [ztellComes_eq hnt, if_neg h7]))⟩) zd_X_bringTell_35
theorem zc_m_X_bringTell (l : Launch) (D : va_G) (ka : Nat → ClassId) (cb : Nat) (P : List Nat) (C : zC) (A : zA) (M : zM) (hRep : zRep cb P C A M) (hO : zOk M) (r d a : Nat) (hr0 : r < 9) (hd : d < 3) (ha : zPR cb P (C 22) (C 23) (C 24) a (M 36 300) (M 37 300) (M 38 300)) : Met l zy_X_bringTell (.code zy_X_bringTell zc_X_bringTell 7 none :: zAll) ({ frames := 3, cells := 0, slots := 0, locals := 71 }) (va_Pc [.ref cb, .int (nI r), .int (nI d), .int (M 35 300), .ref a] (zCW D ka cb P C A)) (va_Qv (fun (_ : Unit) => True) (fun _ t => zCS D ka cb (ztellComes M d r) t) (zCA cb)) 0 0 (zCA cb) := by
  by_cases hh : zhearsD C A d r (M 35 300)
  · exact zc_m_X_bringTell_t l D ka cb P C A M hRep hO r d a hr0 hd ha hh
  · exact zc_m_X_bringTell_f l D ka cb P C A M hRep hO r d a hr0 hd ha hh
