set_option maxRecDepth 100000 in
set_option maxHeartbeats 4000000 in
theorem zc_m_X_storeAgain (l : Launch) (D : va_G) (ka : Nat → ClassId) (cb : Nat) (M : zM) (hL : zLt M) (p0 : Int32) : Met l zy_X_storeAgain (.code zy_X_storeAgain zc_X_storeAgain 2 (some .int) :: zAll) ({ frames := 3, cells := 0, slots := 0, locals := 71 }) (va_Pc [.ref cb, .int p0] (zCS D ka cb M)) (va_Qi (fun rr (_ : Unit) => rr = (zf_storeAgain M p0)) (fun _ t => zCS D ka cb (zg_storeAgain M p0) t) (zCA cb)) 0 0 (zCA cb) := by
  refine z_met (by decide) (Nat.le_of_ble_eq_true rfl) ?_
  intro pg e s m below meth c hx hb hml hr hts hown hlk hnm hB ls hl
  obtain ⟨P, C, A, ⟨hP, hQ, hz, hK⟩, hRep⟩ := hB
  have hS : va_S (zCA cb) s.heap s.heap [] := va_S.rf
  have hl : lv_has ls 2 [(0, .ref cb), (1, .int p0)] := hl
  refine lv_iload_n hx hb zd_X_storeAgain_0 rfl (lv_at hl 1 rfl) ?_
  refine z_callst (nA := 1) (As := [.int p0]) (rest := []) (zc_m_X_isPoint l p0) (zg_X_isPoint zk_X_72) rfl (by decide) ⟨rfl, rfl⟩ ⟨Nat.le_of_ble_eq_true rfl, Nat.le_of_ble_eq_true rfl⟩ hx hb hml hts hown hl.1 rfl rfl (Nat.le_of_ble_eq_true rfl) ⟨Nat.le_of_ble_eq_true rfl, Nat.le_of_ble_eq_true rfl⟩ zd_X_storeAgain_1 ?_
  refine lv_if_eq (tgt := 19) hx hb zd_X_storeAgain_4 (by decide) (fun h4 => ?_) (fun h4 => ?_)
  · have c4 := zb_0 h4
    refine lv_iconst (v := -1) hx hb zd_X_storeAgain_19 (by decide) ?_
    exact zK_iret hx hb hr hlk hS (fun t ht hW => ⟨_, _, _, zC_U hK hP hQ hz hS t ht hW, (zRep_eq hRep (by simp [zg_storeAgain, zo_storeAgain, c4]))⟩) (by simp [zf_storeAgain, zo_storeAgain, zb, c4]) zd_X_storeAgain_20
  · have c4 := zb_1 h4
    obtain ⟨p, h_p, rfl⟩ := zbl_of (n := 4) (by decide) c4
    have z_p : zix (nI p) = p := zix_n (by omega)
    refine lv_aload_n hx hb zd_X_storeAgain_7 rfl (lv_at hl 0 rfl) ?_
    refine zr_get hx hb hts zin_X hown hK hP zCL_0 (zCE_x ka cb C A) rfl 2 (by decide) (zl_X_38 hts) rfl rfl zd_X_storeAgain_8 ?_
    refine lv_iload_n hx hb zd_X_storeAgain_11 rfl (lv_at hl 1 rfl) ?_
    refine zr_aald (v := .ref (cb + (22 + 2 * p))) hx hb hK hP (zCL_in (by omega)) 5 (zCE_wris ka cb C A) rfl (j := p) rfl (show p < 4 from by omega) (by decide) rfl zd_X_storeAgain_12 ?_
    refine zr_get hx hb hts zin_W hown hK hP (zCL_in (by omega)) (zCE_wri ka cb C A (p := p) (by omega)) rfl 3 (by decide) (zl_X_79 hts) rfl rfl zd_X_storeAgain_13 ?_
    refine lv_if_ne (tgt := 21) hx hb zd_X_storeAgain_16 (by decide) (fun h16 => ?_) (fun h16 => ?_)
    · rw [zr_open hRep h_p] at h16
      refine lv_aload_n hx hb zd_X_storeAgain_21 rfl (lv_at hl 0 rfl) ?_
      refine lv_iload_n hx hb zd_X_storeAgain_22 rfl (lv_at hl 1 rfl) ?_
      refine zK_calli (nA := 1) (As := [.int (nI p)]) (rest := []) zCS_blind (zc_m_X_sendStores l D ka cb M hL p (by omega)) (zg_X_sendStores zk_X_87) (by decide) ⟨rfl, rfl⟩ ⟨Nat.le_of_ble_eq_true rfl, Nat.le_of_ble_eq_true rfl⟩ hx hb hml hts hown (zC_recv hK hP zCL_0 (zCE_x ka cb C A) rfl) (fun U hU hW => ⟨_, _, _, zC_U hK hP hQ hz hS U hU hW, hRep⟩) hS (fun _ h => h) hl.1 rfl rfl (Nat.le_of_ble_eq_true rfl) ⟨Nat.le_of_ble_eq_true rfl, Nat.le_of_ble_eq_true rfl⟩ zd_X_storeAgain_23 (fun t locs hvm hB hS _ _ => ?_)
      obtain ⟨P, C, A, ⟨hP, hQ, -, -⟩, hRep⟩ := hB
      generalize t.heap = H at hP hS ⊢
      exact zK_iret hx hb hr hlk hS (fun t ht hW => ⟨_, _, _, zC_U hK hP hQ hz hS t ht hW, (zRep_eq hRep (by simp [zg_storeAgain, zo_storeAgain, c4, z_p, h16]))⟩) (by simp [zf_storeAgain, zo_storeAgain, zb, c4, z_p, h16]) zd_X_storeAgain_26
    · rw [zr_open hRep h_p] at h16
      refine lv_iconst (v := -1) hx hb zd_X_storeAgain_19 (by decide) ?_
      exact zK_iret hx hb hr hlk hS (fun t ht hW => ⟨_, _, _, zC_U hK hP hQ hz hS t ht hW, (zRep_eq hRep (by simp [zg_storeAgain, zo_storeAgain, c4, z_p, h16]))⟩) (by simp [zf_storeAgain, zo_storeAgain, zb, c4, z_p, h16]) zd_X_storeAgain_20
set_option maxRecDepth 100000 in
set_option maxHeartbeats 4000000 in
theorem zc_m_X_askAgain (l : Launch) (D : va_G) (ka : Nat → ClassId) (cb : Nat) (M : zM) (hL : zLt M) (d0 : Int32) : Met l zy_X_askAgain (.code zy_X_askAgain zc_X_askAgain 2 (some .int) :: zAll) ({ frames := 3, cells := 0, slots := 0, locals := 71 }) (va_Pc [.ref cb, .int d0] (zCS D ka cb M)) (va_Qi (fun rr (_ : Unit) => rr = (zf_askAgain M d0)) (fun _ t => zCS D ka cb (zg_askAgain M d0) t) (zCA cb)) 0 0 (zCA cb) := by
  refine z_met (by decide) (Nat.le_of_ble_eq_true rfl) ?_
  intro pg e s m below meth c hx hb hml hr hts hown hlk hnm hB ls hl
  obtain ⟨P, C, A, ⟨hP, hQ, hz, hK⟩, hRep⟩ := hB
  have hS : va_S (zCA cb) s.heap s.heap [] := va_S.rf
  have hl : lv_has ls 2 [(0, .ref cb), (1, .int d0)] := hl
  refine lv_iload_n hx hb zd_X_askAgain_0 rfl (lv_at hl 1 rfl) ?_
  refine z_callst (nA := 1) (As := [.int d0]) (rest := []) (zc_m_X_isReader l d0) (zg_X_isReader zk_X_98) rfl (by decide) ⟨rfl, rfl⟩ ⟨Nat.le_of_ble_eq_true rfl, Nat.le_of_ble_eq_true rfl⟩ hx hb hml hts hown hl.1 rfl rfl (Nat.le_of_ble_eq_true rfl) ⟨Nat.le_of_ble_eq_true rfl, Nat.le_of_ble_eq_true rfl⟩ zd_X_askAgain_1 ?_
  refine lv_if_eq (tgt := 19) hx hb zd_X_askAgain_4 (by decide) (fun h4 => ?_) (fun h4 => ?_)
  · have c4 := zb_0 h4
    refine lv_iconst (v := -1) hx hb zd_X_askAgain_19 (by decide) ?_
    exact zK_iret hx hb hr hlk hS (fun t ht hW => ⟨_, _, _, zC_U hK hP hQ hz hS t ht hW, (zRep_eq hRep (by simp [zg_askAgain, zo_askAgain, c4]))⟩) (by simp [zf_askAgain, zo_askAgain, zb, c4]) zd_X_askAgain_20
  · have c4 := zb_1 h4
    obtain ⟨d, h_d, rfl⟩ := zbl_of (n := 3) (by decide) c4
    have z_d : zix (nI d) = d := zix_n (by omega)
    refine lv_aload_n hx hb zd_X_askAgain_7 rfl (lv_at hl 0 rfl) ?_
    refine zr_get hx hb hts zin_X hown hK hP zCL_0 (zCE_x ka cb C A) rfl 3 (by decide) (zl_X_45 hts) rfl rfl zd_X_askAgain_8 ?_
    refine lv_iload_n hx hb zd_X_askAgain_11 rfl (lv_at hl 1 rfl) ?_
    refine zr_aald (v := .ref (cb + (31 + 3 * d))) hx hb hK hP (zCL_in (by omega)) 6 (zCE_reas ka cb C A) rfl (j := d) rfl (show d < 3 from by omega) (by decide) rfl zd_X_askAgain_12 ?_
    refine zK_calls (nA := 0) (As := []) (rest := []) zCW_blind (zc_m_D_isReading l D ka cb P C A d (by omega)) (zg_D_isReading zk_X_101) (by decide) ⟨rfl, rfl⟩ ⟨Nat.le_of_ble_eq_true rfl, Nat.le_of_ble_eq_true rfl⟩ hx hb hml hts hown (zC_recv hK hP (zCL_in (by omega)) (zCE_rea ka cb C A (d := d) (by omega)) rfl) (zC_U hK hP hQ hz hS) hl.1 rfl rfl (Nat.le_of_ble_eq_true rfl) ⟨Nat.le_of_ble_eq_true rfl, Nat.le_of_ble_eq_true rfl⟩ zd_X_askAgain_13 ?_
    refine lv_if_ne (tgt := 21) hx hb zd_X_askAgain_16 (by decide) (fun h16 => ?_) (fun h16 => ?_)
    · have c16 := zb_1 h16
      rw [zr_st hRep h_d] at c16
      refine lv_aload_n hx hb zd_X_askAgain_21 rfl (lv_at hl 0 rfl) ?_
      refine lv_iload_n hx hb zd_X_askAgain_22 rfl (lv_at hl 1 rfl) ?_
      refine zK_calli (nA := 1) (As := [.int (nI d)]) (rest := []) zCS_blind (zc_m_X_sendAsks l D ka cb M hL d (by omega)) (zg_X_sendAsks zk_X_108) (by decide) ⟨rfl, rfl⟩ ⟨Nat.le_of_ble_eq_true rfl, Nat.le_of_ble_eq_true rfl⟩ hx hb hml hts hown (zC_recv hK hP zCL_0 (zCE_x ka cb C A) rfl) (fun U hU hW => ⟨_, _, _, zC_U hK hP hQ hz hS U hU hW, hRep⟩) hS (fun _ h => h) hl.1 rfl rfl (Nat.le_of_ble_eq_true rfl) ⟨Nat.le_of_ble_eq_true rfl, Nat.le_of_ble_eq_true rfl⟩ zd_X_askAgain_23 (fun t locs hvm hB hS _ _ => ?_)
      obtain ⟨P, C, A, ⟨hP, hQ, -, -⟩, hRep⟩ := hB
      generalize t.heap = H at hP hS ⊢
      exact zK_iret hx hb hr hlk hS (fun t ht hW => ⟨_, _, _, zC_U hK hP hQ hz hS t ht hW, (zRep_eq hRep (by simp [zg_askAgain, zo_askAgain, c4, z_d, c16]))⟩) (by simp [zf_askAgain, zo_askAgain, zb, c4, z_d, c16]) zd_X_askAgain_26
    · have c16 := zb_0 h16
      rw [zr_st hRep h_d] at c16
      refine lv_iconst (v := -1) hx hb zd_X_askAgain_19 (by decide) ?_
      exact zK_iret hx hb hr hlk hS (fun t ht hW => ⟨_, _, _, zC_U hK hP hQ hz hS t ht hW, (zRep_eq hRep (by simp [zg_askAgain, zo_askAgain, c4, z_d, c16]))⟩) (by simp [zf_askAgain, zo_askAgain, zb, c4, z_d, c16]) zd_X_askAgain_20
set_option maxRecDepth 100000 in
set_option maxHeartbeats 4000000 in
theorem zc_m_X_receipt (l : Launch) (D : va_G) (ka : Nat → ClassId) (cb : Nat) (M : zM) (hL : zLt M) (r0 p0 : Int32) : Met l zy_X_receipt (.code zy_X_receipt zc_X_receipt 3 (some .boolean) :: zAll) ({ frames := 2, cells := 0, slots := 0, locals := 47 }) (va_Pc [.ref cb, .int r0, .int p0] (zCS D ka cb M)) (va_Qi (fun rr (_ : Unit) => rr = (zf_receipt M r0 p0)) (fun _ t => zCS D ka cb (zg_receipt M r0 p0) t) (zCA cb)) 0 0 (zCA cb) := by
  refine z_met (by decide) (Nat.le_of_ble_eq_true rfl) ?_
  intro pg e s m below meth c hx hb hml hr hts hown hlk hnm hB ls hl
  obtain ⟨P, C, A, ⟨hP, hQ, hz, hK⟩, hRep⟩ := hB
  have hS : va_S (zCA cb) s.heap s.heap [] := va_S.rf
  have hl : lv_has ls 3 [(0, .ref cb), (1, .int r0), (2, .int p0)] := hl
  obtain ⟨n, hn1, hn⟩ := id hL
  have hz0 : zix (M 0 1) = n := by rw [hn]; exact zix_n (by omega)
  obtain ⟨σ, hσ, hinj, hLR⟩ := zr_post hRep
  refine lv_aload_n hx hb zd_X_receipt_0 rfl (lv_at hl 0 rfl) ?_
  refine lv_iload_n hx hb zd_X_receipt_1 rfl (lv_at hl 1 rfl) ?_
  refine zK_calls (nA := 1) (As := [.int r0]) (rest := []) zCS_blind (zc_m_X_canLie l D ka cb M r0) (zg_X_canLie zk_X_167) (by decide) ⟨rfl, rfl⟩ ⟨Nat.le_of_ble_eq_true rfl, Nat.le_of_ble_eq_true rfl⟩ hx hb hml hts hown (zC_recv hK hP zCL_0 (zCE_x ka cb C A) rfl) (fun U hU hW => ⟨_, _, _, zC_U hK hP hQ hz hS U hU hW, hRep⟩) hl.1 rfl rfl (Nat.le_of_ble_eq_true rfl) ⟨Nat.le_of_ble_eq_true rfl, Nat.le_of_ble_eq_true rfl⟩ zd_X_receipt_2 ?_
  refine lv_if_eq (tgt := 30) hx hb zd_X_receipt_5 (by decide) (fun h5 => ?_) (fun h5 => ?_)
  · have c5 := zb_0 h5
    refine lv_iconst (v := 0) hx hb zd_X_receipt_30 (by decide) ?_
    exact zK_zret hx hb hr hlk hS (fun t ht hW => ⟨_, _, _, zC_U hK hP hQ hz hS t ht hW, (zRep_eq hRep (by simp [zg_receipt, zo_receipt, zsendP_n, c5]))⟩) rfl (by simp [zf_receipt, zo_receipt, zb, c5]) zd_X_receipt_31
  · have c5 := zb_1 h5
    refine lv_iload_n hx hb zd_X_receipt_8 rfl (lv_at hl 2 rfl) ?_
    refine z_callst (nA := 1) (As := [.int p0]) (rest := []) (zc_m_X_isPoint l p0) (zg_X_isPoint zk_X_72) rfl (by decide) ⟨rfl, rfl⟩ ⟨Nat.le_of_ble_eq_true rfl, Nat.le_of_ble_eq_true rfl⟩ hx hb hml hts hown hl.1 rfl rfl (Nat.le_of_ble_eq_true rfl) ⟨Nat.le_of_ble_eq_true rfl, Nat.le_of_ble_eq_true rfl⟩ zd_X_receipt_9 ?_
    refine lv_if_eq (tgt := 30) hx hb zd_X_receipt_12 (by decide) (fun h12 => ?_) (fun h12 => ?_)
    · have c12 := zb_0 h12
      refine lv_iconst (v := 0) hx hb zd_X_receipt_30 (by decide) ?_
      exact zK_zret hx hb hr hlk hS (fun t ht hW => ⟨_, _, _, zC_U hK hP hQ hz hS t ht hW, (zRep_eq hRep (by simp [zg_receipt, zo_receipt, zsendP_n, c5, c12]))⟩) rfl (by simp [zf_receipt, zo_receipt, zb, c5, c12]) zd_X_receipt_31
    · have c12 := zb_1 h12
      obtain ⟨p, h_p, rfl⟩ := zbl_of (n := 4) (by decide) c12
      have z_p : zix (nI p) = p := zix_n (by omega)
      refine lv_aload_n hx hb zd_X_receipt_15 rfl (lv_at hl 0 rfl) ?_
      refine zr_get hx hb hts zin_X hown hK hP zCL_0 (zCE_x ka cb C A) rfl 2 (by decide) (zl_X_38 hts) rfl rfl zd_X_receipt_16 ?_
      refine lv_iload_n hx hb zd_X_receipt_19 rfl (lv_at hl 2 rfl) ?_
      refine zr_aald (v := .ref (cb + (22 + 2 * p))) hx hb hK hP (zCL_in (by omega)) 5 (zCE_wris ka cb C A) rfl (j := p) rfl (show p < 4 from by omega) (by decide) rfl zd_X_receipt_20 ?_
      refine zr_get hx hb hts zin_W hown hK hP (zCL_in (by omega)) (zCE_wri ka cb C A (p := p) (by omega)) rfl 2 (by decide) (zl_X_91 hts) rfl rfl zd_X_receipt_21 ?_
      obtain ⟨la, g1, g2, g3, g4, g5⟩ := zr_lat hRep (p := p) (by omega)
      refine z_topr (v := .ref la) (congrArg va_rf g1) ?_
      refine zr_get hx hb hts zin_P hown hK hP (zCL_p g2) (zCE_pair ka cb C A (zP_adr hQ g2)) rfl 0 (by decide) (zl_X_95 hts) rfl rfl zd_X_receipt_24 ?_
      refine z_top (y := M 9 p) g3 ?_
      refine lv_if_ne (tgt := 32) hx hb zd_X_receipt_27 (by decide) (fun h27 => ?_) (fun h27 => ?_)
      · refine lv_aload_n hx hb zd_X_receipt_32 rfl (lv_at hl 0 rfl) ?_
        refine zr_get hx hb hts zin_X hown hK hP zCL_0 (zCE_x ka cb C A) rfl 4 (by decide) (zl_X_53 hts) rfl rfl zd_X_receipt_33 ?_
        refine lv_iconst (v := 2) hx hb zd_X_receipt_36 (by decide) ?_
        refine lv_iload_n hx hb zd_X_receipt_37 rfl (lv_at hl 1 rfl) ?_
        refine lv_iload_n hx hb zd_X_receipt_38 rfl (lv_at hl 2 rfl) ?_
        refine lv_iconst (v := -1) hx hb zd_X_receipt_39 (by decide) ?_
        refine lv_aload_n hx hb zd_X_receipt_40 rfl (lv_at hl 0 rfl) ?_
        refine zr_get hx hb hts zin_X hown hK hP zCL_0 (zCE_x ka cb C A) rfl 2 (by decide) (zl_X_38 hts) rfl rfl zd_X_receipt_41 ?_
        refine lv_iload_n hx hb zd_X_receipt_44 rfl (lv_at hl 2 rfl) ?_
        refine zr_aald (v := .ref (cb + (22 + 2 * p))) hx hb hK hP (zCL_in (by omega)) 5 (zCE_wris ka cb C A) rfl (j := p) rfl (show p < 4 from by omega) (by decide) rfl zd_X_receipt_45 ?_
        refine zr_get hx hb hts zin_W hown hK hP (zCL_in (by omega)) (zCE_wri ka cb C A (p := p) (by omega)) rfl 2 (by decide) (zl_X_91 hts) rfl rfl zd_X_receipt_46 ?_
        refine z_topr (v := .ref la) (congrArg va_rf g1) ?_
        refine zr_get hx hb hts zin_P hown hK hP (zCL_p g2) (zCE_pair ka cb C A (zP_adr hQ g2)) rfl 0 (by decide) (zl_X_95 hts) rfl rfl zd_X_receipt_49 ?_
        refine z_top (y := M 9 p) g3 ?_
        refine lv_null hx hb zd_X_receipt_52 ?_
        refine zK_callv (nA := 6) (As := [.int 2, .int r0, .int (nI p), .int (-1), .int (M 9 p), .null]) (rest := []) zCW_blind (zc_m_O_send l D ka cb P C A n σ ((zr_count hRep).trans hn) hn1 hσ 2 r0 (nI p) (-1) (M 9 p) none) (zg_O_send zk_X_153) (by decide) ⟨rfl, rfl⟩ ⟨Nat.le_of_ble_eq_true rfl, Nat.le_of_ble_eq_true rfl⟩ hx hb hml hts hown (zC_recv hK hP (zCL_in (by omega)) (zCE_post ka cb C A) rfl) (zC_U hK hP hQ hz hS) hS (fun _ h => h) hl.1 rfl rfl (Nat.le_of_ble_eq_true rfl) ⟨Nat.le_of_ble_eq_true rfl, Nat.le_of_ble_eq_true rfl⟩ zd_X_receipt_53 (fun t locs hvm hB hS _ _ => ?_)
        obtain ⟨hP, -, -, -⟩ := hB
        generalize t.heap = H at hP hS ⊢
        refine lv_iconst (v := 1) hx hb zd_X_receipt_56 (by decide) ?_
        exact zK_zret hx hb hr hlk hS (fun t ht hW => ⟨_, _, _, zC_U hK hP hQ hz hS t ht hW, (zRep_eq (zRep_send hRep hn1 hn hσ hinj hLR (pn := M 9 p) (lo := 0) (hi := 0) (fun q => absurd q (by decide)) (fun q => absurd q (by decide))) (by simp [zg_receipt, zo_receipt, zsendP_n, c5, c12, z_p, h27]))⟩) rfl (by simp [zf_receipt, zo_receipt, zb, c5, c12, z_p, h27]) zd_X_receipt_57
      · refine lv_iconst (v := 0) hx hb zd_X_receipt_30 (by decide) ?_
        exact zK_zret hx hb hr hlk hS (fun t ht hW => ⟨_, _, _, zC_U hK hP hQ hz hS t ht hW, (zRep_eq hRep (by simp [zg_receipt, zo_receipt, zsendP_n, c5, c12, z_p, h27]))⟩) rfl (by simp [zf_receipt, zo_receipt, zb, c5, c12, z_p, h27]) zd_X_receipt_31
set_option maxRecDepth 100000 in
set_option maxHeartbeats 4000000 in
theorem zc_m_X_tell (l : Launch) (D : va_G) (ka : Nat → ClassId) (cb : Nat) (M : zM) (hL : zLt M) (r0 d0 n0 lo hi : Int32) : Met l zy_X_tell (.code zy_X_tell zc_X_tell 7 (some .boolean) :: zAll) ({ frames := 2, cells := 1, slots := 3, locals := 55 }) (va_Pc [.ref cb, .int r0, .int d0, .int n0, .int lo, .int hi] (zCS D ka cb M)) (va_Qi (fun rr (_ : Unit) => rr = (zf_tell M r0 d0 n0 lo hi)) (fun _ t => zCS D ka cb (zg_tell M r0 d0 n0 lo hi) t) (zCA cb)) 1 3 (zCA cb) := by
  refine z_met (by decide) (Nat.le_of_ble_eq_true rfl) ?_
  intro pg e s m below meth c hx hb hml hr hts hown hlk hnm hB ls hl
  obtain ⟨P, C, A, ⟨hP, hQ, hz, hK⟩, hRep⟩ := hB
  have hS : va_S (zCA cb) s.heap s.heap [] := va_S.rf
  have hl : lv_has ls 7 [(0, .ref cb), (1, .int r0), (2, .int d0), (3, .int n0), (4, .int lo), (5, .int hi)] := hl
  obtain ⟨n, hn1, hn⟩ := id hL
  have hz0 : zix (M 0 1) = n := by rw [hn]; exact zix_n (by omega)
  obtain ⟨σ, hσ, hinj, hLR⟩ := zr_post hRep
  refine lv_aload_n hx hb zd_X_tell_0 rfl (lv_at hl 0 rfl) ?_
  refine lv_iload_n hx hb zd_X_tell_1 rfl (lv_at hl 1 rfl) ?_
  refine zK_calls (nA := 1) (As := [.int r0]) (rest := []) zCS_blind (zc_m_X_canLie l D ka cb M r0) (zg_X_canLie zk_X_167) (by decide) ⟨rfl, rfl⟩ ⟨Nat.le_of_ble_eq_true rfl, Nat.le_of_ble_eq_true rfl⟩ hx hb hml hts hown (zC_recv hK hP zCL_0 (zCE_x ka cb C A) rfl) (fun U hU hW => ⟨_, _, _, zC_U hK hP hQ hz hS U hU hW, hRep⟩) hl.1 rfl rfl (Nat.le_of_ble_eq_true rfl) ⟨Nat.le_of_ble_eq_true rfl, Nat.le_of_ble_eq_true rfl⟩ zd_X_tell_2 ?_
  refine lv_if_eq (tgt := 27) hx hb zd_X_tell_5 (by decide) (fun h5 => ?_) (fun h5 => ?_)
  · have c5 := zb_0 h5
    refine lv_iconst (v := 0) hx hb zd_X_tell_27 (by decide) ?_
    refine W.widen (k := 1) (n := 3) (by decide) (by decide) ?_
    exact zK_zret hx hb hr hlk hS (fun t ht hW => ⟨_, _, _, zC_U hK hP hQ hz hS t ht hW, (zRep_eq hRep (by simp [zg_tell, zo_tell, zsendP_t, c5]))⟩) rfl (by simp [zf_tell, zo_tell, zb, c5]) zd_X_tell_28
  · have c5 := zb_1 h5
    refine lv_iload_n hx hb zd_X_tell_8 rfl (lv_at hl 2 rfl) ?_
    refine z_callst (nA := 1) (As := [.int d0]) (rest := []) (zc_m_X_isReader l d0) (zg_X_isReader zk_X_98) rfl (by decide) ⟨rfl, rfl⟩ ⟨Nat.le_of_ble_eq_true rfl, Nat.le_of_ble_eq_true rfl⟩ hx hb hml hts hown hl.1 rfl rfl (Nat.le_of_ble_eq_true rfl) ⟨Nat.le_of_ble_eq_true rfl, Nat.le_of_ble_eq_true rfl⟩ zd_X_tell_9 ?_
    refine lv_if_eq (tgt := 27) hx hb zd_X_tell_12 (by decide) (fun h12 => ?_) (fun h12 => ?_)
    · have c12 := zb_0 h12
      refine lv_iconst (v := 0) hx hb zd_X_tell_27 (by decide) ?_
      refine W.widen (k := 1) (n := 3) (by decide) (by decide) ?_
      exact zK_zret hx hb hr hlk hS (fun t ht hW => ⟨_, _, _, zC_U hK hP hQ hz hS t ht hW, (zRep_eq hRep (by simp [zg_tell, zo_tell, zsendP_t, c5, c12]))⟩) rfl (by simp [zf_tell, zo_tell, zb, c5, c12]) zd_X_tell_28
    · have c12 := zb_1 h12
      obtain ⟨d, h_d, rfl⟩ := zbl_of (n := 3) (by decide) c12
      have z_d : zix (nI d) = d := zix_n (by omega)
      refine lv_aload_n hx hb zd_X_tell_15 rfl (lv_at hl 0 rfl) ?_
      refine zr_get hx hb hts zin_X hown hK hP zCL_0 (zCE_x ka cb C A) rfl 3 (by decide) (zl_X_45 hts) rfl rfl zd_X_tell_16 ?_
      refine lv_iload_n hx hb zd_X_tell_19 rfl (lv_at hl 2 rfl) ?_
      refine zr_aald (v := .ref (cb + (31 + 3 * d))) hx hb hK hP (zCL_in (by omega)) 6 (zCE_reas ka cb C A) rfl (j := d) rfl (show d < 3 from by omega) (by decide) rfl zd_X_tell_20 ?_
      refine zK_calls (nA := 0) (As := []) (rest := []) zCW_blind (zc_m_D_isReading l D ka cb P C A d (by omega)) (zg_D_isReading zk_X_101) (by decide) ⟨rfl, rfl⟩ ⟨Nat.le_of_ble_eq_true rfl, Nat.le_of_ble_eq_true rfl⟩ hx hb hml hts hown (zC_recv hK hP (zCL_in (by omega)) (zCE_rea ka cb C A (d := d) (by omega)) rfl) (zC_U hK hP hQ hz hS) hl.1 rfl rfl (Nat.le_of_ble_eq_true rfl) ⟨Nat.le_of_ble_eq_true rfl, Nat.le_of_ble_eq_true rfl⟩ zd_X_tell_21 ?_
      refine lv_if_ne (tgt := 29) hx hb zd_X_tell_24 (by decide) (fun h24 => ?_) (fun h24 => ?_)
      · have c24 := zb_1 h24
        rw [zr_st hRep h_d] at c24
        refine lv_iload_n hx hb zd_X_tell_29 rfl (lv_at hl 3 rfl) ?_
        refine lv_if_lt (tgt := 40) hx hb zd_X_tell_30 (by decide) (fun h30 => ?_) (fun h30 => ?_)
        · refine lv_iconst (v := 0) hx hb zd_X_tell_40 (by decide) ?_
          refine W.widen (k := 1) (n := 3) (by decide) (by decide) ?_
          exact zK_zret hx hb hr hlk hS (fun t ht hW => ⟨_, _, _, zC_U hK hP hQ hz hS t ht hW, (zRep_eq hRep (by simp [zg_tell, zo_tell, zsendP_t, c5, c12, z_d, c24, h30]))⟩) rfl (by simp [zf_tell, zo_tell, zb, c5, c12, z_d, c24, h30]) zd_X_tell_41
        · refine lv_iload hx hb zd_X_tell_33 (lv_at hl 4 rfl) ?_
          refine lv_iload hx hb zd_X_tell_35 (lv_at hl 5 rfl) ?_
          refine lv_icmp_le (tgt := 42) hx hb zd_X_tell_37 (by decide) (fun h37 => ?_) (fun h37 => ?_)
          · refine lv_aload_n hx hb zd_X_tell_42 rfl (lv_at hl 0 rfl) ?_
            refine zr_get hx hb hts zin_X hown hK hP zCL_0 (zCE_x ka cb C A) rfl 3 (by decide) (zl_X_45 hts) rfl rfl zd_X_tell_43 ?_
            refine lv_iload_n hx hb zd_X_tell_46 rfl (lv_at hl 2 rfl) ?_
            refine zr_aald (v := .ref (cb + (31 + 3 * d))) hx hb hK hP (zCL_in (by omega)) 6 (zCE_reas ka cb C A) rfl (j := d) rfl (show d < 3 from by omega) (by decide) rfl zd_X_tell_47 ?_
            refine lv_astore hx hb zd_X_tell_48 hl (by decide) rfl (fun ls hl => ?_)
            have hl : lv_has ls 7 [(6, .ref (cb + (31 + 3 * d))), (0, .ref cb), (1, .int r0), (2, .int (nI d)), (3, .int n0), (4, .int lo), (5, .int hi)] := hl
            refine lv_aload_n hx hb zd_X_tell_50 rfl (lv_at hl 1 rfl) ?_
            refine zr_get hx hb hts zin_X hown hK hP zCL_0 (zCE_x ka cb C A) rfl 4 (by decide) (zl_X_53 hts) rfl rfl zd_X_tell_51 ?_
            refine lv_iconst (v := 4) hx hb zd_X_tell_54 (by decide) ?_
            refine lv_iload_n hx hb zd_X_tell_55 rfl (lv_at hl 2 rfl) ?_
            refine lv_aload hx hb zd_X_tell_56 (lv_at hl 0 rfl) ?_
            refine zr_get hx hb hts zin_D hown hK hP (zCL_in (by omega)) (zCE_rea ka cb C A (d := d) (by omega)) rfl 6 (by decide) (zl_X_170 hts) rfl rfl zd_X_tell_58 ?_
            refine z_top (y := M 16 d) (zr_pt hRep h_d) ?_
            refine lv_iload_n hx hb zd_X_tell_61 rfl (lv_at hl 3 rfl) ?_
            refine lv_aload hx hb zd_X_tell_62 (lv_at hl 0 rfl) ?_
            refine zr_get hx hb hts zin_D hown hK hP (zCL_in (by omega)) (zCE_rea ka cb C A (d := d) (by omega)) rfl 4 (by decide) (zl_X_111 hts) rfl rfl zd_X_tell_64 ?_
            refine z_top (y := M 15 d) (zr_q hRep h_d) ?_
            refine zC_newP hx hb hts hown (hts _ zcl_X_22) (hts _ zis_P) (hts _ zit_P) hK hP hQ hz hS (Nat.le_of_ble_eq_true rfl) (Nat.le_of_ble_eq_true rfl) zd_X_tell_67 (fun q67 H hnq hQ hP hS => ?_)
            refine lv_dup hx hb zd_X_tell_70 rfl ?_
            refine lv_iload_n hx hb zd_X_tell_71 rfl (lv_at hl 4 rfl) ?_
            refine lv_iload hx hb zd_X_tell_72 (lv_at hl 5 rfl) ?_
            refine lv_iload hx hb zd_X_tell_74 (lv_at hl 6 rfl) ?_
            refine zK_callI (nA := 3) (As := [.int n0, .int lo, .int hi]) (rest := [.ref q67, .int (M 15 d), .int (nI d), .int (M 16 d), .int r0, .int 4, .ref (cb + 40)]) zCW_blind (zc_m_P_init l D ka cb (P ++ [q67]) (zs3 (zs3 (zs3 C 22 q67 0 0) 23 q67 0 0) 24 q67 0 0) A q67 zPa_r n0 lo hi) zh_P_init zit_P zim_P_init zk_X_24 rfl (by decide) ⟨rfl, rfl⟩ ⟨Nat.le_of_ble_eq_true rfl, Nat.le_of_ble_eq_true rfl⟩ hx hb hml hts hown (zC_U hK hP hQ hz hS) hS (fun _ h => h) hl.1 rfl rfl (Nat.le_of_ble_eq_true rfl) ⟨Nat.le_of_ble_eq_true rfl, Nat.le_of_ble_eq_true rfl⟩ zd_X_tell_76 (fun t locs hvm hB hS _ _ => ?_)
            obtain ⟨hP, -, -, -⟩ := hB
            generalize t.heap = H at hP hS ⊢
            have hLR2 := hLR
            have hRep := zRep_newP hRep hnq n0 lo hi
            have hLR := zLR_new (n := n0) (lo := lo) (hi := hi) hnq hLR2
            refine zK_callv (nA := 6) (As := [.int 4, .int r0, .int (M 16 d), .int (nI d), .int (M 15 d), .ref q67]) (rest := []) zCW_blind (zc_m_O_send l D ka cb (P ++ [q67]) (zs3 (zs3 (zs3 (zs3 (zs3 (zs3 C 22 q67 0 0) 23 q67 0 0) 24 q67 0 0) 22 q67 0 n0) 23 q67 0 lo) 24 q67 0 hi) A n σ ((zr_count hRep).trans hn) hn1 hσ 4 r0 (M 16 d) (nI d) (M 15 d) (some q67)) (zg_O_send zk_X_153) (by decide) ⟨rfl, rfl⟩ ⟨Nat.le_of_ble_eq_true rfl, Nat.le_of_ble_eq_true rfl⟩ hx hb hml hts hown (zC_recv hK hP (zCL_in (by omega)) (zCE_post ka cb (zs3 (zs3 (zs3 (zs3 (zs3 (zs3 C 22 q67 0 0) 23 q67 0 0) 24 q67 0 0) 22 q67 0 n0) 23 q67 0 lo) 24 q67 0 hi) A) rfl) (zC_U hK hP hQ hz hS) hS (fun _ h => h) hl.1 rfl rfl (Nat.le_of_ble_eq_true rfl) ⟨Nat.le_of_ble_eq_true rfl, Nat.le_of_ble_eq_true rfl⟩ zd_X_tell_79 (fun t locs hvm hB hS _ _ => ?_)
            obtain ⟨hP, -, -, -⟩ := hB
            generalize t.heap = H at hP hS ⊢
            refine lv_iconst (v := 1) hx hb zd_X_tell_82 (by decide) ?_
            exact zK_zret hx hb hr hlk hS (fun t ht hW => ⟨_, _, _, zC_U hK hP hQ hz hS t ht hW, (zRep_eq (zRep_send hRep hn1 hn hσ hinj hLR (pn := n0) (lo := lo) (hi := hi) (fun q => absurd q (by decide)) (fun _ => ⟨q67, rfl, zPa_r, zCnew_22⟩)) (by simp [zg_tell, zo_tell, zsendP_t, c5, c12, z_d, c24, h30, h37]))⟩) rfl (by simp [zf_tell, zo_tell, zb, c5, c12, z_d, c24, h30, h37]) zd_X_tell_83
          · refine lv_iconst (v := 0) hx hb zd_X_tell_40 (by decide) ?_
            refine W.widen (k := 1) (n := 3) (by decide) (by decide) ?_
            exact zK_zret hx hb hr hlk hS (fun t ht hW => ⟨_, _, _, zC_U hK hP hQ hz hS t ht hW, (zRep_eq hRep (by simp [zg_tell, zo_tell, zsendP_t, c5, c12, z_d, c24, h30, h37]))⟩) rfl (by simp [zf_tell, zo_tell, zb, c5, c12, z_d, c24, h30, h37]) zd_X_tell_41
      · have c24 := zb_0 h24
        rw [zr_st hRep h_d] at c24
        refine lv_iconst (v := 0) hx hb zd_X_tell_27 (by decide) ?_
        refine W.widen (k := 1) (n := 3) (by decide) (by decide) ?_
        exact zK_zret hx hb hr hlk hS (fun t ht hW => ⟨_, _, _, zC_U hK hP hQ hz hS t ht hW, (zRep_eq hRep (by simp [zg_tell, zo_tell, zsendP_t, c5, c12, z_d, c24]))⟩) rfl (by simp [zf_tell, zo_tell, zb, c5, c12, z_d, c24]) zd_X_tell_28
set_option maxRecDepth 100000 in
set_option maxHeartbeats 4000000 in
theorem zc_m_X_write (l : Launch) (D : va_G) (ka : Nat → ClassId) (cb : Nat) (M : zM) (hL : zLt M) (p0 lo hi : Int32) : Met l zy_X_write (.code zy_X_write zc_X_write 4 (some .int) :: zAll) ({ frames := 3, cells := 1, slots := 3, locals := 77 }) (va_Pc [.ref cb, .int p0, .int lo, .int hi] (zCS D ka cb M)) (va_Qi (fun rr (_ : Unit) => rr = (zf_write M p0 lo hi)) (fun _ t => zCS D ka cb (zg_write M p0 lo hi) t) (zCA cb)) 1 3 (zCA cb) := by
  refine z_met (by decide) (Nat.le_of_ble_eq_true rfl) ?_
  intro pg e s m below meth c hx hb hml hr hts hown hlk hnm hB ls hl
  obtain ⟨P, C, A, ⟨hP, hQ, hz, hK⟩, hRep⟩ := hB
  have hS : va_S (zCA cb) s.heap s.heap [] := va_S.rf
  have hl : lv_has ls 4 [(0, .ref cb), (1, .int p0), (2, .int lo), (3, .int hi)] := hl
  refine lv_iload_n hx hb zd_X_write_0 rfl (lv_at hl 1 rfl) ?_
  refine z_callst (nA := 1) (As := [.int p0]) (rest := []) (zc_m_X_isPoint l p0) (zg_X_isPoint zk_X_72) rfl (by decide) ⟨rfl, rfl⟩ ⟨Nat.le_of_ble_eq_true rfl, Nat.le_of_ble_eq_true rfl⟩ hx hb hml hts hown hl.1 rfl rfl (Nat.le_of_ble_eq_true rfl) ⟨Nat.le_of_ble_eq_true rfl, Nat.le_of_ble_eq_true rfl⟩ zd_X_write_1 ?_
  refine lv_if_eq (tgt := 24) hx hb zd_X_write_4 (by decide) (fun h4 => ?_) (fun h4 => ?_)
  · have c4 := zb_0 h4
    refine lv_iconst (v := -1) hx hb zd_X_write_24 (by decide) ?_
    refine W.widen (k := 1) (n := 3) (by decide) (by decide) ?_
    exact zK_iret hx hb hr hlk hS (fun t ht hW => ⟨_, _, _, zC_U hK hP hQ hz hS t ht hW, (zRep_eq hRep (by simp [zg_write, zo_write, c4]))⟩) (by simp [zf_write, zo_write, zb, c4]) zd_X_write_25
  · have c4 := zb_1 h4
    obtain ⟨p, h_p, rfl⟩ := zbl_of (n := 4) (by decide) c4
    have z_p : zix (nI p) = p := zix_n (by omega)
    refine lv_iload_n hx hb zd_X_write_7 rfl (lv_at hl 2 rfl) ?_
    refine lv_iload_n hx hb zd_X_write_8 rfl (lv_at hl 3 rfl) ?_
    refine lv_icmp_gt (tgt := 24) hx hb zd_X_write_9 (by decide) (fun h9 => ?_) (fun h9 => ?_)
    · have h9 := Int32.not_le.mpr h9
      refine lv_iconst (v := -1) hx hb zd_X_write_24 (by decide) ?_
      refine W.widen (k := 1) (n := 3) (by decide) (by decide) ?_
      exact zK_iret hx hb hr hlk hS (fun t ht hW => ⟨_, _, _, zC_U hK hP hQ hz hS t ht hW, (zRep_eq hRep (by simp [zg_write, zo_write, c4, z_p, h9]))⟩) (by simp [zf_write, zo_write, zb, c4, z_p, h9]) zd_X_write_25
    · have h9 := Int32.not_lt.mp h9
      refine lv_aload_n hx hb zd_X_write_12 rfl (lv_at hl 0 rfl) ?_
      refine zr_get hx hb hts zin_X hown hK hP zCL_0 (zCE_x ka cb C A) rfl 2 (by decide) (zl_X_38 hts) rfl rfl zd_X_write_13 ?_
      refine lv_iload_n hx hb zd_X_write_16 rfl (lv_at hl 1 rfl) ?_
      refine zr_aald (v := .ref (cb + (22 + 2 * p))) hx hb hK hP (zCL_in (by omega)) 5 (zCE_wris ka cb C A) rfl (j := p) rfl (show p < 4 from by omega) (by decide) rfl zd_X_write_17 ?_
      refine zr_get hx hb hts zin_W hown hK hP (zCL_in (by omega)) (zCE_wri ka cb C A (p := p) (by omega)) rfl 3 (by decide) (zl_X_79 hts) rfl rfl zd_X_write_18 ?_
      refine lv_if_eq (tgt := 26) hx hb zd_X_write_21 (by decide) (fun h21 => ?_) (fun h21 => ?_)
      · rw [zr_open hRep h_p] at h21
        refine lv_aload_n hx hb zd_X_write_26 rfl (lv_at hl 0 rfl) ?_
        refine zr_get hx hb hts zin_X hown hK hP zCL_0 (zCE_x ka cb C A) rfl 2 (by decide) (zl_X_38 hts) rfl rfl zd_X_write_27 ?_
        refine lv_iload_n hx hb zd_X_write_30 rfl (lv_at hl 1 rfl) ?_
        refine zr_aald (v := .ref (cb + (22 + 2 * p))) hx hb hK hP (zCL_in (by omega)) 5 (zCE_wris ka cb C A) rfl (j := p) rfl (show p < 4 from by omega) (by decide) rfl zd_X_write_31 ?_
        refine lv_iload_n hx hb zd_X_write_32 rfl (lv_at hl 2 rfl) ?_
        refine lv_iload_n hx hb zd_X_write_33 rfl (lv_at hl 3 rfl) ?_
        obtain ⟨la, g1, g2, g3, g4, g5⟩ := zr_lat hRep (p := p) (by omega)
        refine zK_callv (nA := 2) (As := [.int lo, .int hi]) (rest := []) zCW_blind (zc_m_W_begin l D ka cb P C A p la (by omega) g2 g1 lo hi) (zg_W_begin zk_X_83) (by decide) ⟨rfl, rfl⟩ ⟨Nat.le_of_ble_eq_true rfl, Nat.le_of_ble_eq_true rfl⟩ hx hb hml hts hown (zC_recv hK hP (zCL_in (by omega)) (zCE_wri ka cb C A (p := p) (by omega)) rfl) (zC_U hK hP hQ hz hS) hS (fun _ h => h) hl.1 rfl rfl (Nat.le_of_ble_eq_true rfl) ⟨Nat.le_of_ble_eq_true rfl, Nat.le_of_ble_eq_true rfl⟩ zd_X_write_34 (fun t locs hvm hB hS _ _ => ?_)
        obtain ⟨q, hnq, hP, hQ, -, -⟩ := hB
        generalize t.heap = H at hP hS ⊢
        have hRep := zRep_begin hRep hnq h_p (C 22 la 0 + 1) lo hi (by rw [g3])
        refine lv_aload_n hx hb zd_X_write_37 rfl (lv_at hl 0 rfl) ?_
        refine lv_iload_n hx hb zd_X_write_38 rfl (lv_at hl 1 rfl) ?_
        refine zK_calli (nA := 1) (As := [.int (nI p)]) (rest := []) zCS_blind (zc_m_X_sendStores l D ka cb (zfgl p (zW1 M p lo hi) 9) (zLt_of hL (by rw [zfgl_k (by decide) 9]; rfl)) p (by omega)) (zg_X_sendStores zk_X_87) (by decide) ⟨rfl, rfl⟩ ⟨Nat.le_of_ble_eq_true rfl, Nat.le_of_ble_eq_true rfl⟩ hx hb hml hts hown (zC_recv hK hP zCL_0 (zCE_x ka cb (zCbeg C q p (C 22 la 0 + 1) lo hi) (zs3 A 1 p 0 (some q))) rfl) (fun U hU hW => ⟨_, _, _, zC_U hK hP hQ hz hS U hU hW, hRep⟩) hS (fun _ h => h) hl.1 rfl rfl (Nat.le_of_ble_eq_true rfl) ⟨Nat.le_of_ble_eq_true rfl, Nat.le_of_ble_eq_true rfl⟩ zd_X_write_39 (fun t locs hvm hB hS _ _ => ?_)
        obtain ⟨P, C, A, ⟨hP, hQ, -, -⟩, hRep⟩ := hB
        generalize t.heap = H at hP hS ⊢
        rw [zwrite_eq] at hRep
        refine lv_pop hx hb zd_X_write_42 rfl ?_
        refine lv_aload_n hx hb zd_X_write_43 rfl (lv_at hl 0 rfl) ?_
        refine zr_get hx hb hts zin_X hown hK hP zCL_0 (zCE_x ka cb C A) rfl 2 (by decide) (zl_X_38 hts) rfl rfl zd_X_write_44 ?_
        refine lv_iload_n hx hb zd_X_write_47 rfl (lv_at hl 1 rfl) ?_
        refine zr_aald (v := .ref (cb + (22 + 2 * p))) hx hb hK hP (zCL_in (by omega)) 5 (zCE_wris ka cb C A) rfl (j := p) rfl (show p < 4 from by omega) (by decide) rfl zd_X_write_48 ?_
        refine zr_get hx hb hts zin_W hown hK hP (zCL_in (by omega)) (zCE_wri ka cb C A (p := p) (by omega)) rfl 2 (by decide) (zl_X_91 hts) rfl rfl zd_X_write_49 ?_
        obtain ⟨lb, k1, k2, k3, k4, k5⟩ := zr_lat hRep (p := p) (by omega)
        refine z_topr (v := .ref lb) (congrArg va_rf k1) ?_
        refine zr_get hx hb hts zin_P hown hK hP (zCL_p k2) (zCE_pair ka cb C A (zP_adr hQ k2)) rfl 0 (by decide) (zl_X_95 hts) rfl rfl zd_X_write_52 ?_
        exact zK_iret hx hb hr hlk hS (fun t ht hW => ⟨_, _, _, zC_U hK hP hQ hz hS t ht hW, (zRep_eq hRep (by simp [zg_write, zo_write, c4, z_p, h9, h21]))⟩) (k3.trans (by simp [zf_write, zo_write, c4, z_p, h9, h21])) zd_X_write_55
      · rw [zr_open hRep h_p] at h21
        refine lv_iconst (v := -1) hx hb zd_X_write_24 (by decide) ?_
        refine W.widen (k := 1) (n := 3) (by decide) (by decide) ?_
        exact zK_iret hx hb hr hlk hS (fun t ht hW => ⟨_, _, _, zC_U hK hP hQ hz hS t ht hW, (zRep_eq hRep (by simp [zg_write, zo_write, c4, z_p, h9, h21]))⟩) (by simp [zf_write, zo_write, zb, c4, z_p, h9, h21]) zd_X_write_25
