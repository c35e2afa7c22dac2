set_option maxRecDepth 100000 in
set_option maxHeartbeats 4000000 in
theorem zc_m_X_read (l : Launch) (D : va_G) (ka : Nat → ClassId) (cb : Nat) (M : zM) (hL : zLt M) (d0 p0 : Int32) : Met l zy_X_read (.code zy_X_read zc_X_read 3 (some .int) :: zAll) ({ frames := 3, cells := 0, slots := 0, locals := 71 }) (va_Pc [.ref cb, .int d0, .int p0] (zCS D ka cb M)) (va_Qi (fun rr (_ : Unit) => rr = (zf_read M d0 p0)) (fun _ t => zCS D ka cb (zg_read M d0 p0) t) (zCA cb)) 0 0 (zCA cb) := by
  refine z_met (by decide) (Nat.le_of_ble_eq_true rfl) ?_
  intro pg e s m below meth c hx hb hml hr hts hown hlk hnm hB ls hl
  obtain ⟨P, C, A, ⟨hP, hQ, hz, hK⟩, hRep⟩ := hB
  have hS : va_S (zCA cb) s.heap s.heap [] := va_S.rf
  have hl : lv_has ls 3 [(0, .ref cb), (1, .int d0), (2, .int p0)] := hl
  refine lv_iload_n hx hb zd_X_read_0 rfl (lv_at hl 1 rfl) ?_
  refine z_callst (nA := 1) (As := [.int d0]) (rest := []) (zc_m_X_isReader l d0) (zg_X_isReader zk_X_98) rfl (by decide) ⟨rfl, rfl⟩ ⟨Nat.le_of_ble_eq_true rfl, Nat.le_of_ble_eq_true rfl⟩ hx hb hml hts hown hl.1 rfl rfl (Nat.le_of_ble_eq_true rfl) ⟨Nat.le_of_ble_eq_true rfl, Nat.le_of_ble_eq_true rfl⟩ zd_X_read_1 ?_
  refine lv_if_eq (tgt := 26) hx hb zd_X_read_4 (by decide) (fun h4 => ?_) (fun h4 => ?_)
  · have c4 := zb_0 h4
    refine lv_iconst (v := -1) hx hb zd_X_read_26 (by decide) ?_
    exact zK_iret hx hb hr hlk hS (fun t ht hW => ⟨_, _, _, zC_U hK hP hQ hz hS t ht hW, (zRep_eq hRep (by simp [zg_read, zo_read, c4]))⟩) (by simp [zf_read, zo_read, zb, c4]) zd_X_read_27
  · have c4 := zb_1 h4
    obtain ⟨d, h_d, rfl⟩ := zbl_of (n := 3) (by decide) c4
    have z_d : zix (nI d) = d := zix_n (by omega)
    refine lv_iload_n hx hb zd_X_read_7 rfl (lv_at hl 2 rfl) ?_
    refine z_callst (nA := 1) (As := [.int p0]) (rest := []) (zc_m_X_isPoint l p0) (zg_X_isPoint zk_X_72) rfl (by decide) ⟨rfl, rfl⟩ ⟨Nat.le_of_ble_eq_true rfl, Nat.le_of_ble_eq_true rfl⟩ hx hb hml hts hown hl.1 rfl rfl (Nat.le_of_ble_eq_true rfl) ⟨Nat.le_of_ble_eq_true rfl, Nat.le_of_ble_eq_true rfl⟩ zd_X_read_8 ?_
    refine lv_if_eq (tgt := 26) hx hb zd_X_read_11 (by decide) (fun h11 => ?_) (fun h11 => ?_)
    · have c11 := zb_0 h11
      refine lv_iconst (v := -1) hx hb zd_X_read_26 (by decide) ?_
      exact zK_iret hx hb hr hlk hS (fun t ht hW => ⟨_, _, _, zC_U hK hP hQ hz hS t ht hW, (zRep_eq hRep (by simp [zg_read, zo_read, c4, z_d, c11]))⟩) (by simp [zf_read, zo_read, zb, c4, z_d, c11]) zd_X_read_27
    · have c11 := zb_1 h11
      obtain ⟨p, h_p, rfl⟩ := zbl_of (n := 4) (by decide) c11
      have z_p : zix (nI p) = p := zix_n (by omega)
      refine lv_aload_n hx hb zd_X_read_14 rfl (lv_at hl 0 rfl) ?_
      refine zr_get hx hb hts zin_X hown hK hP zCL_0 (zCE_x ka cb C A) rfl 3 (by decide) (zl_X_45 hts) rfl rfl zd_X_read_15 ?_
      refine lv_iload_n hx hb zd_X_read_18 rfl (lv_at hl 1 rfl) ?_
      refine zr_aald (v := .ref (cb + (31 + 3 * d))) hx hb hK hP (zCL_in (by omega)) 6 (zCE_reas ka cb C A) rfl (j := d) rfl (show d < 3 from by omega) (by decide) rfl zd_X_read_19 ?_
      refine zK_calls (nA := 0) (As := []) (rest := []) zCW_blind (zc_m_D_isReading l D ka cb P C A d (by omega)) (zg_D_isReading zk_X_101) (by decide) ⟨rfl, rfl⟩ ⟨Nat.le_of_ble_eq_true rfl, Nat.le_of_ble_eq_true rfl⟩ hx hb hml hts hown (zC_recv hK hP (zCL_in (by omega)) (zCE_rea ka cb C A (d := d) (by omega)) rfl) (zC_U hK hP hQ hz hS) hl.1 rfl rfl (Nat.le_of_ble_eq_true rfl) ⟨Nat.le_of_ble_eq_true rfl, Nat.le_of_ble_eq_true rfl⟩ zd_X_read_20 ?_
      refine lv_if_eq (tgt := 28) hx hb zd_X_read_23 (by decide) (fun h23 => ?_) (fun h23 => ?_)
      · have c23 := zb_0 h23
        rw [zr_st hRep h_d] at c23
        refine lv_aload_n hx hb zd_X_read_28 rfl (lv_at hl 0 rfl) ?_
        refine zr_get hx hb hts zin_X hown hK hP zCL_0 (zCE_x ka cb C A) rfl 3 (by decide) (zl_X_45 hts) rfl rfl zd_X_read_29 ?_
        refine lv_iload_n hx hb zd_X_read_32 rfl (lv_at hl 1 rfl) ?_
        refine zr_aald (v := .ref (cb + (31 + 3 * d))) hx hb hK hP (zCL_in (by omega)) 6 (zCE_reas ka cb C A) rfl (j := d) rfl (show d < 3 from by omega) (by decide) rfl zd_X_read_33 ?_
        refine lv_iload_n hx hb zd_X_read_34 rfl (lv_at hl 2 rfl) ?_
        refine zK_callv (nA := 1) (As := [.int (nI p)]) (rest := []) zCW_blind (zc_m_D_begin l D ka cb P C A d (by omega) (nI p)) (zg_D_begin zk_X_105) (by decide) ⟨rfl, rfl⟩ ⟨Nat.le_of_ble_eq_true rfl, Nat.le_of_ble_eq_true rfl⟩ hx hb hml hts hown (zC_recv hK hP (zCL_in (by omega)) (zCE_rea ka cb C A (d := d) (by omega)) rfl) (zC_U hK hP hQ hz hS) hS (fun _ h => h) hl.1 rfl rfl (Nat.le_of_ble_eq_true rfl) ⟨Nat.le_of_ble_eq_true rfl, Nat.le_of_ble_eq_true rfl⟩ zd_X_read_35 (fun t locs hvm hB hS _ _ => ?_)
        obtain ⟨hP, -, -, -⟩ := hB
        generalize t.heap = H at hP hS ⊢
        have hRep := zRep_round (zRep_sp hRep d (nI p)) d 1
        refine lv_aload_n hx hb zd_X_read_38 rfl (lv_at hl 0 rfl) ?_
        refine lv_iload_n hx hb zd_X_read_39 rfl (lv_at hl 1 rfl) ?_
        refine zK_calli (nA := 1) (As := [.int (nI d)]) (rest := []) zCS_blind (zc_m_X_sendAsks l D ka cb (ztcl d (zst (zst (zst (zst M 18 d 1) 16 d (nI p)) 17 d 1) 15 d ((zst (zst M 18 d 1) 16 d (nI p)) 15 d + 1)) 9) (zLt_of hL (by rw [ztcl_k (by decide) 9]; rfl)) d (by omega)) (zg_X_sendAsks zk_X_108) (by decide) ⟨rfl, rfl⟩ ⟨Nat.le_of_ble_eq_true rfl, Nat.le_of_ble_eq_true rfl⟩ hx hb hml hts hown (zC_recv hK hP zCL_0 (zCE_x ka cb (zroundC (zs3 (zs3 C 8 d 0 1) 11 d 0 (nI p)) d 1) (ztc A d 9)) rfl) (fun U hU hW => ⟨_, _, _, zC_U hK hP hQ hz hS U hU hW, hRep⟩) hS (fun _ h => h) hl.1 rfl rfl (Nat.le_of_ble_eq_true rfl) ⟨Nat.le_of_ble_eq_true rfl, Nat.le_of_ble_eq_true rfl⟩ zd_X_read_40 (fun t locs hvm hB hS _ _ => ?_)
        obtain ⟨P, C, A, ⟨hP, hQ, -, -⟩, hRep⟩ := hB
        generalize t.heap = H at hP hS ⊢
        rw [zread_eq] at hRep
        refine lv_pop hx hb zd_X_read_43 rfl ?_
        refine lv_aload_n hx hb zd_X_read_44 rfl (lv_at hl 0 rfl) ?_
        refine zr_get hx hb hts zin_X hown hK hP zCL_0 (zCE_x ka cb C A) rfl 3 (by decide) (zl_X_45 hts) rfl rfl zd_X_read_45 ?_
        refine lv_iload_n hx hb zd_X_read_48 rfl (lv_at hl 1 rfl) ?_
        refine zr_aald (v := .ref (cb + (31 + 3 * d))) hx hb hK hP (zCL_in (by omega)) 6 (zCE_reas ka cb C A) rfl (j := d) rfl (show d < 3 from by omega) (by decide) rfl zd_X_read_49 ?_
        refine zr_get hx hb hts zin_D hown hK hP (zCL_in (by omega)) (zCE_rea ka cb C A (d := d) (by omega)) rfl 4 (by decide) (zl_X_111 hts) rfl rfl zd_X_read_50 ?_
        refine z_top (y := zread M d (nI p) 15 d) (zr_q hRep h_d) ?_
        exact zK_iret hx hb hr hlk hS (fun t ht hW => ⟨_, _, _, zC_U hK hP hQ hz hS t ht hW, (zRep_eq hRep (by simp [zg_read, zo_read, c4, z_d, c11, z_p, c23]))⟩) (by simp [zf_read, zo_read, zb, c4, z_d, c11, z_p, c23]) zd_X_read_53
      · have c23 := zb_1 h23
        rw [zr_st hRep h_d] at c23
        refine lv_iconst (v := -1) hx hb zd_X_read_26 (by decide) ?_
        exact zK_iret hx hb hr hlk hS (fun t ht hW => ⟨_, _, _, zC_U hK hP hQ hz hS t ht hW, (zRep_eq hRep (by simp [zg_read, zo_read, c4, z_d, c11, z_p, c23]))⟩) (by simp [zf_read, zo_read, zb, c4, z_d, c11, z_p, c23]) zd_X_read_27
set_option maxRecDepth 100000 in
set_option maxHeartbeats 4000000 in
theorem zc_m_X_bringStore (l : Launch) (D : va_G) (ka : Nat → ClassId) (cb : Nat) (P : List Nat) (C : zC) (A : zA) (M : zM) (hRep : zRep cb P C A M) (hL : zLt M) (r p a : Nat) (hr0 : r < 9) (hp : p < 4) (ha : zPR cb P (C 22) (C 23) (C 24) a (M 35 300) (M 37 300) (M 38 300)) (h32 : M 32 300 = nI r) (h33 : M 33 300 = nI p) : Met l zy_X_bringStore (.code zy_X_bringStore zc_X_bringStore 5 none :: zAll) ({ frames := 2, cells := 0, slots := 0, locals := 47 }) (va_Pc [.ref cb, .int (nI r), .int (nI p), .int (M 35 300), .ref a] (zCW D ka cb P C A)) (va_Qv (fun (_ : Unit) => True) (fun _ t => zCS D ka cb (if zdeaf M r then M else zstoreComes M (4 * r + p)) t) (zCA cb)) 0 0 (zCA cb) := by
  refine z_met (by decide) (Nat.le_of_ble_eq_true rfl) ?_
  intro pg e s m below meth c hx hb hml hr hts hown hlk hnm hB ls hl
  obtain ⟨hP, hQ, hz, hK⟩ := hB
  have hS : va_S (zCA cb) s.heap s.heap [] := va_S.rf
  have hl : lv_has ls 5 [(0, .ref cb), (1, .int (nI r)), (2, .int (nI p)), (3, .int (M 35 300)), (4, .ref a)] := hl
  obtain ⟨n, hn1, hn⟩ := id hL
  have hz0 : zix (M 0 1) = n := by rw [hn]; exact zix_n (by omega)
  obtain ⟨σ, hσ, hinj, hLR⟩ := zr_post hRep
  refine lv_aload_n hx hb zd_X_bringStore_0 rfl (lv_at hl 0 rfl) ?_
  refine zr_get hx hb hts zin_X hown hK hP zCL_0 (zCE_x ka cb C A) rfl 1 (by decide) (zl_X_29 hts) rfl rfl zd_X_bringStore_1 ?_
  refine lv_iload_n hx hb zd_X_bringStore_4 rfl (lv_at hl 1 rfl) ?_
  refine zr_aald (v := .ref (cb + (3 + 2 * r))) hx hb hK hP (zCL_in (by omega)) 4 (zCE_recs ka cb C A) rfl (j := r) rfl (show r < 9 from by omega) (by decide) rfl zd_X_bringStore_5 ?_
  refine zK_calls (nA := 0) (As := []) (rest := []) zCW_blind (zc_m_R_heeds l D ka cb P C A r (by omega)) (zg_R_heeds zk_X_230) (by decide) ⟨rfl, rfl⟩ ⟨Nat.le_of_ble_eq_true rfl, Nat.le_of_ble_eq_true rfl⟩ hx hb hml hts hown (zC_recv hK hP (zCL_in (by omega)) (zCE_rec ka cb C A (r := r) (by omega)) rfl) (zC_U hK hP hQ hz hS) hl.1 rfl rfl (Nat.le_of_ble_eq_true rfl) ⟨Nat.le_of_ble_eq_true rfl, Nat.le_of_ble_eq_true rfl⟩ zd_X_bringStore_6 ?_
  refine lv_if_ne (tgt := 13) hx hb zd_X_bringStore_9 (by decide) (fun h9 => ?_) (fun h9 => ?_)
  · have c9 := zb_1 h9
    rw [zr_up hRep hr0, zr_liar hRep hr0] at c9
    have hnd : ¬ zdeaf M r := fun q => q.elim (fun q => c9.1 (zb_f q)) (fun q => q c9.2)
    refine lv_iload_n hx hb zd_X_bringStore_13 rfl (lv_at hl 3 rfl) ?_
    refine lv_aload_n hx hb zd_X_bringStore_14 rfl (lv_at hl 0 rfl) ?_
    refine zr_get hx hb hts zin_X hown hK hP zCL_0 (zCE_x ka cb C A) rfl 1 (by decide) (zl_X_29 hts) rfl rfl zd_X_bringStore_15 ?_
    refine lv_iload_n hx hb zd_X_bringStore_18 rfl (lv_at hl 1 rfl) ?_
    refine zr_aald (v := .ref (cb + (3 + 2 * r))) hx hb hK hP (zCL_in (by omega)) 4 (zCE_recs ka cb C A) rfl (j := r) rfl (show r < 9 from by omega) (by decide) rfl zd_X_bringStore_19 ?_
    refine zr_get hx hb hts zin_R hown hK hP (zCL_in (by omega)) (zCE_rec ka cb C A (r := r) (by omega)) rfl 0 (by decide) (zl_X_201 hts) rfl rfl zd_X_bringStore_20 ?_
    refine lv_iload_n hx hb zd_X_bringStore_23 rfl (lv_at hl 2 rfl) ?_
    refine zr_aald (v := va_rf (A 0 r p)) hx hb hK hP (zCL_in (by omega)) 2 (zCE_rps ka cb C A (r := r) (by omega)) rfl (j := p) rfl (show p < 4 from by omega) (by decide) rfl zd_X_bringStore_24 ?_
    obtain ⟨la, g1, g2, g3, g4, g5⟩ := zr_held hRep (r := r) (p := p) (by omega) (by omega)
    refine z_topr (v := .ref la) (congrArg va_rf g1) ?_
    refine zr_get hx hb hts zin_P hown hK hP (zCL_p g2) (zCE_pair ka cb C A (zP_adr hQ g2)) rfl 0 (by decide) (zl_X_95 hts) rfl rfl zd_X_bringStore_25 ?_
    refine z_top (y := M 6 (4 * r + p)) g3 ?_
    refine lv_icmp_le (tgt := 44) hx hb zd_X_bringStore_28 (by decide) (fun h28 => ?_) (fun h28 => ?_)
    · have h28 := Int32.not_lt.mpr h28
      refine lv_aload_n hx hb zd_X_bringStore_44 rfl (lv_at hl 0 rfl) ?_
      refine zr_get hx hb hts zin_X hown hK hP zCL_0 (zCE_x ka cb C A) rfl 4 (by decide) (zl_X_53 hts) rfl rfl zd_X_bringStore_45 ?_
      refine lv_iconst (v := 2) hx hb zd_X_bringStore_48 (by decide) ?_
      refine lv_iload_n hx hb zd_X_bringStore_49 rfl (lv_at hl 1 rfl) ?_
      refine lv_iload_n hx hb zd_X_bringStore_50 rfl (lv_at hl 2 rfl) ?_
      refine lv_iconst (v := -1) hx hb zd_X_bringStore_51 (by decide) ?_
      refine lv_iload_n hx hb zd_X_bringStore_52 rfl (lv_at hl 3 rfl) ?_
      refine lv_null hx hb zd_X_bringStore_53 ?_
      refine zK_callv (nA := 6) (As := [.int 2, .int (nI r), .int (nI p), .int (-1), .int (M 35 300), .null]) (rest := []) zCW_blind (zc_m_O_send l D ka cb P C A n σ ((zr_count hRep).trans hn) hn1 hσ 2 (nI r) (nI p) (-1) (M 35 300) none) (zg_O_send zk_X_153) (by decide) ⟨rfl, rfl⟩ ⟨Nat.le_of_ble_eq_true rfl, Nat.le_of_ble_eq_true rfl⟩ hx hb hml hts hown (zC_recv hK hP (zCL_in (by omega)) (zCE_post ka cb C A) rfl) (zC_U hK hP hQ hz hS) hS (fun _ h => h) hl.1 rfl rfl (Nat.le_of_ble_eq_true rfl) ⟨Nat.le_of_ble_eq_true rfl, Nat.le_of_ble_eq_true rfl⟩ zd_X_bringStore_54 (fun t locs hvm hB hS _ _ => ?_)
      obtain ⟨hP, -, -, -⟩ := hB
      generalize t.heap = H at hP hS ⊢
      exact zK_vret hx hb hr hlk hS (fun t ht hW => ⟨_, _, _, zC_U hK hP hQ hz hS t ht hW, (zRep_eq (zRep_send hRep hn1 hn hσ hinj hLR (pn := M 35 300) (lo := 0) (hi := 0) (fun q => absurd q (by decide)) (fun q => absurd q (by decide))) (by rw [if_neg hnd, zsendP_n]; simp [zstoreComes, h28, h32, h33]))⟩) zd_X_bringStore_57
    · have h28 := Int32.not_le.mp h28
      refine lv_aload_n hx hb zd_X_bringStore_31 rfl (lv_at hl 0 rfl) ?_
      refine zr_get hx hb hts zin_X hown hK hP zCL_0 (zCE_x ka cb C A) rfl 1 (by decide) (zl_X_29 hts) rfl rfl zd_X_bringStore_32 ?_
      refine lv_iload_n hx hb zd_X_bringStore_35 rfl (lv_at hl 1 rfl) ?_
      refine zr_aald (v := .ref (cb + (3 + 2 * r))) hx hb hK hP (zCL_in (by omega)) 4 (zCE_recs ka cb C A) rfl (j := r) rfl (show r < 9 from by omega) (by decide) rfl zd_X_bringStore_36 ?_
      refine zr_get hx hb hts zin_R hown hK hP (zCL_in (by omega)) (zCE_rec ka cb C A (r := r) (by omega)) rfl 0 (by decide) (zl_X_201 hts) rfl rfl zd_X_bringStore_37 ?_
      refine lv_iload_n hx hb zd_X_bringStore_40 rfl (lv_at hl 2 rfl) ?_
      refine lv_aload hx hb zd_X_bringStore_41 (lv_at hl 4 rfl) ?_
      refine zr_aast (r := (zN_P, zT_P, 3)) hx hb hK hP (zC_D hQ _) hS (zCL_in (by omega)) 2 zciP (zCE_rps ka cb C A (r := r) (by omega)) rfl (zCL_p ha.1) (zCE_pair ka cb C A (zP_adr hQ ha.1)) rfl (j := p) rfl (show p < 4 from by omega) (by decide) zd_X_bringStore_43 (fun H locs hP hS => ?_)
      have hP : zCP D ka cb P C (zs3 A 0 r p (some a)) H := zC_re (zCU_rps ka cb C A (r := r) (by omega) p (some a)) hP
      have hRep := zRep_hold hRep hr0 hp ha
      refine lv_aload_n hx hb zd_X_bringStore_44 rfl (lv_at hl 0 rfl) ?_
      refine zr_get hx hb hts zin_X hown hK hP zCL_0 (zCE_x ka cb C (zs3 A 0 r p (some a))) rfl 4 (by decide) (zl_X_53 hts) rfl rfl zd_X_bringStore_45 ?_
      refine lv_iconst (v := 2) hx hb zd_X_bringStore_48 (by decide) ?_
      refine lv_iload_n hx hb zd_X_bringStore_49 rfl (lv_at hl 1 rfl) ?_
      refine lv_iload_n hx hb zd_X_bringStore_50 rfl (lv_at hl 2 rfl) ?_
      refine lv_iconst (v := -1) hx hb zd_X_bringStore_51 (by decide) ?_
      refine lv_iload_n hx hb zd_X_bringStore_52 rfl (lv_at hl 3 rfl) ?_
      refine lv_null hx hb zd_X_bringStore_53 ?_
      refine zK_callv (nA := 6) (As := [.int 2, .int (nI r), .int (nI p), .int (-1), .int (M 35 300), .null]) (rest := []) zCW_blind (zc_m_O_send l D ka cb P C (zs3 A 0 r p (some a)) n σ ((zr_count hRep).trans hn) hn1 hσ 2 (nI r) (nI p) (-1) (M 35 300) none) (zg_O_send zk_X_153) (by decide) ⟨rfl, rfl⟩ ⟨Nat.le_of_ble_eq_true rfl, Nat.le_of_ble_eq_true rfl⟩ hx hb hml hts hown (zC_recv hK hP (zCL_in (by omega)) (zCE_post ka cb C (zs3 A 0 r p (some a))) rfl) (zC_U hK hP hQ hz hS) hS (fun _ h => h) hl.1 rfl rfl (Nat.le_of_ble_eq_true rfl) ⟨Nat.le_of_ble_eq_true rfl, Nat.le_of_ble_eq_true rfl⟩ zd_X_bringStore_54 (fun t locs hvm hB hS _ _ => ?_)
      obtain ⟨hP, -, -, -⟩ := hB
      generalize t.heap = H at hP hS ⊢
      exact zK_vret hx hb hr hlk hS (fun t ht hW => ⟨_, _, _, zC_U hK hP hQ hz hS t ht hW, (zRep_eq (zRep_send hRep hn1 hn hσ hinj hLR (pn := M 35 300) (lo := 0) (hi := 0) (fun q => absurd q (by decide)) (fun q => absurd q (by decide))) (by rw [if_neg hnd, zsendP_n]; simp [zstoreComes, h28, h32, h33]))⟩) zd_X_bringStore_57
  · have c9 := zb_0 h9
    rw [zr_up hRep hr0, zr_liar hRep hr0] at c9
    have hnd : zdeaf M r := Classical.byContradiction (fun q => c9 ⟨fun z => q (Or.inl (zb_0 z)), Classical.byContradiction (fun z => q (Or.inr z))⟩)
    exact zK_vret hx hb hr hlk hS (fun t ht hW => ⟨_, _, _, zC_U hK hP hQ hz hS t ht hW, (zRep_eq hRep (by rw [if_pos hnd]))⟩) zd_X_bringStore_12
set_option maxRecDepth 100000 in
set_option maxHeartbeats 4000000 in
theorem zc_m_X_bringAsk (l : Launch) (D : va_G) (ka : Nat → ClassId) (cb : Nat) (P : List Nat) (C : zC) (A : zA) (M : zM) (hRep : zRep cb P C A M) (hL : zLt M) (r p : Nat) (hr0 : r < 9) (hp : p < 4) (d0 q0 : Int32) : Met l zy_X_bringAsk (.code zy_X_bringAsk zc_X_bringAsk 6 none :: zAll) ({ frames := 2, cells := 0, slots := 0, locals := 47 }) (va_Pc [.ref cb, .int (nI r), .int (nI p), .int d0, .int q0] (zCW D ka cb P C A)) (va_Qv (fun (_ : Unit) => True) (fun _ t => zCS D ka cb (if zdeaf M r then M else zsendTell M (nI r) (nI p) d0 q0 (M 6 (4 * r + p)) (M 7 (4 * r + p)) (M 8 (4 * r + p))) t) (zCA cb)) 0 0 (zCA cb) := by
  refine z_met (by decide) (Nat.le_of_ble_eq_true rfl) ?_
  intro pg e s m below meth c hx hb hml hr hts hown hlk hnm hB ls hl
  obtain ⟨hP, hQ, hz, hK⟩ := hB
  have hS : va_S (zCA cb) s.heap s.heap [] := va_S.rf
  have hl : lv_has ls 6 [(0, .ref cb), (1, .int (nI r)), (2, .int (nI p)), (3, .int d0), (4, .int q0)] := hl
  obtain ⟨n, hn1, hn⟩ := id hL
  have hz0 : zix (M 0 1) = n := by rw [hn]; exact zix_n (by omega)
  obtain ⟨σ, hσ, hinj, hLR⟩ := zr_post hRep
  refine lv_aload_n hx hb zd_X_bringAsk_0 rfl (lv_at hl 0 rfl) ?_
  refine zr_get hx hb hts zin_X hown hK hP zCL_0 (zCE_x ka cb C A) rfl 1 (by decide) (zl_X_29 hts) rfl rfl zd_X_bringAsk_1 ?_
  refine lv_iload_n hx hb zd_X_bringAsk_4 rfl (lv_at hl 1 rfl) ?_
  refine zr_aald (v := .ref (cb + (3 + 2 * r))) hx hb hK hP (zCL_in (by omega)) 4 (zCE_recs ka cb C A) rfl (j := r) rfl (show r < 9 from by omega) (by decide) rfl zd_X_bringAsk_5 ?_
  refine zK_calls (nA := 0) (As := []) (rest := []) zCW_blind (zc_m_R_heeds l D ka cb P C A r (by omega)) (zg_R_heeds zk_X_230) (by decide) ⟨rfl, rfl⟩ ⟨Nat.le_of_ble_eq_true rfl, Nat.le_of_ble_eq_true rfl⟩ hx hb hml hts hown (zC_recv hK hP (zCL_in (by omega)) (zCE_rec ka cb C A (r := r) (by omega)) rfl) (zC_U hK hP hQ hz hS) hl.1 rfl rfl (Nat.le_of_ble_eq_true rfl) ⟨Nat.le_of_ble_eq_true rfl, Nat.le_of_ble_eq_true rfl⟩ zd_X_bringAsk_6 ?_
  refine lv_if_eq (tgt := 40) hx hb zd_X_bringAsk_9 (by decide) (fun h9 => ?_) (fun h9 => ?_)
  · have c9 := zb_0 h9
    rw [zr_up hRep hr0, zr_liar hRep hr0] at c9
    have hnd : zdeaf M r := Classical.byContradiction (fun q => c9 ⟨fun z => q (Or.inl (zb_0 z)), Classical.byContradiction (fun z => q (Or.inr z))⟩)
    exact zK_vret hx hb hr hlk hS (fun t ht hW => ⟨_, _, _, zC_U hK hP hQ hz hS t ht hW, (zRep_eq hRep (by rw [if_pos hnd]))⟩) zd_X_bringAsk_40
  · have c9 := zb_1 h9
    rw [zr_up hRep hr0, zr_liar hRep hr0] at c9
    have hnd : ¬ zdeaf M r := fun q => q.elim (fun q => c9.1 (zb_f q)) (fun q => q c9.2)
    refine lv_aload_n hx hb zd_X_bringAsk_12 rfl (lv_at hl 0 rfl) ?_
    refine zr_get hx hb hts zin_X hown hK hP zCL_0 (zCE_x ka cb C A) rfl 1 (by decide) (zl_X_29 hts) rfl rfl zd_X_bringAsk_13 ?_
    refine lv_iload_n hx hb zd_X_bringAsk_16 rfl (lv_at hl 1 rfl) ?_
    refine zr_aald (v := .ref (cb + (3 + 2 * r))) hx hb hK hP (zCL_in (by omega)) 4 (zCE_recs ka cb C A) rfl (j := r) rfl (show r < 9 from by omega) (by decide) rfl zd_X_bringAsk_17 ?_
    refine zr_get hx hb hts zin_R hown hK hP (zCL_in (by omega)) (zCE_rec ka cb C A (r := r) (by omega)) rfl 0 (by decide) (zl_X_201 hts) rfl rfl zd_X_bringAsk_18 ?_
    refine lv_iload_n hx hb zd_X_bringAsk_21 rfl (lv_at hl 2 rfl) ?_
    refine zr_aald (v := va_rf (A 0 r p)) hx hb hK hP (zCL_in (by omega)) 2 (zCE_rps ka cb C A (r := r) (by omega)) rfl (j := p) rfl (show p < 4 from by omega) (by decide) rfl zd_X_bringAsk_22 ?_
    obtain ⟨la, g1, g2, g3, g4, g5⟩ := zr_held hRep (r := r) (p := p) (by omega) (by omega)
    refine z_topr (v := .ref la) (congrArg va_rf g1) ?_
    refine lv_astore hx hb zd_X_bringAsk_23 hl (by decide) rfl (fun ls hl => ?_)
    have hl : lv_has ls 6 [(5, .ref la), (0, .ref cb), (1, .int (nI r)), (2, .int (nI p)), (3, .int d0), (4, .int q0)] := hl
    refine lv_aload_n hx hb zd_X_bringAsk_25 rfl (lv_at hl 1 rfl) ?_
    refine zr_get hx hb hts zin_X hown hK hP zCL_0 (zCE_x ka cb C A) rfl 4 (by decide) (zl_X_53 hts) rfl rfl zd_X_bringAsk_26 ?_
    refine lv_iconst (v := 4) hx hb zd_X_bringAsk_29 (by decide) ?_
    refine lv_iload_n hx hb zd_X_bringAsk_30 rfl (lv_at hl 2 rfl) ?_
    refine lv_iload_n hx hb zd_X_bringAsk_31 rfl (lv_at hl 3 rfl) ?_
    refine lv_iload_n hx hb zd_X_bringAsk_32 rfl (lv_at hl 4 rfl) ?_
    refine lv_iload hx hb zd_X_bringAsk_33 (lv_at hl 5 rfl) ?_
    refine lv_aload hx hb zd_X_bringAsk_35 (lv_at hl 0 rfl) ?_
    refine zK_callv (nA := 6) (As := [.int 4, .int (nI r), .int (nI p), .int d0, .int q0, .ref la]) (rest := []) zCW_blind (zc_m_O_send l D ka cb P C A n σ ((zr_count hRep).trans hn) hn1 hσ 4 (nI r) (nI p) d0 q0 (some la)) (zg_O_send zk_X_153) (by decide) ⟨rfl, rfl⟩ ⟨Nat.le_of_ble_eq_true rfl, Nat.le_of_ble_eq_true rfl⟩ hx hb hml hts hown (zC_recv hK hP (zCL_in (by omega)) (zCE_post ka cb C A) rfl) (zC_U hK hP hQ hz hS) hS (fun _ h => h) hl.1 rfl rfl (Nat.le_of_ble_eq_true rfl) ⟨Nat.le_of_ble_eq_true rfl, Nat.le_of_ble_eq_true rfl⟩ zd_X_bringAsk_37 (fun t locs hvm hB hS _ _ => ?_)
    obtain ⟨hP, -, -, -⟩ := hB
    generalize t.heap = H at hP hS ⊢
    exact zK_vret hx hb hr hlk hS (fun t ht hW => ⟨_, _, _, zC_U hK hP hQ hz hS t ht hW, (zRep_eq (zRep_send hRep hn1 hn hσ hinj hLR (pn := M 6 (4 * r + p)) (lo := M 7 (4 * r + p)) (hi := M 8 (4 * r + p)) (fun q => absurd q (by decide)) (fun _ => ⟨la, rfl, g2, g3, g4, g5⟩)) (by rw [if_neg hnd, zsendP_t]))⟩) zd_X_bringAsk_40
