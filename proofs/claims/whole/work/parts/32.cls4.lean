set_option maxRecDepth 100000 in
set_option maxHeartbeats 4000000 in
theorem zc_m_X_hall (l : Launch) (D : va_G) (ka : Nat → ClassId) (cb : Nat) (M : zM) (p0 h0 : Int32) : Met l zy_X_hall (.code zy_X_hall zc_X_hall 3 (some .boolean) :: zAll) ({ frames := 1, cells := 0, slots := 0, locals := 20 }) (va_Pc [.ref cb, .int p0, .int h0] (zCS D ka cb M)) (va_Qi (fun rr (_ : Unit) => rr = (zf_hall M p0 h0)) (fun _ t => zCS D ka cb (zg_hall M p0 h0) t) (zCA cb)) 0 0 (zCA cb) := by
  refine z_met (by decide) (Nat.le_of_ble_eq_true rfl) ?_
  intro pg e s m below meth c hx hb hml hr hts hown hlk hnm hB ls hl
  obtain ⟨P, C, A, ⟨hP, hQ, hz, hK⟩, hRep⟩ := hB
  have hS : va_S (zCA cb) s.heap s.heap [] := va_S.rf
  have hl : lv_has ls 3 [(0, .ref cb), (1, .int p0), (2, .int h0)] := hl
  refine lv_iload_n hx hb zd_X_hall_0 rfl (lv_at hl 1 rfl) ?_
  refine z_callst (nA := 1) (As := [.int p0]) (rest := []) (zc_m_X_isPoint l p0) (zg_X_isPoint zk_X_72) rfl (by decide) ⟨rfl, rfl⟩ ⟨Nat.le_of_ble_eq_true rfl, Nat.le_of_ble_eq_true rfl⟩ hx hb hml hts hown hl.1 rfl rfl (Nat.le_of_ble_eq_true rfl) ⟨Nat.le_of_ble_eq_true rfl, Nat.le_of_ble_eq_true rfl⟩ zd_X_hall_1 ?_
  refine lv_if_eq (tgt := 14) hx hb zd_X_hall_4 (by decide) (fun h4 => ?_) (fun h4 => ?_)
  · have c4 := zb_0 h4
    refine lv_iconst (v := 0) hx hb zd_X_hall_14 (by decide) ?_
    exact zK_zret hx hb hr hlk hS (fun t ht hW => ⟨_, _, _, zC_U hK hP hQ hz hS t ht hW, (zRep_eq hRep (by simp [zg_hall, c4]))⟩) rfl (by simp [zf_hall, zb, c4]) zd_X_hall_15
  · have c4 := zb_1 h4
    obtain ⟨p, h_p, rfl⟩ := zbl_of (n := 4) (by decide) c4
    have z_p : zix (nI p) = p := zix_n (by omega)
    refine lv_iload_n hx hb zd_X_hall_7 rfl (lv_at hl 2 rfl) ?_
    refine z_callst (nA := 1) (As := [.int h0]) (rest := []) (zc_m_X_isHall l h0) (zg_X_isHall zk_X_76) rfl (by decide) ⟨rfl, rfl⟩ ⟨Nat.le_of_ble_eq_true rfl, Nat.le_of_ble_eq_true rfl⟩ hx hb hml hts hown hl.1 rfl rfl (Nat.le_of_ble_eq_true rfl) ⟨Nat.le_of_ble_eq_true rfl, Nat.le_of_ble_eq_true rfl⟩ zd_X_hall_8 ?_
    refine lv_if_ne (tgt := 16) hx hb zd_X_hall_11 (by decide) (fun h11 => ?_) (fun h11 => ?_)
    · have c11 := zb_1 h11
      obtain ⟨h, h_h, rfl⟩ := zbl_of (n := 3) (by decide) c11
      have z_h : zix (nI h) = h := zix_n (by omega)
      refine lv_aload_n hx hb zd_X_hall_16 rfl (lv_at hl 0 rfl) ?_
      refine zr_get hx hb hts zin_X hown hK hP zCL_0 (zCE_x ka cb C A) rfl 5 (by decide) (zl_X_57 hts) rfl rfl zd_X_hall_17 ?_
      refine lv_iload_n hx hb zd_X_hall_20 rfl (lv_at hl 1 rfl) ?_
      refine lv_iload_n hx hb zd_X_hall_21 rfl (lv_at hl 2 rfl) ?_
      refine zr_iast hx hb hK hP (zC_D hQ _) hS (zCL_in (by omega)) 0 (zCE_hop ka cb C A) rfl (j := p) rfl (show p < 4 from by omega) (by decide) zd_X_hall_22 (fun H locs hP hS => ?_)
      have hP : zCP D ka cb P (zs3 C 19 0 p (nI h)) A H := zC_re (zCU_hop ka cb C A p (nI h)) hP
      refine lv_iconst (v := 1) hx hb zd_X_hall_23 (by decide) ?_
      exact zK_zret hx hb hr hlk hS (fun t ht hW => ⟨_, _, _, zC_U hK hP hQ hz hS t ht hW, (zRep_eq (zRep_hall hRep p (nI h)) (by simp [zg_hall, c4, z_p, c11, z_h]))⟩) rfl (by simp [zf_hall, zb, c4, z_p, c11, z_h]) zd_X_hall_24
    · have c11 := zb_0 h11
      refine lv_iconst (v := 0) hx hb zd_X_hall_14 (by decide) ?_
      exact zK_zret hx hb hr hlk hS (fun t ht hW => ⟨_, _, _, zC_U hK hP hQ hz hS t ht hW, (zRep_eq hRep (by simp [zg_hall, c4, z_p, c11]))⟩) rfl (by simp [zf_hall, zb, c4, z_p, c11]) zd_X_hall_15
set_option maxRecDepth 100000 in
set_option maxHeartbeats 4000000 in
theorem zc_m_X_measured (l : Launch) (D : va_G) (ka : Nat → ClassId) (cb : Nat) (M : zM) (h0 x0 : Int32) : Met l zy_X_measured (.code zy_X_measured zc_X_measured 3 (some .boolean) :: zAll) ({ frames := 1, cells := 0, slots := 0, locals := 20 }) (va_Pc [.ref cb, .int h0, .int x0] (zCS D ka cb M)) (va_Qi (fun rr (_ : Unit) => rr = (zf_measured M h0 x0)) (fun _ t => zCS D ka cb (zg_measured M h0 x0) t) (zCA cb)) 0 0 (zCA cb) := by
  refine z_met (by decide) (Nat.le_of_ble_eq_true rfl) ?_
  intro pg e s m below meth c hx hb hml hr hts hown hlk hnm hB ls hl
  obtain ⟨P, C, A, ⟨hP, hQ, hz, hK⟩, hRep⟩ := hB
  have hS : va_S (zCA cb) s.heap s.heap [] := va_S.rf
  have hl : lv_has ls 3 [(0, .ref cb), (1, .int h0), (2, .int x0)] := hl
  refine lv_iload_n hx hb zd_X_measured_0 rfl (lv_at hl 1 rfl) ?_
  refine z_callst (nA := 1) (As := [.int h0]) (rest := []) (zc_m_X_isHall l h0) (zg_X_isHall zk_X_76) rfl (by decide) ⟨rfl, rfl⟩ ⟨Nat.le_of_ble_eq_true rfl, Nat.le_of_ble_eq_true rfl⟩ hx hb hml hts hown hl.1 rfl rfl (Nat.le_of_ble_eq_true rfl) ⟨Nat.le_of_ble_eq_true rfl, Nat.le_of_ble_eq_true rfl⟩ zd_X_measured_1 ?_
  refine lv_if_ne (tgt := 9) hx hb zd_X_measured_4 (by decide) (fun h4 => ?_) (fun h4 => ?_)
  · have c4 := zb_1 h4
    obtain ⟨h, h_h, rfl⟩ := zbl_of (n := 3) (by decide) c4
    have z_h : zix (nI h) = h := zix_n (by omega)
    refine lv_aload_n hx hb zd_X_measured_9 rfl (lv_at hl 0 rfl) ?_
    refine zr_get hx hb hts zin_X hown hK hP zCL_0 (zCE_x ka cb C A) rfl 7 (by decide) (zl_X_65 hts) rfl rfl zd_X_measured_10 ?_
    refine lv_iload_n hx hb zd_X_measured_13 rfl (lv_at hl 1 rfl) ?_
    refine lv_iconst (v := 1) hx hb zd_X_measured_14 (by decide) ?_
    refine zr_zast hx hb hK hP (zC_D hQ _) hS (zCL_in (by omega)) 1 (zCE_hav ka cb C A) rfl (j := h) rfl (show h < 3 from by omega) (by decide) (by decide) zd_X_measured_15 (fun H locs hP hS => ?_)
    have hP : zCP D ka cb P (zs3 C 20 0 h 1) A H := zC_re (zCU_hav ka cb C A h 1) hP
    refine lv_aload_n hx hb zd_X_measured_16 rfl (lv_at hl 0 rfl) ?_
    refine zr_get hx hb hts zin_X hown hK hP zCL_0 (zCE_x ka cb (zs3 C 20 0 h 1) A) rfl 8 (by decide) (zl_X_69 hts) rfl rfl zd_X_measured_17 ?_
    refine lv_iload_n hx hb zd_X_measured_20 rfl (lv_at hl 1 rfl) ?_
    refine lv_iload_n hx hb zd_X_measured_21 rfl (lv_at hl 2 rfl) ?_
    refine zr_iast hx hb hK hP (zC_D hQ _) hS (zCL_in (by omega)) 0 (zCE_val ka cb (zs3 C 20 0 h 1) A) rfl (j := h) rfl (show h < 3 from by omega) (by decide) zd_X_measured_22 (fun H locs hP hS => ?_)
    have hP : zCP D ka cb P (zs3 (zs3 C 20 0 h 1) 21 0 h x0) A H := zC_re (zCU_val ka cb (zs3 C 20 0 h 1) A h x0) hP
    refine lv_iconst (v := 1) hx hb zd_X_measured_23 (by decide) ?_
    exact zK_zret hx hb hr hlk hS (fun t ht hW => ⟨_, _, _, zC_U hK hP hQ hz hS t ht hW, (zRep_eq (zRep_meas hRep h x0) (by simp [zg_measured, c4, z_h]))⟩) rfl (by simp [zf_measured, zb, c4, z_h]) zd_X_measured_24
  · have c4 := zb_0 h4
    refine lv_iconst (v := 0) hx hb zd_X_measured_7 (by decide) ?_
    exact zK_zret hx hb hr hlk hS (fun t ht hW => ⟨_, _, _, zC_U hK hP hQ hz hS t ht hW, (zRep_eq hRep (by simp [zg_measured, c4]))⟩) rfl (by simp [zf_measured, zb, c4]) zd_X_measured_8
set_option maxRecDepth 100000 in
set_option maxHeartbeats 4000000 in
theorem zc_m_X_crash (l : Launch) (D : va_G) (ka : Nat → ClassId) (cb : Nat) (M : zM) (r0 : Int32) : Met l zy_X_crash (.code zy_X_crash zc_X_crash 2 (some .boolean) :: zAll) ({ frames := 1, cells := 0, slots := 0, locals := 20 }) (va_Pc [.ref cb, .int r0] (zCS D ka cb M)) (va_Qi (fun rr (_ : Unit) => rr = (zf_crash M r0)) (fun _ t => zCS D ka cb (zg_crash M r0) t) (zCA cb)) 0 0 (zCA cb) := by
  refine z_met (by decide) (Nat.le_of_ble_eq_true rfl) ?_
  intro pg e s m below meth c hx hb hml hr hts hown hlk hnm hB ls hl
  obtain ⟨P, C, A, ⟨hP, hQ, hz, hK⟩, hRep⟩ := hB
  have hS : va_S (zCA cb) s.heap s.heap [] := va_S.rf
  have hl : lv_has ls 2 [(0, .ref cb), (1, .int r0)] := hl
  refine lv_iload_n hx hb zd_X_crash_0 rfl (lv_at hl 1 rfl) ?_
  refine z_callst (nA := 1) (As := [.int r0]) (rest := []) (zc_m_X_isRecorder l r0) (zg_X_isRecorder zk_X_157) rfl (by decide) ⟨rfl, rfl⟩ ⟨Nat.le_of_ble_eq_true rfl, Nat.le_of_ble_eq_true rfl⟩ hx hb hml hts hown hl.1 rfl rfl (Nat.le_of_ble_eq_true rfl) ⟨Nat.le_of_ble_eq_true rfl, Nat.le_of_ble_eq_true rfl⟩ zd_X_crash_1 ?_
  refine lv_if_eq (tgt := 19) hx hb zd_X_crash_4 (by decide) (fun h4 => ?_) (fun h4 => ?_)
  · have c4 := zb_0 h4
    refine lv_iconst (v := 0) hx hb zd_X_crash_19 (by decide) ?_
    exact zK_zret hx hb hr hlk hS (fun t ht hW => ⟨_, _, _, zC_U hK hP hQ hz hS t ht hW, (zRep_eq hRep (by simp [zg_crash, zo_crash, c4]))⟩) rfl (by simp [zf_crash, zo_crash, zb, c4]) zd_X_crash_20
  · have c4 := zb_1 h4
    obtain ⟨r, h_r, rfl⟩ := zbl_of (n := 9) (by decide) c4
    have z_r : zix (nI r) = r := zix_n (by omega)
    refine lv_aload_n hx hb zd_X_crash_7 rfl (lv_at hl 0 rfl) ?_
    refine zr_get hx hb hts zin_X hown hK hP zCL_0 (zCE_x ka cb C A) rfl 1 (by decide) (zl_X_29 hts) rfl rfl zd_X_crash_8 ?_
    refine lv_iload_n hx hb zd_X_crash_11 rfl (lv_at hl 1 rfl) ?_
    refine zr_aald (v := .ref (cb + (3 + 2 * r))) hx hb hK hP (zCL_in (by omega)) 4 (zCE_recs ka cb C A) rfl (j := r) rfl (show r < 9 from by omega) (by decide) rfl zd_X_crash_12 ?_
    refine zr_get hx hb hts zin_R hown hK hP (zCL_in (by omega)) (zCE_rec ka cb C A (r := r) (by omega)) rfl 1 (by decide) (zl_X_171 hts) rfl rfl zd_X_crash_13 ?_
    refine lv_if_ne (tgt := 21) hx hb zd_X_crash_16 (by decide) (fun h16 => ?_) (fun h16 => ?_)
    · rw [zr_up hRep h_r] at h16
      have h16 := zb_1 h16
      refine lv_aload_n hx hb zd_X_crash_21 rfl (lv_at hl 0 rfl) ?_
      refine zr_get hx hb hts zin_X hown hK hP zCL_0 (zCE_x ka cb C A) rfl 1 (by decide) (zl_X_29 hts) rfl rfl zd_X_crash_22 ?_
      refine lv_iload_n hx hb zd_X_crash_25 rfl (lv_at hl 1 rfl) ?_
      refine zr_aald (v := .ref (cb + (3 + 2 * r))) hx hb hK hP (zCL_in (by omega)) 4 (zCE_recs ka cb C A) rfl (j := r) rfl (show r < 9 from by omega) (by decide) rfl zd_X_crash_26 ?_
      refine lv_iconst (v := 0) hx hb zd_X_crash_27 (by decide) ?_
      refine zr_put (ty := .boolean) hx hb hts zin_R zt_R zto_R znm_R hown hK hP (zC_D hQ _) hS (zCL_in (by omega)) (zCE_rec ka cb C A (r := r) (by omega)) rfl 1 (by decide) (zl_X_171 hts) rfl rfl (by decide +kernel) rfl rfl (Nat.le_of_ble_eq_true rfl) zd_X_crash_28 (fun H locs hP hS => ?_)
      have hP : zCP D ka cb P (zs3 C 1 r 0 0) A H := zC_re (zCU_rec1 ka cb C A (r := r) (by omega) 0) hP
      refine lv_iconst (v := 1) hx hb zd_X_crash_31 (by decide) ?_
      exact zK_zret hx hb hr hlk hS (fun t ht hW => ⟨_, _, _, zC_U hK hP hQ hz hS t ht hW, (zRep_eq (zRep_up hRep r 0 1 (by decide)) (by simp [zg_crash, zo_crash, c4, z_r, h16]))⟩) rfl (by simp [zf_crash, zo_crash, zb, c4, z_r, h16]) zd_X_crash_32
    · rw [zr_up hRep h_r] at h16
      have h16 := zb_0 h16
      refine lv_iconst (v := 0) hx hb zd_X_crash_19 (by decide) ?_
      exact zK_zret hx hb hr hlk hS (fun t ht hW => ⟨_, _, _, zC_U hK hP hQ hz hS t ht hW, (zRep_eq hRep (by simp [zg_crash, zo_crash, c4, z_r, h16]))⟩) rfl (by simp [zf_crash, zo_crash, zb, c4, z_r, h16]) zd_X_crash_20
set_option maxRecDepth 100000 in
set_option maxHeartbeats 4000000 in
theorem zc_m_X_restart (l : Launch) (D : va_G) (ka : Nat → ClassId) (cb : Nat) (M : zM) (r0 : Int32) : Met l zy_X_restart (.code zy_X_restart zc_X_restart 2 (some .boolean) :: zAll) ({ frames := 1, cells := 0, slots := 0, locals := 20 }) (va_Pc [.ref cb, .int r0] (zCS D ka cb M)) (va_Qi (fun rr (_ : Unit) => rr = (zf_restart M r0)) (fun _ t => zCS D ka cb (zg_restart M r0) t) (zCA cb)) 0 0 (zCA cb) := by
  refine z_met (by decide) (Nat.le_of_ble_eq_true rfl) ?_
  intro pg e s m below meth c hx hb hml hr hts hown hlk hnm hB ls hl
  obtain ⟨P, C, A, ⟨hP, hQ, hz, hK⟩, hRep⟩ := hB
  have hS : va_S (zCA cb) s.heap s.heap [] := va_S.rf
  have hl : lv_has ls 2 [(0, .ref cb), (1, .int r0)] := hl
  refine lv_iload_n hx hb zd_X_restart_0 rfl (lv_at hl 1 rfl) ?_
  refine z_callst (nA := 1) (As := [.int r0]) (rest := []) (zc_m_X_isRecorder l r0) (zg_X_isRecorder zk_X_157) rfl (by decide) ⟨rfl, rfl⟩ ⟨Nat.le_of_ble_eq_true rfl, Nat.le_of_ble_eq_true rfl⟩ hx hb hml hts hown hl.1 rfl rfl (Nat.le_of_ble_eq_true rfl) ⟨Nat.le_of_ble_eq_true rfl, Nat.le_of_ble_eq_true rfl⟩ zd_X_restart_1 ?_
  refine lv_if_eq (tgt := 19) hx hb zd_X_restart_4 (by decide) (fun h4 => ?_) (fun h4 => ?_)
  · have c4 := zb_0 h4
    refine lv_iconst (v := 0) hx hb zd_X_restart_19 (by decide) ?_
    exact zK_zret hx hb hr hlk hS (fun t ht hW => ⟨_, _, _, zC_U hK hP hQ hz hS t ht hW, (zRep_eq hRep (by simp [zg_restart, zo_restart, c4]))⟩) rfl (by simp [zf_restart, zo_restart, zb, c4]) zd_X_restart_20
  · have c4 := zb_1 h4
    obtain ⟨r, h_r, rfl⟩ := zbl_of (n := 9) (by decide) c4
    have z_r : zix (nI r) = r := zix_n (by omega)
    refine lv_aload_n hx hb zd_X_restart_7 rfl (lv_at hl 0 rfl) ?_
    refine zr_get hx hb hts zin_X hown hK hP zCL_0 (zCE_x ka cb C A) rfl 1 (by decide) (zl_X_29 hts) rfl rfl zd_X_restart_8 ?_
    refine lv_iload_n hx hb zd_X_restart_11 rfl (lv_at hl 1 rfl) ?_
    refine zr_aald (v := .ref (cb + (3 + 2 * r))) hx hb hK hP (zCL_in (by omega)) 4 (zCE_recs ka cb C A) rfl (j := r) rfl (show r < 9 from by omega) (by decide) rfl zd_X_restart_12 ?_
    refine zr_get hx hb hts zin_R hown hK hP (zCL_in (by omega)) (zCE_rec ka cb C A (r := r) (by omega)) rfl 1 (by decide) (zl_X_171 hts) rfl rfl zd_X_restart_13 ?_
    refine lv_if_eq (tgt := 21) hx hb zd_X_restart_16 (by decide) (fun h16 => ?_) (fun h16 => ?_)
    · rw [zr_up hRep h_r] at h16
      have h16 := zb_0 h16
      refine lv_aload_n hx hb zd_X_restart_21 rfl (lv_at hl 0 rfl) ?_
      refine zr_get hx hb hts zin_X hown hK hP zCL_0 (zCE_x ka cb C A) rfl 1 (by decide) (zl_X_29 hts) rfl rfl zd_X_restart_22 ?_
      refine lv_iload_n hx hb zd_X_restart_25 rfl (lv_at hl 1 rfl) ?_
      refine zr_aald (v := .ref (cb + (3 + 2 * r))) hx hb hK hP (zCL_in (by omega)) 4 (zCE_recs ka cb C A) rfl (j := r) rfl (show r < 9 from by omega) (by decide) rfl zd_X_restart_26 ?_
      refine lv_iconst (v := 1) hx hb zd_X_restart_27 (by decide) ?_
      refine zr_put (ty := .boolean) hx hb hts zin_R zt_R zto_R znm_R hown hK hP (zC_D hQ _) hS (zCL_in (by omega)) (zCE_rec ka cb C A (r := r) (by omega)) rfl 1 (by decide) (zl_X_171 hts) rfl rfl (by decide +kernel) rfl rfl (Nat.le_of_ble_eq_true rfl) zd_X_restart_28 (fun H locs hP hS => ?_)
      have hP : zCP D ka cb P (zs3 C 1 r 0 1) A H := zC_re (zCU_rec1 ka cb C A (r := r) (by omega) 1) hP
      refine lv_iconst (v := 1) hx hb zd_X_restart_31 (by decide) ?_
      exact zK_zret hx hb hr hlk hS (fun t ht hW => ⟨_, _, _, zC_U hK hP hQ hz hS t ht hW, (zRep_eq (zRep_up hRep r 1 0 (by decide)) (by simp [zg_restart, zo_restart, c4, z_r, h16]))⟩) rfl (by simp [zf_restart, zo_restart, zb, c4, z_r, h16]) zd_X_restart_32
    · rw [zr_up hRep h_r] at h16
      have h16 := zb_1 h16
      refine lv_iconst (v := 0) hx hb zd_X_restart_19 (by decide) ?_
      exact zK_zret hx hb hr hlk hS (fun t ht hW => ⟨_, _, _, zC_U hK hP hQ hz hS t ht hW, (zRep_eq hRep (by simp [zg_restart, zo_restart, c4, z_r, h16]))⟩) rfl (by simp [zf_restart, zo_restart, zb, c4, z_r, h16]) zd_X_restart_20
set_option maxRecDepth 100000 in
set_option maxHeartbeats 4000000 in
theorem zc_m_X_lie (l : Launch) (D : va_G) (ka : Nat → ClassId) (cb : Nat) (M : zM) (hO : zOk M) (r0 : Int32) : Met l zy_X_lie (.code zy_X_lie zc_X_lie 2 (some .boolean) :: zAll) ({ frames := 1, cells := 0, slots := 0, locals := 22 }) (va_Pc [.ref cb, .int r0] (zCS D ka cb M)) (va_Qi (fun rr (_ : Unit) => rr = (zf_lie M r0)) (fun _ t => zCS D ka cb (zg_lie M r0) t) (zCA cb)) 0 0 (zCA cb) := by
  refine z_met (by decide) (Nat.le_of_ble_eq_true rfl) ?_
  intro pg e s m below meth c hx hb hml hr hts hown hlk hnm hB ls hl
  obtain ⟨P, C, A, ⟨hP, hQ, hz, hK⟩, hRep⟩ := hB
  have hS : va_S (zCA cb) s.heap s.heap [] := va_S.rf
  have hl : lv_has ls 2 [(0, .ref cb), (1, .int r0)] := hl
  refine lv_iload_n hx hb zd_X_lie_0 rfl (lv_at hl 1 rfl) ?_
  refine z_callst (nA := 1) (As := [.int r0]) (rest := []) (zc_m_X_isRecorder l r0) (zg_X_isRecorder zk_X_157) rfl (by decide) ⟨rfl, rfl⟩ ⟨Nat.le_of_ble_eq_true rfl, Nat.le_of_ble_eq_true rfl⟩ hx hb hml hts hown hl.1 rfl rfl (Nat.le_of_ble_eq_true rfl) ⟨Nat.le_of_ble_eq_true rfl, Nat.le_of_ble_eq_true rfl⟩ zd_X_lie_1 ?_
  refine lv_if_eq (tgt := 27) hx hb zd_X_lie_4 (by decide) (fun h4 => ?_) (fun h4 => ?_)
  · have c4 := zb_0 h4
    refine lv_iconst (v := 0) hx hb zd_X_lie_27 (by decide) ?_
    exact zK_zret hx hb hr hlk hS (fun t ht hW => ⟨_, _, _, zC_U hK hP hQ hz hS t ht hW, (zRep_eq hRep (by simp [zg_lie, zo_lie, c4]))⟩) rfl (by simp [zf_lie, zo_lie, zb, c4]) zd_X_lie_28
  · have c4 := zb_1 h4
    obtain ⟨r, h_r, rfl⟩ := zbl_of (n := 9) (by decide) c4
    have z_r : zix (nI r) = r := zix_n (by omega)
    refine lv_aload_n hx hb zd_X_lie_7 rfl (lv_at hl 0 rfl) ?_
    refine zr_get hx hb hts zin_X hown hK hP zCL_0 (zCE_x ka cb C A) rfl 1 (by decide) (zl_X_29 hts) rfl rfl zd_X_lie_8 ?_
    refine lv_iload_n hx hb zd_X_lie_11 rfl (lv_at hl 1 rfl) ?_
    refine zr_aald (v := .ref (cb + (3 + 2 * r))) hx hb hK hP (zCL_in (by omega)) 4 (zCE_recs ka cb C A) rfl (j := r) rfl (show r < 9 from by omega) (by decide) rfl zd_X_lie_12 ?_
    refine zr_get hx hb hts zin_R hown hK hP (zCL_in (by omega)) (zCE_rec ka cb C A (r := r) (by omega)) rfl 2 (by decide) (zl_X_160 hts) rfl rfl zd_X_lie_13 ?_
    refine lv_if_ne (tgt := 27) hx hb zd_X_lie_16 (by decide) (fun h16 => ?_) (fun h16 => ?_)
    · rw [zr_liar hRep h_r] at h16
      refine lv_iconst (v := 0) hx hb zd_X_lie_27 (by decide) ?_
      exact zK_zret hx hb hr hlk hS (fun t ht hW => ⟨_, _, _, zC_U hK hP hQ hz hS t ht hW, (zRep_eq hRep (by simp [zg_lie, zo_lie, c4, z_r, h16]))⟩) rfl (by simp [zf_lie, zo_lie, zb, c4, z_r, h16]) zd_X_lie_28
    · rw [zr_liar hRep h_r] at h16
      refine lv_aload_n hx hb zd_X_lie_19 rfl (lv_at hl 0 rfl) ?_
      refine zK_calls (nA := 0) (As := []) (rest := []) zCS_blind (zc_m_X_countLiars l D ka cb M) (zg_X_countLiars zk_X_163) (by decide) ⟨rfl, rfl⟩ ⟨Nat.le_of_ble_eq_true rfl, Nat.le_of_ble_eq_true rfl⟩ hx hb hml hts hown (zC_recv hK hP zCL_0 (zCE_x ka cb C A) rfl) (fun U hU hW => ⟨_, _, _, zC_U hK hP hQ hz hS U hU hW, hRep⟩) hl.1 rfl rfl (Nat.le_of_ble_eq_true rfl) ⟨Nat.le_of_ble_eq_true rfl, Nat.le_of_ble_eq_true rfl⟩ zd_X_lie_20 ?_
      refine lv_iconst (v := 2) hx hb zd_X_lie_23 (by decide) ?_
      refine lv_icmp_lt (tgt := 29) hx hb zd_X_lie_24 (by decide) (fun h24 => ?_) (fun h24 => ?_)
      · have h24 : ¬ zliars M = 2 := fun q => by rw [q] at h24; exact absurd h24 (by decide)
        refine lv_aload_n hx hb zd_X_lie_29 rfl (lv_at hl 0 rfl) ?_
        refine zr_get hx hb hts zin_X hown hK hP zCL_0 (zCE_x ka cb C A) rfl 1 (by decide) (zl_X_29 hts) rfl rfl zd_X_lie_30 ?_
        refine lv_iload_n hx hb zd_X_lie_33 rfl (lv_at hl 1 rfl) ?_
        refine zr_aald (v := .ref (cb + (3 + 2 * r))) hx hb hK hP (zCL_in (by omega)) 4 (zCE_recs ka cb C A) rfl (j := r) rfl (show r < 9 from by omega) (by decide) rfl zd_X_lie_34 ?_
        refine lv_iconst (v := 1) hx hb zd_X_lie_35 (by decide) ?_
        refine zr_put (ty := .boolean) hx hb hts zin_R zt_R zto_R znm_R hown hK hP (zC_D hQ _) hS (zCL_in (by omega)) (zCE_rec ka cb C A (r := r) (by omega)) rfl 2 (by decide) (zl_X_160 hts) rfl rfl (by decide +kernel) rfl rfl (Nat.le_of_ble_eq_true rfl) zd_X_lie_36 (fun H locs hP hS => ?_)
        have hP : zCP D ka cb P (zs3 C 2 r 0 1) A H := zC_re (zCU_rec2 ka cb C A (r := r) (by omega) 1) hP
        refine lv_iconst (v := 1) hx hb zd_X_lie_39 (by decide) ?_
        exact zK_zret hx hb hr hlk hS (fun t ht hW => ⟨_, _, _, zC_U hK hP hQ hz hS t ht hW, (zRep_eq (zRep_lie hRep r 1) (by simp [zg_lie, zo_lie, c4, z_r, h16, h24]))⟩) rfl (by simp [zf_lie, zo_lie, zb, c4, z_r, h16, h24]) zd_X_lie_40
      · have h24 : zliars M = 2 := Nat.le_antisymm hO.2.2.2.2 (Nat.le_of_not_lt (fun q => h24 (nI_lt (b := 2) q (by decide))))
        refine lv_iconst (v := 0) hx hb zd_X_lie_27 (by decide) ?_
        exact zK_zret hx hb hr hlk hS (fun t ht hW => ⟨_, _, _, zC_U hK hP hQ hz hS t ht hW, (zRep_eq hRep (by simp [zg_lie, zo_lie, c4, z_r, h16, h24]))⟩) rfl (by simp [zf_lie, zo_lie, zb, c4, z_r, h16, h24]) zd_X_lie_28
set_option maxRecDepth 100000 in
set_option maxHeartbeats 4000000 in
theorem zc_m_X_forget (l : Launch) (D : va_G) (ka : Nat → ClassId) (cb : Nat) (M : zM) (p0 : Int32) : Met l zy_X_forget (.code zy_X_forget zc_X_forget 2 (some .boolean) :: zAll) ({ frames := 1, cells := 0, slots := 0, locals := 21 }) (va_Pc [.ref cb, .int p0] (zCS D ka cb M)) (va_Qi (fun rr (_ : Unit) => rr = (zf_forget M p0)) (fun _ t => zCS D ka cb (zg_forget M p0) t) (zCA cb)) 0 0 (zCA cb) := by
  refine z_met (by decide) (Nat.le_of_ble_eq_true rfl) ?_
  intro pg e s m below meth c hx hb hml hr hts hown hlk hnm hB ls hl
  obtain ⟨P, C, A, ⟨hP, hQ, hz, hK⟩, hRep⟩ := hB
  have hS : va_S (zCA cb) s.heap s.heap [] := va_S.rf
  have hl : lv_has ls 2 [(0, .ref cb), (1, .int p0)] := hl
  refine lv_iload_n hx hb zd_X_forget_0 rfl (lv_at hl 1 rfl) ?_
  refine z_callst (nA := 1) (As := [.int p0]) (rest := []) (zc_m_X_isPoint l p0) (zg_X_isPoint zk_X_72) rfl (by decide) ⟨rfl, rfl⟩ ⟨Nat.le_of_ble_eq_true rfl, Nat.le_of_ble_eq_true rfl⟩ hx hb hml hts hown hl.1 rfl rfl (Nat.le_of_ble_eq_true rfl) ⟨Nat.le_of_ble_eq_true rfl, Nat.le_of_ble_eq_true rfl⟩ zd_X_forget_1 ?_
  refine lv_if_ne (tgt := 9) hx hb zd_X_forget_4 (by decide) (fun h4 => ?_) (fun h4 => ?_)
  · have c4 := zb_1 h4
    obtain ⟨p, h_p, rfl⟩ := zbl_of (n := 4) (by decide) c4
    have z_p : zix (nI p) = p := zix_n (by omega)
    refine lv_aload_n hx hb zd_X_forget_9 rfl (lv_at hl 0 rfl) ?_
    refine zr_get hx hb hts zin_X hown hK hP zCL_0 (zCE_x ka cb C A) rfl 2 (by decide) (zl_X_38 hts) rfl rfl zd_X_forget_10 ?_
    refine lv_iload_n hx hb zd_X_forget_13 rfl (lv_at hl 1 rfl) ?_
    refine zr_aald (v := .ref (cb + (22 + 2 * p))) hx hb hK hP (zCL_in (by omega)) 5 (zCE_wris ka cb C A) rfl (j := p) rfl (show p < 4 from by omega) (by decide) rfl zd_X_forget_14 ?_
    refine zK_callv (nA := 0) (As := []) (rest := []) zCW_blind (zc_m_W_clearReceipts l D ka cb P C A p (by omega)) (zg_W_clearReceipts zk_X_174) (by decide) ⟨rfl, rfl⟩ ⟨Nat.le_of_ble_eq_true rfl, Nat.le_of_ble_eq_true rfl⟩ hx hb hml hts hown (zC_recv hK hP (zCL_in (by omega)) (zCE_wri ka cb C A (p := p) (by omega)) rfl) (zC_U hK hP hQ hz hS) hS (fun _ h => h) hl.1 rfl rfl (Nat.le_of_ble_eq_true rfl) ⟨Nat.le_of_ble_eq_true rfl, Nat.le_of_ble_eq_true rfl⟩ zd_X_forget_15 (fun t locs hvm hB hS _ _ => ?_)
    obtain ⟨hP, -, -, -⟩ := hB
    generalize t.heap = H at hP hS ⊢
    refine lv_iconst (v := 1) hx hb zd_X_forget_18 (by decide) ?_
    exact zK_zret hx hb hr hlk hS (fun t ht hW => ⟨_, _, _, zC_U hK hP hQ hz hS t ht hW, (zRep_eq (zRep_forget hRep h_p) (by simp [zg_forget, c4, z_p]))⟩) rfl (by simp [zf_forget, zb, c4, z_p]) zd_X_forget_19
  · have c4 := zb_0 h4
    refine lv_iconst (v := 0) hx hb zd_X_forget_7 (by decide) ?_
    exact zK_zret hx hb hr hlk hS (fun t ht hW => ⟨_, _, _, zC_U hK hP hQ hz hS t ht hW, (zRep_eq hRep (by simp [zg_forget, c4]))⟩) rfl (by simp [zf_forget, zb, c4]) zd_X_forget_8
set_option maxRecDepth 100000 in
set_option maxHeartbeats 4000000 in
theorem zc_m_X_isAlarmed (l : Launch) (D : va_G) (ka : Nat → ClassId) (cb : Nat) (M : zM) (h : Nat) (hh : h < 3) : Met l zy_X_isAlarmed (.code zy_X_isAlarmed zc_X_isAlarmed 4 (some .boolean) :: zAll) ({ frames := 1, cells := 0, slots := 0, locals := 21 }) (va_Pc [.ref cb, .int (nI h)] (zCS D ka cb M)) (vp_Si (fun rr => rr = (zb (zalarmAt M h 4 = true)))) 0 0 (fun _ => False) := by
  refine z_met (by decide) (Nat.le_of_ble_eq_true rfl) ?_
  intro pg e s m below meth c hx hb hml hr hts hown hlk hnm hB ls hl
  obtain ⟨P, C, A, ⟨hP, hQ, hz, hK⟩, hRep⟩ := hB
  have hS : va_S (zCA cb) s.heap s.heap [] := va_S.rf
  have hl : lv_has ls 4 [(0, .ref cb), (1, .int (nI h))] := hl
  refine lv_aload_n hx hb zd_X_isAlarmed_0 rfl (lv_at hl 0 rfl) ?_
  refine zr_get hx hb hts zin_X hown hK hP zCL_0 (zCE_x ka cb C A) rfl 7 (by decide) (zl_X_65 hts) rfl rfl zd_X_isAlarmed_1 ?_
  refine lv_iload_n hx hb zd_X_isAlarmed_4 rfl (lv_at hl 1 rfl) ?_
  refine zr_zald hx hb hK hP (zCL_in (by omega)) 1 (zCE_hav ka cb C A) rfl (j := h) rfl (show h < 3 from by omega) (by decide) zd_X_isAlarmed_5 ?_
  refine lv_if_ne (tgt := 11) hx hb zd_X_isAlarmed_6 (by decide) (fun h6 => ?_) (fun h6 => ?_)
  · rw [zr_hav hRep hh] at h6
    refine lv_iconst (v := 0) hx hb zd_X_isAlarmed_11 (by decide) ?_
    refine lv_istore_n hx hb zd_X_isAlarmed_12 rfl hl (by decide) rfl (fun ls hl => ?_)
    have hl : lv_has ls 4 [(2, .int 0), (0, .ref cb), (1, .int (nI h))] := hl
    have L13 : ∀ (j k : Nat), k + j = 4 → zalarmAt M h k = false → ∀ (ls : Array Slot), lv_has ls 4 [(0, .ref cb), (1, .int (nI h)), (2, .int (nI k))] → W pg l e ({ frames := 1, cells := 0, slots := 0, locals := 21 }) s m (List.toArray [.ref cb, .int (nI h)]) below meth c s.heap [] 0 0 (MQ below (vp_Si (fun rr => rr = (zb (zalarmAt M h 4 = true)))) (List.toArray [.ref cb, .int (nI h)]) s 0 0 (fun _ => False)) (F0 m 13 ls []) := by
      intro j
      induction j with
      | zero =>
        intro k hk hf ls hl
        have hk : k = 4 := by omega
        subst hk
        refine lv_iload_n hx hb zd_X_isAlarmed_13 rfl (lv_at hl 2 rfl) ?_
        refine lv_iconst (v := 4) hx hb zd_X_isAlarmed_14 (by decide) ?_
        refine lv_icmp_ge (tgt := 60) hx hb zd_X_isAlarmed_15 (by decide) (fun h15 => ?_) (fun h15 => absurd (by decide) h15)
        refine lv_iconst (v := 0) hx hb zd_X_isAlarmed_60 (by decide) ?_
        exact zS_zret hx hb hr hlk rfl rfl rfl (by simp [zb, hf]) zd_X_isAlarmed_61
      | succ j ih =>
        intro k hk hf ls hl
        refine lv_iload_n hx hb zd_X_isAlarmed_13 rfl (lv_at hl 2 rfl) ?_
        refine lv_iconst (v := 4) hx hb zd_X_isAlarmed_14 (by decide) ?_
        refine lv_icmp_ge (tgt := 60) hx hb zd_X_isAlarmed_15 (by decide) (fun h15 => absurd h15 (nI_ge (b := 4) (by omega) (by decide))) (fun h15 => ?_)
        refine lv_aload_n hx hb zd_X_isAlarmed_18 rfl (lv_at hl 0 rfl) ?_
        refine zr_get hx hb hts zin_X hown hK hP zCL_0 (zCE_x ka cb C A) rfl 6 (by decide) (zl_X_61 hts) rfl rfl zd_X_isAlarmed_19 ?_
        refine lv_iload_n hx hb zd_X_isAlarmed_22 rfl (lv_at hl 2 rfl) ?_
        refine zr_aald (v := va_rf (A 7 0 k)) hx hb hK hP (zCL_in (by omega)) 2 (zCE_lan ka cb C A) rfl (j := k) rfl (show k < 4 from by omega) (by decide) rfl zd_X_isAlarmed_23 ?_
        rcases zr_seen hRep (p := k) (by omega) with ⟨q1, q2⟩ | ⟨an, nn, q1, q2, q3, q4, q5, q6⟩
        · refine z_topr (v := .null) (congrArg va_rf q1) ?_
          refine lv_astore_nN hx hb zd_X_isAlarmed_24 rfl hl (by decide) rfl (fun ls hl => ?_)
          have hl : lv_has ls 4 [(3, .null), (0, .ref cb), (1, .int (nI h)), (2, .int (nI k))] := hl
          refine lv_aload_n hx hb zd_X_isAlarmed_25 rfl (lv_at hl 1 rfl) ?_
          refine zr_get hx hb hts zin_X hown hK hP zCL_0 (zCE_x ka cb C A) rfl 5 (by decide) (zl_X_57 hts) rfl rfl zd_X_isAlarmed_26 ?_
          refine lv_iload_n hx hb zd_X_isAlarmed_29 rfl (lv_at hl 3 rfl) ?_
          refine zr_iald hx hb hK hP (zCL_in (by omega)) 0 (zCE_hop ka cb C A) rfl (j := k) rfl (show k < 4 from by omega) (by decide) zd_X_isAlarmed_30 ?_
          refine lv_iload_n hx hb zd_X_isAlarmed_31 rfl (lv_at hl 2 rfl) ?_
          refine lv_icmp_ne (tgt := 54) hx hb zd_X_isAlarmed_32 (by decide) (fun h32 => ?_) (fun h32 => ?_)
          · rw [zr_hop hRep (show k < 4 by omega)] at h32
            refine lv_iinc (v := nI (k + 1)) (k := 3) hx hb zd_X_isAlarmed_54 hl rfl (nI_1 _) (by decide) rfl (fun ls hl => ?_)
            have hl : lv_has ls 4 [(2, .int (nI (k + 1))), (3, .null), (0, .ref cb), (1, .int (nI h))] := hl
            refine lv_goto (tgt := 13) hx hb zd_X_isAlarmed_57 (by decide) ?_
            exact ih (k + 1) (by omega) (by simp [zalarmAt, hf, h6, q2, h32]) ls (lv_sub hl [2, 3, 0] rfl)
          · rw [zr_hop hRep (show k < 4 by omega)] at h32
            refine lv_aload_nN hx hb zd_X_isAlarmed_35 rfl (lv_at hl 0 rfl) ?_
            refine lv_ifnullN (tgt := 54) hx hb zd_X_isAlarmed_36 (by decide) ?_
            refine lv_iinc (v := nI (k + 1)) (k := 3) hx hb zd_X_isAlarmed_54 hl rfl (nI_1 _) (by decide) rfl (fun ls hl => ?_)
            have hl : lv_has ls 4 [(2, .int (nI (k + 1))), (3, .null), (0, .ref cb), (1, .int (nI h))] := hl
            refine lv_goto (tgt := 13) hx hb zd_X_isAlarmed_57 (by decide) ?_
            exact ih (k + 1) (by omega) (by simp [zalarmAt, hf, h6, q2, h32]) ls (lv_sub hl [2, 3, 0] rfl)
        · refine z_topr (v := .ref an) (congrArg va_rf q1) ?_
          refine lv_astore_n hx hb zd_X_isAlarmed_24 rfl hl (by decide) rfl (fun ls hl => ?_)
          have hl : lv_has ls 4 [(3, .ref an), (0, .ref cb), (1, .int (nI h)), (2, .int (nI k))] := hl
          refine lv_aload_n hx hb zd_X_isAlarmed_25 rfl (lv_at hl 1 rfl) ?_
          refine zr_get hx hb hts zin_X hown hK hP zCL_0 (zCE_x ka cb C A) rfl 5 (by decide) (zl_X_57 hts) rfl rfl zd_X_isAlarmed_26 ?_
          refine lv_iload_n hx hb zd_X_isAlarmed_29 rfl (lv_at hl 3 rfl) ?_
          refine zr_iald hx hb hK hP (zCL_in (by omega)) 0 (zCE_hop ka cb C A) rfl (j := k) rfl (show k < 4 from by omega) (by decide) zd_X_isAlarmed_30 ?_
          refine lv_iload_n hx hb zd_X_isAlarmed_31 rfl (lv_at hl 2 rfl) ?_
          refine lv_icmp_ne (tgt := 54) hx hb zd_X_isAlarmed_32 (by decide) (fun h32 => ?_) (fun h32 => ?_)
          · rw [zr_hop hRep (show k < 4 by omega)] at h32
            refine lv_iinc (v := nI (k + 1)) (k := 3) hx hb zd_X_isAlarmed_54 hl rfl (nI_1 _) (by decide) rfl (fun ls hl => ?_)
            have hl : lv_has ls 4 [(2, .int (nI (k + 1))), (3, .ref an), (0, .ref cb), (1, .int (nI h))] := hl
            refine lv_goto (tgt := 13) hx hb zd_X_isAlarmed_57 (by decide) ?_
            exact ih (k + 1) (by omega) (by simp [zalarmAt, hf, h6, q2, h32]) ls (lv_sub hl [2, 3, 0] rfl)
          · rw [zr_hop hRep (show k < 4 by omega)] at h32
            refine lv_aload_n hx hb zd_X_isAlarmed_35 rfl (lv_at hl 0 rfl) ?_
            refine lv_ifnull hx hb zd_X_isAlarmed_36 ?_
            refine lv_aload_n hx hb zd_X_isAlarmed_39 rfl (lv_at hl 0 rfl) ?_
            refine lv_aload_n hx hb zd_X_isAlarmed_40 rfl (lv_at hl 1 rfl) ?_
            refine zr_get hx hb hts zin_X hown hK hP zCL_0 (zCE_x ka cb C A) rfl 8 (by decide) (zl_X_69 hts) rfl rfl zd_X_isAlarmed_41 ?_
            refine lv_iload_n hx hb zd_X_isAlarmed_44 rfl (lv_at hl 2 rfl) ?_
            refine zr_iald hx hb hK hP (zCL_in (by omega)) 0 (zCE_val ka cb C A) rfl (j := h) rfl (show h < 3 from by omega) (by decide) zd_X_isAlarmed_45 ?_
            refine zK_calls (nA := 1) (As := [.int (C 21 0 h)]) (rest := []) zCW_blind (zc_m_P_spans l D ka cb P C A an q3 (C 21 0 h)) (zg_P_spans zk_X_207) (by decide) ⟨rfl, rfl⟩ ⟨Nat.le_of_ble_eq_true rfl, Nat.le_of_ble_eq_true rfl⟩ hx hb hml hts hown (zC_recv hK hP (zCL_p q3) (zCE_pair ka cb C A (zP_adr hQ q3)) rfl) (zC_U hK hP hQ hz hS) hl.1 rfl rfl (Nat.le_of_ble_eq_true rfl) ⟨Nat.le_of_ble_eq_true rfl, Nat.le_of_ble_eq_true rfl⟩ zd_X_isAlarmed_46 ?_
            refine lv_if_ne (tgt := 54) hx hb zd_X_isAlarmed_49 (by decide) (fun h49 => ?_) (fun h49 => ?_)
            · have c49 := zb_1 h49
              rw [zr_val hRep hh, q5, q6] at c49
              have c49 : ¬ (M 3 h < M 29 k ∨ M 30 k < M 3 h) := fun q => q.elim (fun q => Int32.not_lt.mpr c49.1 q) (fun q => Int32.not_lt.mpr c49.2 q)
              refine lv_iinc (v := nI (k + 1)) (k := 3) hx hb zd_X_isAlarmed_54 hl rfl (nI_1 _) (by decide) rfl (fun ls hl => ?_)
              have hl : lv_has ls 4 [(2, .int (nI (k + 1))), (3, .ref an), (0, .ref cb), (1, .int (nI h))] := hl
              refine lv_goto (tgt := 13) hx hb zd_X_isAlarmed_57 (by decide) ?_
              exact ih (k + 1) (by omega) (by simp [zalarmAt, hf, h6, q2, h32, c49]) ls (lv_sub hl [2, 3, 0] rfl)
            · have c49 := zb_0 h49
              rw [zr_val hRep hh, q5, q6] at c49
              have c49 : (M 3 h < M 29 k ∨ M 30 k < M 3 h) := Classical.byContradiction (fun q => c49 ⟨Int32.not_lt.mp (fun z => q (Or.inl z)), Int32.not_lt.mp (fun z => q (Or.inr z))⟩)
              refine lv_iconst (v := 1) hx hb zd_X_isAlarmed_52 (by decide) ?_
              exact zS_zret hx hb hr hlk rfl rfl rfl (zb_t (zalarmAt_4 (k := k) (by simp [zalarmAt, h6, q2, h32, c49]) (by omega))).symm zd_X_isAlarmed_53
    exact L13 4 0 (by omega) rfl _ (lv_sub hl [1, 2, 0] rfl)
  · rw [zr_hav hRep hh] at h6
    refine lv_iconst (v := 0) hx hb zd_X_isAlarmed_9 (by decide) ?_
    exact zS_zret hx hb hr hlk rfl rfl rfl (zb_f (by rw [zalarmAt_no h6]; decide)).symm zd_X_isAlarmed_10
set_option maxRecDepth 100000 in
set_option maxHeartbeats 4000000 in
theorem zc_m_X_alarm (l : Launch) (D : va_G) (ka : Nat → ClassId) (cb : Nat) (M : zM) (i0 : Int32) : Met l zy_X_alarm (.code zy_X_alarm zc_X_alarm 4 (some .int) :: zAll) ({ frames := 2, cells := 0, slots := 0, locals := 44 }) (va_Pc [.ref cb, .int i0] (zCS D ka cb M)) (vp_Si (fun rr => rr = (zf_alarm M i0))) 0 0 (fun _ => False) := by
  refine z_met (by decide) (Nat.le_of_ble_eq_true rfl) ?_
  intro pg e s m below meth c hx hb hml hr hts hown hlk hnm hB ls hl
  obtain ⟨P, C, A, ⟨hP, hQ, hz, hK⟩, hRep⟩ := hB
  have hS : va_S (zCA cb) s.heap s.heap [] := va_S.rf
  have hl : lv_has ls 4 [(0, .ref cb), (1, .int i0)] := hl
  refine lv_iconst (v := 0) hx hb zd_X_alarm_0 (by decide) ?_
  refine lv_istore_n hx hb zd_X_alarm_1 rfl hl (by decide) rfl (fun ls hl => ?_)
  have hl : lv_has ls 4 [(2, .int 0), (0, .ref cb), (1, .int i0)] := hl
  refine lv_iconst (v := 0) hx hb zd_X_alarm_2 (by decide) ?_
  refine lv_istore_n hx hb zd_X_alarm_3 rfl hl (by decide) rfl (fun ls hl => ?_)
  have hl : lv_has ls 4 [(3, .int 0), (2, .int 0), (0, .ref cb), (1, .int i0)] := hl
  have L4 : ∀ (j k : Nat), k + j = 3 → ∀ n : Int32, zalarm M i0 j n k = zf_alarm M i0 → ∀ (ls : Array Slot), lv_has ls 4 [(0, .ref cb), (1, .int i0), (2, .int n), (3, .int (nI k))] → W pg l e ({ frames := 2, cells := 0, slots := 0, locals := 44 }) s m (List.toArray [.ref cb, .int i0]) below meth c s.heap [] 0 0 (MQ below (vp_Si (fun rr => rr = (zf_alarm M i0))) (List.toArray [.ref cb, .int i0]) s 0 0 (fun _ => False)) (F0 m 4 ls []) := by
    intro j
    induction j with
    | zero =>
      intro k hk n hn ls hl
      have hk : k = 3 := by omega
      subst hk
      refine lv_iload_n hx hb zd_X_alarm_4 rfl (lv_at hl 3 rfl) ?_
      refine lv_iconst (v := 3) hx hb zd_X_alarm_5 (by decide) ?_
      refine lv_icmp_ge (tgt := 33) hx hb zd_X_alarm_6 (by decide) (fun h6 => ?_) (fun h6 => absurd (by decide) h6)
      refine lv_iconst (v := -1) hx hb zd_X_alarm_33 (by decide) ?_
      exact zS_iret hx hb hr hlk rfl rfl (by rw [← hn, zalarm]) zd_X_alarm_34
    | succ j ih =>
      intro k hk n hn ls hl
      refine lv_iload_n hx hb zd_X_alarm_4 rfl (lv_at hl 3 rfl) ?_
      refine lv_iconst (v := 3) hx hb zd_X_alarm_5 (by decide) ?_
      refine lv_icmp_ge (tgt := 33) hx hb zd_X_alarm_6 (by decide) (fun h6 => absurd h6 (nI_ge (b := 3) (by omega) (by decide))) (fun h6 => ?_)
      refine lv_aload_n hx hb zd_X_alarm_9 rfl (lv_at hl 0 rfl) ?_
      refine lv_iload_n hx hb zd_X_alarm_10 rfl (lv_at hl 3 rfl) ?_
      refine zK_calls (nA := 1) (As := [.int (nI k)]) (rest := []) zCS_blind (zc_m_X_isAlarmed l D ka cb M k (by omega)) (zg_X_isAlarmed zk_X_204) (by decide) ⟨rfl, rfl⟩ ⟨Nat.le_of_ble_eq_true rfl, Nat.le_of_ble_eq_true rfl⟩ hx hb hml hts hown (zC_recv hK hP zCL_0 (zCE_x ka cb C A) rfl) (fun U hU hW => ⟨_, _, _, zC_U hK hP hQ hz hS U hU hW, hRep⟩) hl.1 rfl rfl (Nat.le_of_ble_eq_true rfl) ⟨Nat.le_of_ble_eq_true rfl, Nat.le_of_ble_eq_true rfl⟩ zd_X_alarm_11 ?_
      refine lv_if_eq (tgt := 27) hx hb zd_X_alarm_14 (by decide) (fun h14 => ?_) (fun h14 => ?_)
      · have c14 := zb_0 h14
        refine lv_iinc (v := nI (k + 1)) (k := 3) hx hb zd_X_alarm_27 hl rfl (nI_1 _) (by decide) rfl (fun ls hl => ?_)
        have hl : lv_has ls 4 [(3, .int (nI (k + 1))), (0, .ref cb), (1, .int i0), (2, .int n)] := hl
        refine lv_goto (tgt := 4) hx hb zd_X_alarm_30 (by decide) ?_
        exact ih (k + 1) (by omega) _ (by rw [← hn, zalarm]; first | rw [if_neg c14] | rw [if_pos c14, if_neg h19]) ls (lv_sub hl [1, 2, 3, 0] rfl)
      · have c14 := zb_1 h14
        refine lv_iload_n hx hb zd_X_alarm_17 rfl (lv_at hl 2 rfl) ?_
        refine lv_iload_n hx hb zd_X_alarm_18 rfl (lv_at hl 1 rfl) ?_
        refine lv_icmp_ne (tgt := 24) hx hb zd_X_alarm_19 (by decide) (fun h19 => ?_) (fun h19 => ?_)
        · refine lv_iinc (v := n + 1) (k := 2) hx hb zd_X_alarm_24 hl rfl rfl (by decide) rfl (fun ls hl => ?_)
          have hl : lv_has ls 4 [(2, .int (n + 1)), (0, .ref cb), (1, .int i0), (3, .int (nI k))] := hl
          refine lv_iinc (v := nI (k + 1)) (k := 3) hx hb zd_X_alarm_27 hl rfl (nI_1 _) (by decide) rfl (fun ls hl => ?_)
          have hl : lv_has ls 4 [(3, .int (nI (k + 1))), (2, .int (n + 1)), (0, .ref cb), (1, .int i0)] := hl
          refine lv_goto (tgt := 4) hx hb zd_X_alarm_30 (by decide) ?_
          exact ih (k + 1) (by omega) _ (by rw [← hn, zalarm]; first | rw [if_neg c14] | rw [if_pos c14, if_neg h19]) ls (lv_sub hl [2, 3, 1, 0] rfl)
        · refine lv_iload_n hx hb zd_X_alarm_22 rfl (lv_at hl 3 rfl) ?_
          exact zS_iret hx hb hr hlk rfl rfl (by rw [← hn, zalarm, if_pos c14, if_pos h19]) zd_X_alarm_23
  exact L4 3 0 (by omega) 0 rfl _ (lv_sub hl [2, 3, 1, 0] rfl)
