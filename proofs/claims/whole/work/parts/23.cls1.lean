set_option maxRecDepth 100000 in
set_option maxHeartbeats 4000000 in
theorem zc_m_X_isPoint (l : Launch) (x0 : Int32) : Met l zy_X_isPoint (.code zy_X_isPoint zc_X_isPoint 1 (some .boolean) :: zAll) ({ frames := 0, cells := 0, slots := 0, locals := 0 }) (va_Pc [.int x0] (fun _ => True)) (vp_Si (fun rr => rr = (zb (zbl x0 4)))) 0 0 (fun _ => False) := by
  refine z_met (by decide) (Nat.le_of_ble_eq_true rfl) ?_
  intro pg e s m below meth c hx hb hml hr hts hown hlk hnm hB ls hl
  have hl : lv_has ls 1 [(0, .int x0)] := hl
  refine lv_iload_n hx hb zd_X_isPoint_0 rfl (lv_at hl 0 rfl) ?_
  refine lv_if_lt (tgt := 13) hx hb zd_X_isPoint_1 (by decide) (fun h1 => ?_) (fun h1 => ?_)
  · refine lv_iconst (v := 0) hx hb zd_X_isPoint_13 (by decide) ?_
    exact zS_zret hx hb hr hlk rfl rfl rfl (by simp [zb, zbl, h1]) zd_X_isPoint_14
  · refine lv_iload_n hx hb zd_X_isPoint_4 rfl (lv_at hl 0 rfl) ?_
    refine lv_iconst (v := 4) hx hb zd_X_isPoint_5 (by decide) ?_
    refine lv_icmp_ge (tgt := 13) hx hb zd_X_isPoint_6 (by decide) (fun h6 => ?_) (fun h6 => ?_)
    · refine lv_iconst (v := 0) hx hb zd_X_isPoint_13 (by decide) ?_
      exact zS_zret hx hb hr hlk rfl rfl rfl (by simp [zb, zbl, h1, h6]) zd_X_isPoint_14
    · refine lv_iconst (v := 1) hx hb zd_X_isPoint_9 (by decide) ?_
      refine lv_goto (tgt := 14) hx hb zd_X_isPoint_10 (by decide) ?_
      exact zS_zret hx hb hr hlk rfl rfl rfl (by simp [zb, zbl, h1, h6]) zd_X_isPoint_14
set_option maxRecDepth 100000 in
set_option maxHeartbeats 4000000 in
theorem zc_m_X_isRecorder (l : Launch) (x0 : Int32) : Met l zy_X_isRecorder (.code zy_X_isRecorder zc_X_isRecorder 1 (some .boolean) :: zAll) ({ frames := 0, cells := 0, slots := 0, locals := 0 }) (va_Pc [.int x0] (fun _ => True)) (vp_Si (fun rr => rr = (zb (zbl x0 9)))) 0 0 (fun _ => False) := by
  refine z_met (by decide) (Nat.le_of_ble_eq_true rfl) ?_
  intro pg e s m below meth c hx hb hml hr hts hown hlk hnm hB ls hl
  have hl : lv_has ls 1 [(0, .int x0)] := hl
  refine lv_iload_n hx hb zd_X_isRecorder_0 rfl (lv_at hl 0 rfl) ?_
  refine lv_if_lt (tgt := 14) hx hb zd_X_isRecorder_1 (by decide) (fun h1 => ?_) (fun h1 => ?_)
  · refine lv_iconst (v := 0) hx hb zd_X_isRecorder_14 (by decide) ?_
    exact zS_zret hx hb hr hlk rfl rfl rfl (by simp [zb, zbl, h1]) zd_X_isRecorder_15
  · refine lv_iload_n hx hb zd_X_isRecorder_4 rfl (lv_at hl 0 rfl) ?_
    refine lv_bipush (v := 9) hx hb zd_X_isRecorder_5 (by decide) ?_
    refine lv_icmp_ge (tgt := 14) hx hb zd_X_isRecorder_7 (by decide) (fun h7 => ?_) (fun h7 => ?_)
    · refine lv_iconst (v := 0) hx hb zd_X_isRecorder_14 (by decide) ?_
      exact zS_zret hx hb hr hlk rfl rfl rfl (by simp [zb, zbl, h1, h7]) zd_X_isRecorder_15
    · refine lv_iconst (v := 1) hx hb zd_X_isRecorder_10 (by decide) ?_
      refine lv_goto (tgt := 15) hx hb zd_X_isRecorder_11 (by decide) ?_
      exact zS_zret hx hb hr hlk rfl rfl rfl (by simp [zb, zbl, h1, h7]) zd_X_isRecorder_15
set_option maxRecDepth 100000 in
set_option maxHeartbeats 4000000 in
theorem zc_m_X_isReader (l : Launch) (x0 : Int32) : Met l zy_X_isReader (.code zy_X_isReader zc_X_isReader 1 (some .boolean) :: zAll) ({ frames := 0, cells := 0, slots := 0, locals := 0 }) (va_Pc [.int x0] (fun _ => True)) (vp_Si (fun rr => rr = (zb (zbl x0 3)))) 0 0 (fun _ => False) := by
  refine z_met (by decide) (Nat.le_of_ble_eq_true rfl) ?_
  intro pg e s m below meth c hx hb hml hr hts hown hlk hnm hB ls hl
  have hl : lv_has ls 1 [(0, .int x0)] := hl
  refine lv_iload_n hx hb zd_X_isReader_0 rfl (lv_at hl 0 rfl) ?_
  refine lv_if_lt (tgt := 13) hx hb zd_X_isReader_1 (by decide) (fun h1 => ?_) (fun h1 => ?_)
  · refine lv_iconst (v := 0) hx hb zd_X_isReader_13 (by decide) ?_
    exact zS_zret hx hb hr hlk rfl rfl rfl (by simp [zb, zbl, h1]) zd_X_isReader_14
  · refine lv_iload_n hx hb zd_X_isReader_4 rfl (lv_at hl 0 rfl) ?_
    refine lv_iconst (v := 3) hx hb zd_X_isReader_5 (by decide) ?_
    refine lv_icmp_ge (tgt := 13) hx hb zd_X_isReader_6 (by decide) (fun h6 => ?_) (fun h6 => ?_)
    · refine lv_iconst (v := 0) hx hb zd_X_isReader_13 (by decide) ?_
      exact zS_zret hx hb hr hlk rfl rfl rfl (by simp [zb, zbl, h1, h6]) zd_X_isReader_14
    · refine lv_iconst (v := 1) hx hb zd_X_isReader_9 (by decide) ?_
      refine lv_goto (tgt := 14) hx hb zd_X_isReader_10 (by decide) ?_
      exact zS_zret hx hb hr hlk rfl rfl rfl (by simp [zb, zbl, h1, h6]) zd_X_isReader_14
set_option maxRecDepth 100000 in
set_option maxHeartbeats 4000000 in
theorem zc_m_X_isHall (l : Launch) (x0 : Int32) : Met l zy_X_isHall (.code zy_X_isHall zc_X_isHall 1 (some .boolean) :: zAll) ({ frames := 0, cells := 0, slots := 0, locals := 0 }) (va_Pc [.int x0] (fun _ => True)) (vp_Si (fun rr => rr = (zb (zbl x0 3)))) 0 0 (fun _ => False) := by
  refine z_met (by decide) (Nat.le_of_ble_eq_true rfl) ?_
  intro pg e s m below meth c hx hb hml hr hts hown hlk hnm hB ls hl
  have hl : lv_has ls 1 [(0, .int x0)] := hl
  refine lv_iload_n hx hb zd_X_isHall_0 rfl (lv_at hl 0 rfl) ?_
  refine lv_if_lt (tgt := 13) hx hb zd_X_isHall_1 (by decide) (fun h1 => ?_) (fun h1 => ?_)
  · refine lv_iconst (v := 0) hx hb zd_X_isHall_13 (by decide) ?_
    exact zS_zret hx hb hr hlk rfl rfl rfl (by simp [zb, zbl, h1]) zd_X_isHall_14
  · refine lv_iload_n hx hb zd_X_isHall_4 rfl (lv_at hl 0 rfl) ?_
    refine lv_iconst (v := 3) hx hb zd_X_isHall_5 (by decide) ?_
    refine lv_icmp_ge (tgt := 13) hx hb zd_X_isHall_6 (by decide) (fun h6 => ?_) (fun h6 => ?_)
    · refine lv_iconst (v := 0) hx hb zd_X_isHall_13 (by decide) ?_
      exact zS_zret hx hb hr hlk rfl rfl rfl (by simp [zb, zbl, h1, h6]) zd_X_isHall_14
    · refine lv_iconst (v := 1) hx hb zd_X_isHall_9 (by decide) ?_
      refine lv_goto (tgt := 14) hx hb zd_X_isHall_10 (by decide) ?_
      exact zS_zret hx hb hr hlk rfl rfl rfl (by simp [zb, zbl, h1, h6]) zd_X_isHall_14
set_option maxRecDepth 100000 in
set_option maxHeartbeats 4000000 in
theorem zc_m_P_part (l : Launch) (D : va_G) (ka : Nat → ClassId) (cb : Nat) (P : List Nat) (C : zC) (A : zA) (a : Nat) (ha : zPa cb P a) (f0 : Int32) : Met l zy_P_part (.code zy_P_part zc_P_part 2 (some .int) :: zAll) ({ frames := 0, cells := 0, slots := 0, locals := 0 }) (va_Pc [.ref a, .int f0] (zCW D ka cb P C A)) (vp_Si (fun rr => rr = (zpart C a f0))) 0 0 (fun _ => False) := by
  refine z_met (by decide) (Nat.le_of_ble_eq_true rfl) ?_
  intro pg e s m below meth c hx hb hml hr hts hown hlk hnm hB ls hl
  obtain ⟨hP, hQ, hz, hK⟩ := hB
  have hS : va_S (zCA cb) s.heap s.heap [] := va_S.rf
  have hl : lv_has ls 2 [(0, .ref a), (1, .int f0)] := hl
  refine lv_iload_n hx hb zd_P_part_0 rfl (lv_at hl 1 rfl) ?_
  by_cases t1_0 : f0 = 0
  · refine lv_tableIn (x := f0) (off := 27) (tgt := 28) hx hb zd_P_part_1 (by rw [t1_0]; decide) (by rw [t1_0]; decide) (by rw [t1_0]; rfl) (by decide) ?_
    refine lv_aload_n hx hb zd_P_part_28 rfl (lv_at hl 0 rfl) ?_
    refine zr_get hx hb hts zin_P hown hK hP (zCL_p ha) (zCE_pair ka cb C A (zP_adr hQ ha)) rfl 0 (by decide) (zl_P_9 hts) rfl rfl zd_P_part_29 ?_
    exact zS_iret hx hb hr hlk rfl rfl (by simp [zpart, t1_0]) zd_P_part_32
  by_cases t1_1 : f0 = 1
  · refine lv_tableIn (x := f0) (off := 32) (tgt := 33) hx hb zd_P_part_1 (by rw [t1_1]; decide) (by rw [t1_1]; decide) (by rw [t1_1]; rfl) (by decide) ?_
    refine lv_aload_n hx hb zd_P_part_33 rfl (lv_at hl 0 rfl) ?_
    refine zr_get hx hb hts zin_P hown hK hP (zCL_p ha) (zCE_pair ka cb C A (zP_adr hQ ha)) rfl 1 (by decide) (zl_P_15 hts) rfl rfl zd_P_part_34 ?_
    exact zS_iret hx hb hr hlk rfl rfl (by simp [zpart, t1_0, t1_1]) zd_P_part_37
  by_cases t1_2 : f0 = 2
  · refine lv_tableIn (x := f0) (off := 37) (tgt := 38) hx hb zd_P_part_1 (by rw [t1_2]; decide) (by rw [t1_2]; decide) (by rw [t1_2]; rfl) (by decide) ?_
    refine lv_aload_n hx hb zd_P_part_38 rfl (lv_at hl 0 rfl) ?_
    refine zr_get hx hb hts zin_P hown hK hP (zCL_p ha) (zCE_pair ka cb C A (zP_adr hQ ha)) rfl 2 (by decide) (zl_P_18 hts) rfl rfl zd_P_part_39 ?_
    exact zS_iret hx hb hr hlk rfl rfl (by simp [zpart, t1_0, t1_1, t1_2]) zd_P_part_42
  refine lv_tableOut (tgt := 43) hx hb zd_P_part_1 (z_tsw (n := 2) (by decide) (fun k hk => ?_)) (by decide) ?_
  · rcases (show k = 0 ∨ k = 1 ∨ k = 2 by omega) with rfl | rfl | rfl
    · exact t1_0
    · exact t1_1
    · exact t1_2
  refine lv_iconst (v := -1) hx hb zd_P_part_43 (by decide) ?_
  exact zS_iret hx hb hr hlk rfl rfl (by simp [zpart, t1_0, t1_1, t1_2]) zd_P_part_44
set_option maxRecDepth 100000 in
set_option maxHeartbeats 4000000 in
theorem zc_m_P_spans (l : Launch) (D : va_G) (ka : Nat → ClassId) (cb : Nat) (P : List Nat) (C : zC) (A : zA) (a : Nat) (ha : zPa cb P a) (v0 : Int32) : Met l zy_P_spans (.code zy_P_spans zc_P_spans 2 (some .boolean) :: zAll) ({ frames := 0, cells := 0, slots := 0, locals := 0 }) (va_Pc [.ref a, .int v0] (zCW D ka cb P C A)) (vp_Si (fun rr => rr = (zb (C 23 a 0 ≤ v0 ∧ v0 ≤ C 24 a 0)))) 0 0 (fun _ => False) := by
  refine z_met (by decide) (Nat.le_of_ble_eq_true rfl) ?_
  intro pg e s m below meth c hx hb hml hr hts hown hlk hnm hB ls hl
  obtain ⟨hP, hQ, hz, hK⟩ := hB
  have hS : va_S (zCA cb) s.heap s.heap [] := va_S.rf
  have hl : lv_has ls 2 [(0, .ref a), (1, .int v0)] := hl
  refine lv_aload_n hx hb zd_P_spans_0 rfl (lv_at hl 0 rfl) ?_
  refine zr_get hx hb hts zin_P hown hK hP (zCL_p ha) (zCE_pair ka cb C A (zP_adr hQ ha)) rfl 1 (by decide) (zl_P_15 hts) rfl rfl zd_P_spans_1 ?_
  refine lv_iload_n hx hb zd_P_spans_4 rfl (lv_at hl 1 rfl) ?_
  refine lv_icmp_gt (tgt := 20) hx hb zd_P_spans_5 (by decide) (fun h5 => ?_) (fun h5 => ?_)
  · have h5 := Int32.not_le.mpr h5
    refine lv_iconst (v := 0) hx hb zd_P_spans_20 (by decide) ?_
    exact zS_zret hx hb hr hlk rfl rfl rfl (by simp only [zb]; simp [h5]) zd_P_spans_21
  · have h5 := Int32.not_lt.mp h5
    refine lv_iload_n hx hb zd_P_spans_8 rfl (lv_at hl 1 rfl) ?_
    refine lv_aload_n hx hb zd_P_spans_9 rfl (lv_at hl 0 rfl) ?_
    refine zr_get hx hb hts zin_P hown hK hP (zCL_p ha) (zCE_pair ka cb C A (zP_adr hQ ha)) rfl 2 (by decide) (zl_P_18 hts) rfl rfl zd_P_spans_10 ?_
    refine lv_icmp_gt (tgt := 20) hx hb zd_P_spans_13 (by decide) (fun h13 => ?_) (fun h13 => ?_)
    · have h13 := Int32.not_le.mpr h13
      refine lv_iconst (v := 0) hx hb zd_P_spans_20 (by decide) ?_
      exact zS_zret hx hb hr hlk rfl rfl rfl (by simp only [zb]; simp [h5, h13]) zd_P_spans_21
    · have h13 := Int32.not_lt.mp h13
      refine lv_iconst (v := 1) hx hb zd_P_spans_16 (by decide) ?_
      refine lv_goto (tgt := 21) hx hb zd_P_spans_17 (by decide) ?_
      exact zS_zret hx hb hr hlk rfl rfl rfl (by simp only [zb]; simp [h5, h13]) zd_P_spans_21
set_option maxRecDepth 100000 in
set_option maxHeartbeats 4000000 in
theorem zc_m_P_isLike (l : Launch) (D : va_G) (ka : Nat → ClassId) (cb : Nat) (P : List Nat) (C : zC) (A : zA) (a b : Nat) (ha : zPa cb P a) (hb0 : zPa cb P b) : Met l zy_P_isLike (.code zy_P_isLike zc_P_isLike 2 (some .boolean) :: zAll) ({ frames := 0, cells := 0, slots := 0, locals := 0 }) (va_Pc [.ref a, .ref b] (zCW D ka cb P C A)) (vp_Si (fun rr => rr = (zb (zlike C a b)))) 0 0 (fun _ => False) := by
  refine z_met (by decide) (Nat.le_of_ble_eq_true rfl) ?_
  intro pg e s m below meth c hx hb hml hr hts hown hlk hnm hB ls hl
  obtain ⟨hP, hQ, hz, hK⟩ := hB
  have hS : va_S (zCA cb) s.heap s.heap [] := va_S.rf
  have hl : lv_has ls 2 [(0, .ref a), (1, .ref b)] := hl
  refine lv_aload_n hx hb zd_P_isLike_0 rfl (lv_at hl 0 rfl) ?_
  refine zr_get hx hb hts zin_P hown hK hP (zCL_p ha) (zCE_pair ka cb C A (zP_adr hQ ha)) rfl 0 (by decide) (zl_P_9 hts) rfl rfl zd_P_isLike_1 ?_
  refine lv_aload_n hx hb zd_P_isLike_4 rfl (lv_at hl 1 rfl) ?_
  refine zr_get hx hb hts zin_P hown hK hP (zCL_p hb0) (zCE_pair ka cb C A (zP_adr hQ hb0)) rfl 0 (by decide) (zl_P_9 hts) rfl rfl zd_P_isLike_5 ?_
  refine lv_icmp_ne (tgt := 37) hx hb zd_P_isLike_8 (by decide) (fun h8 => ?_) (fun h8 => ?_)
  · refine lv_iconst (v := 0) hx hb zd_P_isLike_37 (by decide) ?_
    exact zS_zret hx hb hr hlk rfl rfl rfl (by simp [zb, h8]) zd_P_isLike_38
  · refine lv_aload_n hx hb zd_P_isLike_11 rfl (lv_at hl 0 rfl) ?_
    refine zr_get hx hb hts zin_P hown hK hP (zCL_p ha) (zCE_pair ka cb C A (zP_adr hQ ha)) rfl 1 (by decide) (zl_P_15 hts) rfl rfl zd_P_isLike_12 ?_
    refine lv_aload_n hx hb zd_P_isLike_15 rfl (lv_at hl 1 rfl) ?_
    refine zr_get hx hb hts zin_P hown hK hP (zCL_p hb0) (zCE_pair ka cb C A (zP_adr hQ hb0)) rfl 1 (by decide) (zl_P_15 hts) rfl rfl zd_P_isLike_16 ?_
    refine lv_icmp_ne (tgt := 37) hx hb zd_P_isLike_19 (by decide) (fun h19 => ?_) (fun h19 => ?_)
    · refine lv_iconst (v := 0) hx hb zd_P_isLike_37 (by decide) ?_
      exact zS_zret hx hb hr hlk rfl rfl rfl (by simp [zb, h8, h19]) zd_P_isLike_38
    · refine lv_aload_n hx hb zd_P_isLike_22 rfl (lv_at hl 0 rfl) ?_
      refine zr_get hx hb hts zin_P hown hK hP (zCL_p ha) (zCE_pair ka cb C A (zP_adr hQ ha)) rfl 2 (by decide) (zl_P_18 hts) rfl rfl zd_P_isLike_23 ?_
      refine lv_aload_n hx hb zd_P_isLike_26 rfl (lv_at hl 1 rfl) ?_
      refine zr_get hx hb hts zin_P hown hK hP (zCL_p hb0) (zCE_pair ka cb C A (zP_adr hQ hb0)) rfl 2 (by decide) (zl_P_18 hts) rfl rfl zd_P_isLike_27 ?_
      refine lv_icmp_ne (tgt := 37) hx hb zd_P_isLike_30 (by decide) (fun h30 => ?_) (fun h30 => ?_)
      · refine lv_iconst (v := 0) hx hb zd_P_isLike_37 (by decide) ?_
        exact zS_zret hx hb hr hlk rfl rfl rfl (by simp [zb, h8, h19, h30]) zd_P_isLike_38
      · refine lv_iconst (v := 1) hx hb zd_P_isLike_33 (by decide) ?_
        refine lv_goto (tgt := 38) hx hb zd_P_isLike_34 (by decide) ?_
        exact zS_zret hx hb hr hlk rfl rfl rfl (by simp [zb, h8, h19, h30]) zd_P_isLike_38
set_option maxRecDepth 100000 in
set_option maxHeartbeats 4000000 in
theorem zc_m_P_isPreferredTo (l : Launch) (D : va_G) (ka : Nat → ClassId) (cb : Nat) (P : List Nat) (C : zC) (A : zA) (a b : Nat) (ha : zPa cb P a) (hb0 : zPa cb P b) : Met l zy_P_isPreferredTo (.code zy_P_isPreferredTo zc_P_isPreferredTo 2 (some .boolean) :: zAll) ({ frames := 0, cells := 0, slots := 0, locals := 0 }) (va_Pc [.ref a, .ref b] (zCW D ka cb P C A)) (vp_Si (fun rr => rr = (zb (zpref C a b = true)))) 0 0 (fun _ => False) := by
  refine z_met (by decide) (Nat.le_of_ble_eq_true rfl) ?_
  intro pg e s m below meth c hx hb hml hr hts hown hlk hnm hB ls hl
  obtain ⟨hP, hQ, hz, hK⟩ := hB
  have hS : va_S (zCA cb) s.heap s.heap [] := va_S.rf
  have hl : lv_has ls 2 [(0, .ref a), (1, .ref b)] := hl
  refine lv_aload_n hx hb zd_P_isPreferredTo_0 rfl (lv_at hl 0 rfl) ?_
  refine zr_get hx hb hts zin_P hown hK hP (zCL_p ha) (zCE_pair ka cb C A (zP_adr hQ ha)) rfl 0 (by decide) (zl_P_9 hts) rfl rfl zd_P_isPreferredTo_1 ?_
  refine lv_aload_n hx hb zd_P_isPreferredTo_4 rfl (lv_at hl 1 rfl) ?_
  refine zr_get hx hb hts zin_P hown hK hP (zCL_p hb0) (zCE_pair ka cb C A (zP_adr hQ hb0)) rfl 0 (by decide) (zl_P_9 hts) rfl rfl zd_P_isPreferredTo_5 ?_
  refine lv_icmp_eq (tgt := 28) hx hb zd_P_isPreferredTo_8 (by decide) (fun h8 => ?_) (fun h8 => ?_)
  · refine lv_aload_n hx hb zd_P_isPreferredTo_28 rfl (lv_at hl 0 rfl) ?_
    refine zr_get hx hb hts zin_P hown hK hP (zCL_p ha) (zCE_pair ka cb C A (zP_adr hQ ha)) rfl 1 (by decide) (zl_P_15 hts) rfl rfl zd_P_isPreferredTo_29 ?_
    refine lv_aload_n hx hb zd_P_isPreferredTo_32 rfl (lv_at hl 1 rfl) ?_
    refine zr_get hx hb hts zin_P hown hK hP (zCL_p hb0) (zCE_pair ka cb C A (zP_adr hQ hb0)) rfl 1 (by decide) (zl_P_15 hts) rfl rfl zd_P_isPreferredTo_33 ?_
    refine lv_icmp_eq (tgt := 58) hx hb zd_P_isPreferredTo_36 (by decide) (fun h36 => ?_) (fun h36 => ?_)
    · refine lv_aload_n hx hb zd_P_isPreferredTo_58 rfl (lv_at hl 0 rfl) ?_
      refine zr_get hx hb hts zin_P hown hK hP (zCL_p ha) (zCE_pair ka cb C A (zP_adr hQ ha)) rfl 2 (by decide) (zl_P_18 hts) rfl rfl zd_P_isPreferredTo_59 ?_
      refine lv_aload_n hx hb zd_P_isPreferredTo_62 rfl (lv_at hl 1 rfl) ?_
      refine zr_get hx hb hts zin_P hown hK hP (zCL_p hb0) (zCE_pair ka cb C A (zP_adr hQ hb0)) rfl 2 (by decide) (zl_P_18 hts) rfl rfl zd_P_isPreferredTo_63 ?_
      refine lv_icmp_ge (tgt := 73) hx hb zd_P_isPreferredTo_66 (by decide) (fun h66 => ?_) (fun h66 => ?_)
      · have h66 := Int32.not_lt.mpr h66
        refine lv_iconst (v := 0) hx hb zd_P_isPreferredTo_73 (by decide) ?_
        exact zS_zret hx hb hr hlk rfl rfl rfl (by simp [zb, zpref, h8, h36, h66]) zd_P_isPreferredTo_74
      · have h66 := Int32.not_le.mp h66
        refine lv_iconst (v := 1) hx hb zd_P_isPreferredTo_69 (by decide) ?_
        refine lv_goto (tgt := 74) hx hb zd_P_isPreferredTo_70 (by decide) ?_
        exact zS_zret hx hb hr hlk rfl rfl rfl (by simp [zb, zpref, h8, h36, h66]) zd_P_isPreferredTo_74
    · refine lv_aload_n hx hb zd_P_isPreferredTo_39 rfl (lv_at hl 0 rfl) ?_
      refine zr_get hx hb hts zin_P hown hK hP (zCL_p ha) (zCE_pair ka cb C A (zP_adr hQ ha)) rfl 1 (by decide) (zl_P_15 hts) rfl rfl zd_P_isPreferredTo_40 ?_
      refine lv_aload_n hx hb zd_P_isPreferredTo_43 rfl (lv_at hl 1 rfl) ?_
      refine zr_get hx hb hts zin_P hown hK hP (zCL_p hb0) (zCE_pair ka cb C A (zP_adr hQ hb0)) rfl 1 (by decide) (zl_P_15 hts) rfl rfl zd_P_isPreferredTo_44 ?_
      refine lv_icmp_ge (tgt := 54) hx hb zd_P_isPreferredTo_47 (by decide) (fun h47 => ?_) (fun h47 => ?_)
      · have h47 := Int32.not_lt.mpr h47
        refine lv_iconst (v := 0) hx hb zd_P_isPreferredTo_54 (by decide) ?_
        refine lv_goto (tgt := 74) hx hb zd_P_isPreferredTo_55 (by decide) ?_
        exact zS_zret hx hb hr hlk rfl rfl rfl (by simp [zb, zpref, h8, h36, h47]) zd_P_isPreferredTo_74
      · have h47 := Int32.not_le.mp h47
        refine lv_iconst (v := 1) hx hb zd_P_isPreferredTo_50 (by decide) ?_
        refine lv_goto (tgt := 74) hx hb zd_P_isPreferredTo_51 (by decide) ?_
        exact zS_zret hx hb hr hlk rfl rfl rfl (by simp [zb, zpref, h8, h36, h47]) zd_P_isPreferredTo_74
  · refine lv_aload_n hx hb zd_P_isPreferredTo_11 rfl (lv_at hl 0 rfl) ?_
    refine zr_get hx hb hts zin_P hown hK hP (zCL_p ha) (zCE_pair ka cb C A (zP_adr hQ ha)) rfl 0 (by decide) (zl_P_9 hts) rfl rfl zd_P_isPreferredTo_12 ?_
    refine lv_aload_n hx hb zd_P_isPreferredTo_15 rfl (lv_at hl 1 rfl) ?_
    refine zr_get hx hb hts zin_P hown hK hP (zCL_p hb0) (zCE_pair ka cb C A (zP_adr hQ hb0)) rfl 0 (by decide) (zl_P_9 hts) rfl rfl zd_P_isPreferredTo_16 ?_
    refine lv_icmp_le (tgt := 26) hx hb zd_P_isPreferredTo_19 (by decide) (fun h19 => ?_) (fun h19 => ?_)
    · have h19 := Int32.not_lt.mpr h19
      refine lv_iconst (v := 0) hx hb zd_P_isPreferredTo_26 (by decide) ?_
      exact zS_zret hx hb hr hlk rfl rfl rfl (by simp [zb, zpref, h8, h19]) zd_P_isPreferredTo_27
    · have h19 := Int32.not_le.mp h19
      refine lv_iconst (v := 1) hx hb zd_P_isPreferredTo_22 (by decide) ?_
      refine lv_goto (tgt := 27) hx hb zd_P_isPreferredTo_23 (by decide) ?_
      exact zS_zret hx hb hr hlk rfl rfl rfl (by simp [zb, zpref, h8, h19]) zd_P_isPreferredTo_27
set_option maxRecDepth 100000 in
set_option maxHeartbeats 4000000 in
theorem zc_m_O_has (l : Launch) (D : va_G) (ka : Nat → ClassId) (cb : Nat) (P : List Nat) (C : zC) (A : zA) (i0 : Int32) : Met l zy_O_has (.code zy_O_has zc_O_has 2 (some .boolean) :: zAll) ({ frames := 0, cells := 0, slots := 0, locals := 0 }) (va_Pc [.ref (cb + 40), .int i0] (zCW D ka cb P C A)) (vp_Si (fun rr => rr = (zb (zbl i0 (C 13 0 0))))) 0 0 (fun _ => False) := by
  refine z_met (by decide) (Nat.le_of_ble_eq_true rfl) ?_
  intro pg e s m below meth c hx hb hml hr hts hown hlk hnm hB ls hl
  obtain ⟨hP, hQ, hz, hK⟩ := hB
  have hS : va_S (zCA cb) s.heap s.heap [] := va_S.rf
  have hl : lv_has ls 2 [(0, .ref (cb + 40)), (1, .int i0)] := hl
  refine lv_iload_n hx hb zd_O_has_0 rfl (lv_at hl 1 rfl) ?_
  refine lv_if_lt (tgt := 16) hx hb zd_O_has_1 (by decide) (fun h1 => ?_) (fun h1 => ?_)
  · refine lv_iconst (v := 0) hx hb zd_O_has_16 (by decide) ?_
    exact zS_zret hx hb hr hlk rfl rfl rfl (by simp [zb, zbl, h1]) zd_O_has_17
  · refine lv_iload_n hx hb zd_O_has_4 rfl (lv_at hl 1 rfl) ?_
    refine lv_aload_n hx hb zd_O_has_5 rfl (lv_at hl 0 rfl) ?_
    refine zr_get hx hb hts zin_O hown hK hP (zCL_in (by omega)) (zCE_post ka cb C A) rfl 1 (by decide) (zl_O_18 hts) rfl rfl zd_O_has_6 ?_
    refine lv_icmp_ge (tgt := 16) hx hb zd_O_has_9 (by decide) (fun h9 => ?_) (fun h9 => ?_)
    · refine lv_iconst (v := 0) hx hb zd_O_has_16 (by decide) ?_
      exact zS_zret hx hb hr hlk rfl rfl rfl (by simp [zb, zbl, h1, h9]) zd_O_has_17
    · refine lv_iconst (v := 1) hx hb zd_O_has_12 (by decide) ?_
      refine lv_goto (tgt := 17) hx hb zd_O_has_13 (by decide) ?_
      exact zS_zret hx hb hr hlk rfl rfl rfl (by simp [zb, zbl, h1, h9]) zd_O_has_17
set_option maxRecDepth 100000 in
set_option maxHeartbeats 4000000 in
theorem zc_m_O_isFull (l : Launch) (D : va_G) (ka : Nat → ClassId) (cb : Nat) (P : List Nat) (C : zC) (A : zA) : Met l zy_O_isFull (.code zy_O_isFull zc_O_isFull 1 (some .boolean) :: zAll) ({ frames := 0, cells := 0, slots := 0, locals := 0 }) (va_Pc [.ref (cb + 40)] (zCW D ka cb P C A)) (vp_Si (fun rr => rr = (zb (¬ C 13 0 0 < 300)))) 0 0 (fun _ => False) := by
  refine z_met (by decide) (Nat.le_of_ble_eq_true rfl) ?_
  intro pg e s m below meth c hx hb hml hr hts hown hlk hnm hB ls hl
  obtain ⟨hP, hQ, hz, hK⟩ := hB
  have hS : va_S (zCA cb) s.heap s.heap [] := va_S.rf
  have hl : lv_has ls 1 [(0, .ref (cb + 40))] := hl
  refine lv_aload_n hx hb zd_O_isFull_0 rfl (lv_at hl 0 rfl) ?_
  refine zr_get hx hb hts zin_O hown hK hP (zCL_in (by omega)) (zCE_post ka cb C A) rfl 1 (by decide) (zl_O_18 hts) rfl rfl zd_O_isFull_1 ?_
  refine lv_sipush (v := 300) hx hb zd_O_isFull_4 (by decide) ?_
  refine lv_icmp_lt (tgt := 14) hx hb zd_O_isFull_7 (by decide) (fun h7 => ?_) (fun h7 => ?_)
  · refine lv_iconst (v := 0) hx hb zd_O_isFull_14 (by decide) ?_
    exact zS_zret hx hb hr hlk rfl rfl rfl (by simp [zb, h7]) zd_O_isFull_15
  · refine lv_iconst (v := 1) hx hb zd_O_isFull_10 (by decide) ?_
    refine lv_goto (tgt := 15) hx hb zd_O_isFull_11 (by decide) ?_
    exact zS_zret hx hb hr hlk rfl rfl rfl (by simp [zb, h7]) zd_O_isFull_15
set_option maxRecDepth 100000 in
set_option maxHeartbeats 4000000 in
theorem zc_m_O_sends (l : Launch) (D : va_G) (ka : Nat → ClassId) (cb : Nat) (P : List Nat) (C : zC) (A : zA) (c0 j : Nat) (hc : C 13 0 0 = nI c0) (hc1 : c0 < 300) (hrow : A 5 0 c0 = some (cb + (42 + j))) (hj : j < 300) (k0 r0 p0 d0 n0 : Int32) (a : Nat) : Met l zy_O_send (.code zy_O_send zc_O_send 8 none :: zAll) ({ frames := 1, cells := 0, slots := 0, locals := 20 }) (va_Pc [.ref (cb + 40), .int k0, .int r0, .int p0, .int d0, .int n0, .ref a] (zCW D ka cb P C A)) (va_Qv (fun (_ : Unit) => True) (fun _ t => zCW D ka cb P (zs3 (zs3 (zs3 (zs3 (zs3 (zs3 C 14 j 0 k0) 15 j 0 r0) 16 j 0 p0) 17 j 0 d0) 18 j 0 n0) 13 0 0 (C 13 0 0 + 1)) (zs3 A 6 j 0 (some a)) t) (zCA cb)) 0 0 (zCA cb) := by
  refine z_met (by decide) (Nat.le_of_ble_eq_true rfl) ?_
  intro pg e s m below meth c hx hb hml hr hts hown hlk hnm hB ls hl
  obtain ⟨hP, hQ, hz, hK⟩ := hB
  have hS : va_S (zCA cb) s.heap s.heap [] := va_S.rf
  have hl : lv_has ls 8 [(0, .ref (cb + 40)), (1, .int k0), (2, .int r0), (3, .int p0), (4, .int d0), (5, .int n0), (6, .ref a)] := hl
  refine lv_aload_n hx hb zd_O_send_0 rfl (lv_at hl 0 rfl) ?_
  refine zK_calls (nA := 0) (As := []) (rest := []) zCW_blind (zc_m_O_isFull l D ka cb P C A) (zg_O_isFull zk_O_22) (by decide) ⟨rfl, rfl⟩ ⟨Nat.le_of_ble_eq_true rfl, Nat.le_of_ble_eq_true rfl⟩ hx hb hml hts hown (zC_recv hK hP (zCL_in (by omega)) (zCE_post ka cb C A) rfl) (zC_U hK hP hQ hz hS) hl.1 rfl rfl (Nat.le_of_ble_eq_true rfl) ⟨Nat.zero_le _, Nat.zero_le _⟩ zd_O_send_1 ?_
  refine lv_if_eq (tgt := 8) hx hb zd_O_send_4 (by decide) (fun h4 => ?_) (fun h4 => absurd (show C 13 0 0 < 300 by rw [hc]; exact nI_lt (b := 300) hc1 (by decide)) (zb_1 h4))
  refine lv_aload_n hx hb zd_O_send_8 rfl (lv_at hl 0 rfl) ?_
  refine zr_get hx hb hts zin_O hown hK hP (zCL_in (by omega)) (zCE_post ka cb C A) rfl 0 (by decide) (zl_O_11 hts) rfl rfl zd_O_send_9 ?_
  refine lv_aload_n hx hb zd_O_send_12 rfl (lv_at hl 0 rfl) ?_
  refine zr_get hx hb hts zin_O hown hK hP (zCL_in (by omega)) (zCE_post ka cb C A) rfl 1 (by decide) (zl_O_18 hts) rfl rfl zd_O_send_13 ?_
  refine zr_aald (v := va_rf (A 5 0 c0)) hx hb hK hP (zCL_in (by omega)) 3 (zCE_row ka cb C A) rfl (j := c0) hc (show c0 < 300 from by omega) (by decide) rfl zd_O_send_16 ?_
  refine z_topr (v := .ref (cb + (42 + j))) (congrArg va_rf hrow) ?_
  refine lv_astore hx hb zd_O_send_17 hl (by decide) rfl (fun ls hl => ?_)
  have hl : lv_has ls 8 [(7, .ref (cb + (42 + j))), (0, .ref (cb + 40)), (1, .int k0), (2, .int r0), (3, .int p0), (4, .int d0), (5, .int n0), (6, .ref a)] := hl
  refine lv_aload hx hb zd_O_send_19 (lv_at hl 0 rfl) ?_
  refine lv_iload_n hx hb zd_O_send_21 rfl (lv_at hl 2 rfl) ?_
  refine zr_put (ty := .int) hx hb hts zin_L zt_L zto_L znm_L hown hK hP (zC_D hQ _) hS (zCL_in (by omega)) (zCE_let ka cb C A (j := j) (by omega)) rfl 0 (by decide) (zl_O_26 hts) rfl rfl (by decide +kernel) rfl rfl (Nat.le_of_ble_eq_true rfl) zd_O_send_22 (fun H locs hP hS => ?_)
  have hP : zCP D ka cb P (zs3 C 14 j 0 k0) A H := zC_re (zCU_let0 ka cb C A (j := j) (by omega) k0) hP
  refine lv_aload hx hb zd_O_send_25 (lv_at hl 0 rfl) ?_
  refine lv_iload_n hx hb zd_O_send_27 rfl (lv_at hl 3 rfl) ?_
  refine zr_put (ty := .int) hx hb hts zin_L zt_L zto_L znm_L hown hK hP (zC_D hQ _) hS (zCL_in (by omega)) (zCE_let ka cb (zs3 C 14 j 0 k0) A (j := j) (by omega)) rfl 1 (by decide) (zl_O_29 hts) rfl rfl (by decide +kernel) rfl rfl (Nat.le_of_ble_eq_true rfl) zd_O_send_28 (fun H locs hP hS => ?_)
  have hP : zCP D ka cb P (zs3 (zs3 C 14 j 0 k0) 15 j 0 r0) A H := zC_re (zCU_let1 ka cb (zs3 C 14 j 0 k0) A (j := j) (by omega) r0) hP
  refine lv_aload hx hb zd_O_send_31 (lv_at hl 0 rfl) ?_
  refine lv_iload_n hx hb zd_O_send_33 rfl (lv_at hl 4 rfl) ?_
  refine zr_put (ty := .int) hx hb hts zin_L zt_L zto_L znm_L hown hK hP (zC_D hQ _) hS (zCL_in (by omega)) (zCE_let ka cb (zs3 (zs3 C 14 j 0 k0) 15 j 0 r0) A (j := j) (by omega)) rfl 2 (by decide) (zl_O_32 hts) rfl rfl (by decide +kernel) rfl rfl (Nat.le_of_ble_eq_true rfl) zd_O_send_34 (fun H locs hP hS => ?_)
  have hP : zCP D ka cb P (zs3 (zs3 (zs3 C 14 j 0 k0) 15 j 0 r0) 16 j 0 p0) A H := zC_re (zCU_let2 ka cb (zs3 (zs3 C 14 j 0 k0) 15 j 0 r0) A (j := j) (by omega) p0) hP
  refine lv_aload hx hb zd_O_send_37 (lv_at hl 0 rfl) ?_
  refine lv_iload hx hb zd_O_send_39 (lv_at hl 5 rfl) ?_
  refine zr_put (ty := .int) hx hb hts zin_L zt_L zto_L znm_L hown hK hP (zC_D hQ _) hS (zCL_in (by omega)) (zCE_let ka cb (zs3 (zs3 (zs3 C 14 j 0 k0) 15 j 0 r0) 16 j 0 p0) A (j := j) (by omega)) rfl 3 (by decide) (zl_O_35 hts) rfl rfl (by decide +kernel) rfl rfl (Nat.le_of_ble_eq_true rfl) zd_O_send_41 (fun H locs hP hS => ?_)
  have hP : zCP D ka cb P (zs3 (zs3 (zs3 (zs3 C 14 j 0 k0) 15 j 0 r0) 16 j 0 p0) 17 j 0 d0) A H := zC_re (zCU_let3 ka cb (zs3 (zs3 (zs3 C 14 j 0 k0) 15 j 0 r0) 16 j 0 p0) A (j := j) (by omega) d0) hP
  refine lv_aload hx hb zd_O_send_44 (lv_at hl 0 rfl) ?_
  refine lv_iload hx hb zd_O_send_46 (lv_at hl 6 rfl) ?_
  refine zr_put (ty := .int) hx hb hts zin_L zt_L zto_L znm_L hown hK hP (zC_D hQ _) hS (zCL_in (by omega)) (zCE_let ka cb (zs3 (zs3 (zs3 (zs3 C 14 j 0 k0) 15 j 0 r0) 16 j 0 p0) 17 j 0 d0) A (j := j) (by omega)) rfl 4 (by decide) (zl_O_38 hts) rfl rfl (by decide +kernel) rfl rfl (Nat.le_of_ble_eq_true rfl) zd_O_send_48 (fun H locs hP hS => ?_)
  have hP : zCP D ka cb P (zs3 (zs3 (zs3 (zs3 (zs3 C 14 j 0 k0) 15 j 0 r0) 16 j 0 p0) 17 j 0 d0) 18 j 0 n0) A H := zC_re (zCU_let4 ka cb (zs3 (zs3 (zs3 (zs3 C 14 j 0 k0) 15 j 0 r0) 16 j 0 p0) 17 j 0 d0) A (j := j) (by omega) n0) hP
  refine lv_aload hx hb zd_O_send_51 (lv_at hl 0 rfl) ?_
  refine lv_aload hx hb zd_O_send_53 (lv_at hl 7 rfl) ?_
  refine zr_put (ty := (.object "SpanBoard$Pair")) hx hb hts zin_L zt_L zto_L znm_L hown hK hP (zC_D hQ _) hS (zCL_in (by omega)) (zCE_let ka cb (zs3 (zs3 (zs3 (zs3 (zs3 C 14 j 0 k0) 15 j 0 r0) 16 j 0 p0) 17 j 0 d0) 18 j 0 n0) A (j := j) (by omega)) rfl 5 (by decide) (zl_O_41 hts) rfl rfl (by decide +kernel) rfl rfl (Nat.le_of_ble_eq_true rfl) zd_O_send_55 (fun H locs hP hS => ?_)
  have hP : zCP D ka cb P (zs3 (zs3 (zs3 (zs3 (zs3 C 14 j 0 k0) 15 j 0 r0) 16 j 0 p0) 17 j 0 d0) 18 j 0 n0) (zs3 A 6 j 0 (some a)) H := zC_re (zCU_let5 ka cb (zs3 (zs3 (zs3 (zs3 (zs3 C 14 j 0 k0) 15 j 0 r0) 16 j 0 p0) 17 j 0 d0) 18 j 0 n0) A (j := j) (by omega) (some a)) hP
  refine lv_aload_n hx hb zd_O_send_58 rfl (lv_at hl 1 rfl) ?_
  refine lv_dup hx hb zd_O_send_59 rfl ?_
  refine zr_get hx hb hts zin_O hown hK hP (zCL_in (by omega)) (zCE_post ka cb (zs3 (zs3 (zs3 (zs3 (zs3 C 14 j 0 k0) 15 j 0 r0) 16 j 0 p0) 17 j 0 d0) 18 j 0 n0) (zs3 A 6 j 0 (some a))) rfl 1 (by decide) (zl_O_18 hts) rfl rfl zd_O_send_60 ?_
  refine lv_iconst (v := 1) hx hb zd_O_send_63 (by decide) ?_
  refine lv_iadd hx hb zd_O_send_64 ?_
  refine zr_put (ty := .int) hx hb hts zin_O zt_O zto_O znm_O hown hK hP (zC_D hQ _) hS (zCL_in (by omega)) (zCE_post ka cb (zs3 (zs3 (zs3 (zs3 (zs3 C 14 j 0 k0) 15 j 0 r0) 16 j 0 p0) 17 j 0 d0) 18 j 0 n0) (zs3 A 6 j 0 (some a))) rfl 1 (by decide) (zl_O_18 hts) rfl rfl (by decide +kernel) rfl rfl (Nat.le_of_ble_eq_true rfl) zd_O_send_65 (fun H locs hP hS => ?_)
  have hP : zCP D ka cb P (zs3 (zs3 (zs3 (zs3 (zs3 (zs3 C 14 j 0 k0) 15 j 0 r0) 16 j 0 p0) 17 j 0 d0) 18 j 0 n0) 13 0 0 ((C 13 0 0) + 1)) (zs3 A 6 j 0 (some a)) H := zC_re (zCU_post1 ka cb (zs3 (zs3 (zs3 (zs3 (zs3 C 14 j 0 k0) 15 j 0 r0) 16 j 0 p0) 17 j 0 d0) 18 j 0 n0) (zs3 A 6 j 0 (some a)) ((C 13 0 0) + 1)) hP
  exact zC_vret hx hb hr hlk hK hP hQ hz hS rfl rfl zd_O_send_68
set_option maxRecDepth 100000 in
set_option maxHeartbeats 4000000 in
theorem zc_m_O_sendn (l : Launch) (D : va_G) (ka : Nat → ClassId) (cb : Nat) (P : List Nat) (C : zC) (A : zA) (c0 j : Nat) (hc : C 13 0 0 = nI c0) (hc1 : c0 < 300) (hrow : A 5 0 c0 = some (cb + (42 + j))) (hj : j < 300) (k0 r0 p0 d0 n0 : Int32)  : Met l zy_O_send (.code zy_O_send zc_O_send 8 none :: zAll) ({ frames := 1, cells := 0, slots := 0, locals := 20 }) (va_Pc [.ref (cb + 40), .int k0, .int r0, .int p0, .int d0, .int n0, .null] (zCW D ka cb P C A)) (va_Qv (fun (_ : Unit) => True) (fun _ t => zCW D ka cb P (zs3 (zs3 (zs3 (zs3 (zs3 (zs3 C 14 j 0 k0) 15 j 0 r0) 16 j 0 p0) 17 j 0 d0) 18 j 0 n0) 13 0 0 (C 13 0 0 + 1)) (zs3 A 6 j 0 none) t) (zCA cb)) 0 0 (zCA cb) := by
  refine z_met (by decide) (Nat.le_of_ble_eq_true rfl) ?_
  intro pg e s m below meth c hx hb hml hr hts hown hlk hnm hB ls hl
  obtain ⟨hP, hQ, hz, hK⟩ := hB
  have hS : va_S (zCA cb) s.heap s.heap [] := va_S.rf
  have hl : lv_has ls 8 [(0, .ref (cb + 40)), (1, .int k0), (2, .int r0), (3, .int p0), (4, .int d0), (5, .int n0), (6, .null)] := hl
  refine lv_aload_n hx hb zd_O_send_0 rfl (lv_at hl 0 rfl) ?_
  refine zK_calls (nA := 0) (As := []) (rest := []) zCW_blind (zc_m_O_isFull l D ka cb P C A) (zg_O_isFull zk_O_22) (by decide) ⟨rfl, rfl⟩ ⟨Nat.le_of_ble_eq_true rfl, Nat.le_of_ble_eq_true rfl⟩ hx hb hml hts hown (zC_recv hK hP (zCL_in (by omega)) (zCE_post ka cb C A) rfl) (zC_U hK hP hQ hz hS) hl.1 rfl rfl (Nat.le_of_ble_eq_true rfl) ⟨Nat.zero_le _, Nat.zero_le _⟩ zd_O_send_1 ?_
  refine lv_if_eq (tgt := 8) hx hb zd_O_send_4 (by decide) (fun h4 => ?_) (fun h4 => absurd (show C 13 0 0 < 300 by rw [hc]; exact nI_lt (b := 300) hc1 (by decide)) (zb_1 h4))
  refine lv_aload_n hx hb zd_O_send_8 rfl (lv_at hl 0 rfl) ?_
  refine zr_get hx hb hts zin_O hown hK hP (zCL_in (by omega)) (zCE_post ka cb C A) rfl 0 (by decide) (zl_O_11 hts) rfl rfl zd_O_send_9 ?_
  refine lv_aload_n hx hb zd_O_send_12 rfl (lv_at hl 0 rfl) ?_
  refine zr_get hx hb hts zin_O hown hK hP (zCL_in (by omega)) (zCE_post ka cb C A) rfl 1 (by decide) (zl_O_18 hts) rfl rfl zd_O_send_13 ?_
  refine zr_aald (v := va_rf (A 5 0 c0)) hx hb hK hP (zCL_in (by omega)) 3 (zCE_row ka cb C A) rfl (j := c0) hc (show c0 < 300 from by omega) (by decide) rfl zd_O_send_16 ?_
  refine z_topr (v := .ref (cb + (42 + j))) (congrArg va_rf hrow) ?_
  refine lv_astore hx hb zd_O_send_17 hl (by decide) rfl (fun ls hl => ?_)
  have hl : lv_has ls 8 [(7, .ref (cb + (42 + j))), (0, .ref (cb + 40)), (1, .int k0), (2, .int r0), (3, .int p0), (4, .int d0), (5, .int n0), (6, .null)] := hl
  refine lv_aload hx hb zd_O_send_19 (lv_at hl 0 rfl) ?_
  refine lv_iload_n hx hb zd_O_send_21 rfl (lv_at hl 2 rfl) ?_
  refine zr_put (ty := .int) hx hb hts zin_L zt_L zto_L znm_L hown hK hP (zC_D hQ _) hS (zCL_in (by omega)) (zCE_let ka cb C A (j := j) (by omega)) rfl 0 (by decide) (zl_O_26 hts) rfl rfl (by decide +kernel) rfl rfl (Nat.le_of_ble_eq_true rfl) zd_O_send_22 (fun H locs hP hS => ?_)
  have hP : zCP D ka cb P (zs3 C 14 j 0 k0) A H := zC_re (zCU_let0 ka cb C A (j := j) (by omega) k0) hP
  refine lv_aload hx hb zd_O_send_25 (lv_at hl 0 rfl) ?_
  refine lv_iload_n hx hb zd_O_send_27 rfl (lv_at hl 3 rfl) ?_
  refine zr_put (ty := .int) hx hb hts zin_L zt_L zto_L znm_L hown hK hP (zC_D hQ _) hS (zCL_in (by omega)) (zCE_let ka cb (zs3 C 14 j 0 k0) A (j := j) (by omega)) rfl 1 (by decide) (zl_O_29 hts) rfl rfl (by decide +kernel) rfl rfl (Nat.le_of_ble_eq_true rfl) zd_O_send_28 (fun H locs hP hS => ?_)
  have hP : zCP D ka cb P (zs3 (zs3 C 14 j 0 k0) 15 j 0 r0) A H := zC_re (zCU_let1 ka cb (zs3 C 14 j 0 k0) A (j := j) (by omega) r0) hP
  refine lv_aload hx hb zd_O_send_31 (lv_at hl 0 rfl) ?_
  refine lv_iload_n hx hb zd_O_send_33 rfl (lv_at hl 4 rfl) ?_
  refine zr_put (ty := .int) hx hb hts zin_L zt_L zto_L znm_L hown hK hP (zC_D hQ _) hS (zCL_in (by omega)) (zCE_let ka cb (zs3 (zs3 C 14 j 0 k0) 15 j 0 r0) A (j := j) (by omega)) rfl 2 (by decide) (zl_O_32 hts) rfl rfl (by decide +kernel) rfl rfl (Nat.le_of_ble_eq_true rfl) zd_O_send_34 (fun H locs hP hS => ?_)
  have hP : zCP D ka cb P (zs3 (zs3 (zs3 C 14 j 0 k0) 15 j 0 r0) 16 j 0 p0) A H := zC_re (zCU_let2 ka cb (zs3 (zs3 C 14 j 0 k0) 15 j 0 r0) A (j := j) (by omega) p0) hP
  refine lv_aload hx hb zd_O_send_37 (lv_at hl 0 rfl) ?_
  refine lv_iload hx hb zd_O_send_39 (lv_at hl 5 rfl) ?_
  refine zr_put (ty := .int) hx hb hts zin_L zt_L zto_L znm_L hown hK hP (zC_D hQ _) hS (zCL_in (by omega)) (zCE_let ka cb (zs3 (zs3 (zs3 C 14 j 0 k0) 15 j 0 r0) 16 j 0 p0) A (j := j) (by omega)) rfl 3 (by decide) (zl_O_35 hts) rfl rfl (by decide +kernel) rfl rfl (Nat.le_of_ble_eq_true rfl) zd_O_send_41 (fun H locs hP hS => ?_)
  have hP : zCP D ka cb P (zs3 (zs3 (zs3 (zs3 C 14 j 0 k0) 15 j 0 r0) 16 j 0 p0) 17 j 0 d0) A H := zC_re (zCU_let3 ka cb (zs3 (zs3 (zs3 C 14 j 0 k0) 15 j 0 r0) 16 j 0 p0) A (j := j) (by omega) d0) hP
  refine lv_aload hx hb zd_O_send_44 (lv_at hl 0 rfl) ?_
  refine lv_iload hx hb zd_O_send_46 (lv_at hl 6 rfl) ?_
  refine zr_put (ty := .int) hx hb hts zin_L zt_L zto_L znm_L hown hK hP (zC_D hQ _) hS (zCL_in (by omega)) (zCE_let ka cb (zs3 (zs3 (zs3 (zs3 C 14 j 0 k0) 15 j 0 r0) 16 j 0 p0) 17 j 0 d0) A (j := j) (by omega)) rfl 4 (by decide) (zl_O_38 hts) rfl rfl (by decide +kernel) rfl rfl (Nat.le_of_ble_eq_true rfl) zd_O_send_48 (fun H locs hP hS => ?_)
  have hP : zCP D ka cb P (zs3 (zs3 (zs3 (zs3 (zs3 C 14 j 0 k0) 15 j 0 r0) 16 j 0 p0) 17 j 0 d0) 18 j 0 n0) A H := zC_re (zCU_let4 ka cb (zs3 (zs3 (zs3 (zs3 C 14 j 0 k0) 15 j 0 r0) 16 j 0 p0) 17 j 0 d0) A (j := j) (by omega) n0) hP
  refine lv_aload hx hb zd_O_send_51 (lv_at hl 0 rfl) ?_
  refine lv_aloadN hx hb zd_O_send_53 (lv_at hl 7 rfl) ?_
  refine zr_put (ty := (.object "SpanBoard$Pair")) hx hb hts zin_L zt_L zto_L znm_L hown hK hP (zC_D hQ _) hS (zCL_in (by omega)) (zCE_let ka cb (zs3 (zs3 (zs3 (zs3 (zs3 C 14 j 0 k0) 15 j 0 r0) 16 j 0 p0) 17 j 0 d0) 18 j 0 n0) A (j := j) (by omega)) rfl 5 (by decide) (zl_O_41 hts) rfl rfl (by decide +kernel) rfl rfl (Nat.le_of_ble_eq_true rfl) zd_O_send_55 (fun H locs hP hS => ?_)
  have hP : zCP D ka cb P (zs3 (zs3 (zs3 (zs3 (zs3 C 14 j 0 k0) 15 j 0 r0) 16 j 0 p0) 17 j 0 d0) 18 j 0 n0) (zs3 A 6 j 0 none) H := zC_re (zCU_let5 ka cb (zs3 (zs3 (zs3 (zs3 (zs3 C 14 j 0 k0) 15 j 0 r0) 16 j 0 p0) 17 j 0 d0) 18 j 0 n0) A (j := j) (by omega) none) hP
  refine lv_aload_n hx hb zd_O_send_58 rfl (lv_at hl 1 rfl) ?_
  refine lv_dup hx hb zd_O_send_59 rfl ?_
  refine zr_get hx hb hts zin_O hown hK hP (zCL_in (by omega)) (zCE_post ka cb (zs3 (zs3 (zs3 (zs3 (zs3 C 14 j 0 k0) 15 j 0 r0) 16 j 0 p0) 17 j 0 d0) 18 j 0 n0) (zs3 A 6 j 0 none)) rfl 1 (by decide) (zl_O_18 hts) rfl rfl zd_O_send_60 ?_
  refine lv_iconst (v := 1) hx hb zd_O_send_63 (by decide) ?_
  refine lv_iadd hx hb zd_O_send_64 ?_
  refine zr_put (ty := .int) hx hb hts zin_O zt_O zto_O znm_O hown hK hP (zC_D hQ _) hS (zCL_in (by omega)) (zCE_post ka cb (zs3 (zs3 (zs3 (zs3 (zs3 C 14 j 0 k0) 15 j 0 r0) 16 j 0 p0) 17 j 0 d0) 18 j 0 n0) (zs3 A 6 j 0 none)) rfl 1 (by decide) (zl_O_18 hts) rfl rfl (by decide +kernel) rfl rfl (Nat.le_of_ble_eq_true rfl) zd_O_send_65 (fun H locs hP hS => ?_)
  have hP : zCP D ka cb P (zs3 (zs3 (zs3 (zs3 (zs3 (zs3 C 14 j 0 k0) 15 j 0 r0) 16 j 0 p0) 17 j 0 d0) 18 j 0 n0) 13 0 0 ((C 13 0 0) + 1)) (zs3 A 6 j 0 none) H := zC_re (zCU_post1 ka cb (zs3 (zs3 (zs3 (zs3 (zs3 C 14 j 0 k0) 15 j 0 r0) 16 j 0 p0) 17 j 0 d0) 18 j 0 n0) (zs3 A 6 j 0 none) ((C 13 0 0) + 1)) hP
  exact zC_vret hx hb hr hlk hK hP hQ hz hS rfl rfl zd_O_send_68
set_option maxRecDepth 100000 in
set_option maxHeartbeats 4000000 in
theorem zc_m_O_sendfs (l : Launch) (D : va_G) (ka : Nat → ClassId) (cb : Nat) (P : List Nat) (C : zC) (A : zA) (hc : C 13 0 0 = 300) (k0 r0 p0 d0 n0 : Int32) (a : Nat) : Met l zy_O_send (.code zy_O_send zc_O_send 8 none :: zAll) ({ frames := 1, cells := 0, slots := 0, locals := 20 }) (va_Pc [.ref (cb + 40), .int k0, .int r0, .int p0, .int d0, .int n0, .ref a] (zCW D ka cb P C A)) (va_Qv (fun (_ : Unit) => True) (fun _ t => zCW D ka cb P C A t) (zCA cb)) 0 0 (zCA cb) := by
  refine z_met (by decide) (Nat.le_of_ble_eq_true rfl) ?_
  intro pg e s m below meth c hx hb hml hr hts hown hlk hnm hB ls hl
  obtain ⟨hP, hQ, hz, hK⟩ := hB
  have hS : va_S (zCA cb) s.heap s.heap [] := va_S.rf
  have hl : lv_has ls 8 [(0, .ref (cb + 40)), (1, .int k0), (2, .int r0), (3, .int p0), (4, .int d0), (5, .int n0), (6, .ref a)] := hl
  refine lv_aload_n hx hb zd_O_send_0 rfl (lv_at hl 0 rfl) ?_
  refine zK_calls (nA := 0) (As := []) (rest := []) zCW_blind (zc_m_O_isFull l D ka cb P C A) (zg_O_isFull zk_O_22) (by decide) ⟨rfl, rfl⟩ ⟨Nat.le_of_ble_eq_true rfl, Nat.le_of_ble_eq_true rfl⟩ hx hb hml hts hown (zC_recv hK hP (zCL_in (by omega)) (zCE_post ka cb C A) rfl) (zC_U hK hP hQ hz hS) hl.1 rfl rfl (Nat.le_of_ble_eq_true rfl) ⟨Nat.zero_le _, Nat.zero_le _⟩ zd_O_send_1 ?_
  refine lv_if_eq (tgt := 8) hx hb zd_O_send_4 (by decide) (fun h4 => absurd (show ¬ C 13 0 0 < 300 by rw [hc]; decide) (zb_0 h4)) (fun h4 => ?_)
  exact zC_vret hx hb hr hlk hK hP hQ hz hS rfl rfl zd_O_send_7
set_option maxRecDepth 100000 in
set_option maxHeartbeats 4000000 in
theorem zc_m_O_sendfn (l : Launch) (D : va_G) (ka : Nat → ClassId) (cb : Nat) (P : List Nat) (C : zC) (A : zA) (hc : C 13 0 0 = 300) (k0 r0 p0 d0 n0 : Int32)  : Met l zy_O_send (.code zy_O_send zc_O_send 8 none :: zAll) ({ frames := 1, cells := 0, slots := 0, locals := 20 }) (va_Pc [.ref (cb + 40), .int k0, .int r0, .int p0, .int d0, .int n0, .null] (zCW D ka cb P C A)) (va_Qv (fun (_ : Unit) => True) (fun _ t => zCW D ka cb P C A t) (zCA cb)) 0 0 (zCA cb) := by
  refine z_met (by decide) (Nat.le_of_ble_eq_true rfl) ?_
  intro pg e s m below meth c hx hb hml hr hts hown hlk hnm hB ls hl
  obtain ⟨hP, hQ, hz, hK⟩ := hB
  have hS : va_S (zCA cb) s.heap s.heap [] := va_S.rf
  have hl : lv_has ls 8 [(0, .ref (cb + 40)), (1, .int k0), (2, .int r0), (3, .int p0), (4, .int d0), (5, .int n0), (6, .null)] := hl
  refine lv_aload_n hx hb zd_O_send_0 rfl (lv_at hl 0 rfl) ?_
  refine zK_calls (nA := 0) (As := []) (rest := []) zCW_blind (zc_m_O_isFull l D ka cb P C A) (zg_O_isFull zk_O_22) (by decide) ⟨rfl, rfl⟩ ⟨Nat.le_of_ble_eq_true rfl, Nat.le_of_ble_eq_true rfl⟩ hx hb hml hts hown (zC_recv hK hP (zCL_in (by omega)) (zCE_post ka cb C A) rfl) (zC_U hK hP hQ hz hS) hl.1 rfl rfl (Nat.le_of_ble_eq_true rfl) ⟨Nat.zero_le _, Nat.zero_le _⟩ zd_O_send_1 ?_
  refine lv_if_eq (tgt := 8) hx hb zd_O_send_4 (by decide) (fun h4 => absurd (show ¬ C 13 0 0 < 300 by rw [hc]; decide) (zb_0 h4)) (fun h4 => ?_)
  exact zC_vret hx hb hr hlk hK hP hQ hz hS rfl rfl zd_O_send_7
set_option maxRecDepth 100000 in
set_option maxHeartbeats 4000000 in
theorem zc_m_R_heeds (l : Launch) (D : va_G) (ka : Nat → ClassId) (cb : Nat) (P : List Nat) (C : zC) (A : zA) (r : Nat) (hr0 : r < 9) : Met l zy_R_heeds (.code zy_R_heeds zc_R_heeds 1 (some .boolean) :: zAll) ({ frames := 0, cells := 0, slots := 0, locals := 0 }) (va_Pc [.ref (cb + (3 + 2 * r))] (zCW D ka cb P C A)) (vp_Si (fun rr => rr = (zb (¬ C 1 r 0 = 0 ∧ C 2 r 0 = 0)))) 0 0 (fun _ => False) := by
  refine z_met (by decide) (Nat.le_of_ble_eq_true rfl) ?_
  intro pg e s m below meth c hx hb hml hr hts hown hlk hnm hB ls hl
  obtain ⟨hP, hQ, hz, hK⟩ := hB
  have hS : va_S (zCA cb) s.heap s.heap [] := va_S.rf
  have hl : lv_has ls 1 [(0, .ref (cb + (3 + 2 * r)))] := hl
  refine lv_aload_n hx hb zd_R_heeds_0 rfl (lv_at hl 0 rfl) ?_
  refine zr_get hx hb hts zin_R hown hK hP (zCL_in (by omega)) (zCE_rec ka cb C A (r := r) (by omega)) rfl 1 (by decide) (zl_R_17 hts) rfl rfl zd_R_heeds_1 ?_
  refine lv_if_eq (tgt := 18) hx hb zd_R_heeds_4 (by decide) (fun h4 => ?_) (fun h4 => ?_)
  · refine lv_iconst (v := 0) hx hb zd_R_heeds_18 (by decide) ?_
    exact zS_zret hx hb hr hlk rfl rfl rfl (by simp [zb, h4]) zd_R_heeds_19
  · refine lv_aload_n hx hb zd_R_heeds_7 rfl (lv_at hl 0 rfl) ?_
    refine zr_get hx hb hts zin_R hown hK hP (zCL_in (by omega)) (zCE_rec ka cb C A (r := r) (by omega)) rfl 2 (by decide) (zl_R_21 hts) rfl rfl zd_R_heeds_8 ?_
    refine lv_if_ne (tgt := 18) hx hb zd_R_heeds_11 (by decide) (fun h11 => ?_) (fun h11 => ?_)
    · refine lv_iconst (v := 0) hx hb zd_R_heeds_18 (by decide) ?_
      exact zS_zret hx hb hr hlk rfl rfl rfl (by simp [zb, h4, h11]) zd_R_heeds_19
    · refine lv_iconst (v := 1) hx hb zd_R_heeds_14 (by decide) ?_
      refine lv_goto (tgt := 19) hx hb zd_R_heeds_15 (by decide) ?_
      exact zS_zret hx hb hr hlk rfl rfl rfl (by simp [zb, h4, h11]) zd_R_heeds_19
set_option maxRecDepth 100000 in
set_option maxHeartbeats 4000000 in
theorem zc_m_W_clearReceipts (l : Launch) (D : va_G) (ka : Nat → ClassId) (cb : Nat) (P : List Nat) (C : zC) (A : zA) (p : Nat) (hp : p < 4) : Met l zy_W_clearReceipts (.code zy_W_clearReceipts zc_W_clearReceipts 2 none :: zAll) ({ frames := 0, cells := 0, slots := 0, locals := 0 }) (va_Pc [.ref (cb + (22 + 2 * p))] (zCW D ka cb P C A)) (va_Qv (fun (_ : Unit) => True) (fun _ t => zCW D ka cb P (zs3 (zclr C p 9) 4 p 0 0) A t) (zCA cb)) 0 0 (zCA cb) := by
  refine z_met (by decide) (Nat.le_of_ble_eq_true rfl) ?_
  intro pg e s m below meth c hx hb hml hr hts hown hlk hnm hB ls hl
  obtain ⟨hP, hQ, hz, hK⟩ := hB
  have hS : va_S (zCA cb) s.heap s.heap [] := va_S.rf
  have hl : lv_has ls 2 [(0, .ref (cb + (22 + 2 * p)))] := hl
  refine lv_iconst (v := 0) hx hb zd_W_clearReceipts_0 (by decide) ?_
  refine lv_istore_n hx hb zd_W_clearReceipts_1 rfl hl (by decide) rfl (fun ls hl => ?_)
  have hl : lv_has ls 2 [(1, .int 0), (0, .ref (cb + (22 + 2 * p)))] := hl
  have L2 : ∀ (j k : Nat), k + j = 9 → ∀ (H : Heap) (locs : List Loc) (ls : Array Slot), lv_has ls 2 [(0, .ref (cb + (22 + 2 * p))), (1, .int (nI k))] → zCP D ka cb P (zclr C p k) A H → va_S (zCA cb) s.heap H locs → W pg l e ({ frames := 0, cells := 0, slots := 0, locals := 0 }) s m (List.toArray [.ref (cb + (22 + 2 * p))]) below meth c H locs 0 0 (MQ below (va_Qv (fun (_ : Unit) => True) (fun _ t => zCW D ka cb P (zs3 (zclr C p 9) 4 p 0 0) A t) (zCA cb)) (List.toArray [.ref (cb + (22 + 2 * p))]) s 0 0 (zCA cb)) (F0 m 2 ls []) := by
    intro j
    induction j with
    | zero =>
      intro k hk H locs ls hl hP hS
      have hk : k = 9 := by omega
      subst hk
      refine lv_iload_n hx hb zd_W_clearReceipts_2 rfl (lv_at hl 1 rfl) ?_
      refine lv_bipush (v := 9) hx hb zd_W_clearReceipts_3 (by decide) ?_
      refine lv_icmp_ge (tgt := 21) hx hb zd_W_clearReceipts_5 (by decide) (fun h5 => ?_) (fun h5 => absurd (by decide) h5)
      refine lv_aload_n hx hb zd_W_clearReceipts_21 rfl (lv_at hl 0 rfl) ?_
      refine lv_iconst (v := 0) hx hb zd_W_clearReceipts_22 (by decide) ?_
      refine zr_put (ty := .int) hx hb hts zin_W zt_W zto_W znm_W hown hK hP (zC_D hQ _) hS (zCL_in (by omega)) (zCE_wri ka cb (zclr C p 9) A (p := p) (by omega)) rfl 1 (by decide) (zl_W_35 hts) rfl rfl (by decide +kernel) rfl rfl (Nat.le_of_ble_eq_true rfl) zd_W_clearReceipts_23 (fun H locs hP hS => ?_)
      have hP : zCP D ka cb P (zs3 (zclr C p 9) 4 p 0 0) A H := zC_re (zCU_wri1 ka cb (zclr C p 9) A (p := p) (by omega) 0) hP
      exact zC_vret hx hb hr hlk hK hP hQ hz hS rfl rfl zd_W_clearReceipts_26
    | succ j ih =>
      intro k hk H locs ls hl hP hS
      refine lv_iload_n hx hb zd_W_clearReceipts_2 rfl (lv_at hl 1 rfl) ?_
      refine lv_bipush (v := 9) hx hb zd_W_clearReceipts_3 (by decide) ?_
      refine lv_icmp_ge (tgt := 21) hx hb zd_W_clearReceipts_5 (by decide) (fun h5 => absurd h5 (nI_ge (b := 9) (by omega) (by decide))) (fun h5 => ?_)
      refine lv_aload_n hx hb zd_W_clearReceipts_8 rfl (lv_at hl 0 rfl) ?_
      refine zr_get hx hb hts zin_W hown hK hP (zCL_in (by omega)) (zCE_wri ka cb (zclr C p k) A (p := p) (by omega)) rfl 0 (by decide) (zl_W_9 hts) rfl rfl zd_W_clearReceipts_9 ?_
      refine lv_iload_n hx hb zd_W_clearReceipts_12 rfl (lv_at hl 1 rfl) ?_
      refine lv_iconst (v := 0) hx hb zd_W_clearReceipts_13 (by decide) ?_
      refine zr_zast hx hb hK hP (zC_D hQ _) hS (zCL_in (by omega)) 1 (zCE_wrc ka cb (zclr C p k) A (p := p) (by omega)) rfl (j := k) rfl (show k < 9 from by omega) (by decide) (by decide) zd_W_clearReceipts_14 (fun H locs hP hS => ?_)
      have hP : zCP D ka cb P (zs3 (zclr C p k) 3 p k 0) A H := zC_re (zCU_wrc ka cb (zclr C p k) A (p := p) (by omega) k 0) hP
      refine lv_iinc (v := nI (k + 1)) (k := 1) hx hb zd_W_clearReceipts_15 hl rfl (nI_1 _) (by decide) rfl (fun ls hl => ?_)
      have hl : lv_has ls 2 [(1, .int (nI (k + 1))), (0, .ref (cb + (22 + 2 * p)))] := hl
      refine lv_goto (tgt := 2) hx hb zd_W_clearReceipts_18 (by decide) ?_
      exact ih (k + 1) (by omega) H locs ls (lv_sub hl [1, 0] rfl) hP hS
  exact L2 9 0 (by omega) _ _ _ (lv_sub hl [1, 0] rfl) hP hS
set_option maxRecDepth 100000 in
set_option maxHeartbeats 4000000 in
theorem zc_m_W_hear (l : Launch) (D : va_G) (ka : Nat → ClassId) (cb : Nat) (P : List Nat) (C : zC) (A : zA) (p r a : Nat) (hp : p < 4) (hr0 : r < 9) (hla : A 1 p 0 = some a) (ha : zPa cb P a) (n0 : Int32) : Met l zy_W_hear (.code zy_W_hear zc_W_hear 3 none :: zAll) ({ frames := 0, cells := 0, slots := 0, locals := 0 }) (va_Pc [.ref (cb + (22 + 2 * p)), .int (nI r), .int n0] (zCW D ka cb P C A)) (va_Qv (fun (_ : Unit) => True) (fun _ t => zCW D ka cb P (zhearC C p r a n0) A t) (zCA cb)) 0 0 (zCA cb) := by
  refine z_met (by decide) (Nat.le_of_ble_eq_true rfl) ?_
  intro pg e s m below meth c hx hb hml hr hts hown hlk hnm hB ls hl
  obtain ⟨hP, hQ, hz, hK⟩ := hB
  have hS : va_S (zCA cb) s.heap s.heap [] := va_S.rf
  have hl : lv_has ls 3 [(0, .ref (cb + (22 + 2 * p))), (1, .int (nI r)), (2, .int n0)] := hl
  refine lv_aload_n hx hb zd_W_hear_0 rfl (lv_at hl 0 rfl) ?_
  refine zr_get hx hb hts zin_W hown hK hP (zCL_in (by omega)) (zCE_wri ka cb C A (p := p) (by omega)) rfl 3 (by decide) (zl_W_28 hts) rfl rfl zd_W_hear_1 ?_
  refine lv_if_eq (tgt := 27) hx hb zd_W_hear_4 (by decide) (fun h4 => ?_) (fun h4 => ?_)
  · exact zC_vret hx hb hr hlk hK hP hQ hz hS (by simp [zhearC, h4]) rfl zd_W_hear_27
  · refine lv_iload_n hx hb zd_W_hear_7 rfl (lv_at hl 2 rfl) ?_
    refine lv_aload_n hx hb zd_W_hear_8 rfl (lv_at hl 0 rfl) ?_
    refine zr_get hx hb hts zin_W hown hK hP (zCL_in (by omega)) (zCE_wri ka cb C A (p := p) (by omega)) rfl 2 (by decide) (zl_W_15 hts) rfl rfl zd_W_hear_9 ?_
    refine z_topr (v := .ref a) (congrArg va_rf hla) ?_
    refine zr_get hx hb hts zin_P hown hK hP (zCL_p ha) (zCE_pair ka cb C A (zP_adr hQ ha)) rfl 0 (by decide) (zl_W_21 hts) rfl rfl zd_W_hear_12 ?_
    refine lv_icmp_ne (tgt := 27) hx hb zd_W_hear_15 (by decide) (fun h15 => ?_) (fun h15 => ?_)
    · exact zC_vret hx hb hr hlk hK hP hQ hz hS (by simp [zhearC, h4, h15]) rfl zd_W_hear_27
    · refine lv_aload_n hx hb zd_W_hear_18 rfl (lv_at hl 0 rfl) ?_
      refine zr_get hx hb hts zin_W hown hK hP (zCL_in (by omega)) (zCE_wri ka cb C A (p := p) (by omega)) rfl 0 (by decide) (zl_W_9 hts) rfl rfl zd_W_hear_19 ?_
      refine lv_iload_n hx hb zd_W_hear_22 rfl (lv_at hl 1 rfl) ?_
      refine zr_zald hx hb hK hP (zCL_in (by omega)) 1 (zCE_wrc ka cb C A (p := p) (by omega)) rfl (j := r) rfl (show r < 9 from by omega) (by decide) zd_W_hear_23 ?_
      refine lv_if_eq (tgt := 28) hx hb zd_W_hear_24 (by decide) (fun h24 => ?_) (fun h24 => ?_)
      · refine lv_aload_n hx hb zd_W_hear_28 rfl (lv_at hl 0 rfl) ?_
        refine zr_get hx hb hts zin_W hown hK hP (zCL_in (by omega)) (zCE_wri ka cb C A (p := p) (by omega)) rfl 0 (by decide) (zl_W_9 hts) rfl rfl zd_W_hear_29 ?_
        refine lv_iload_n hx hb zd_W_hear_32 rfl (lv_at hl 1 rfl) ?_
        refine lv_iconst (v := 1) hx hb zd_W_hear_33 (by decide) ?_
        refine zr_zast hx hb hK hP (zC_D hQ _) hS (zCL_in (by omega)) 1 (zCE_wrc ka cb C A (p := p) (by omega)) rfl (j := r) rfl (show r < 9 from by omega) (by decide) (by decide) zd_W_hear_34 (fun H locs hP hS => ?_)
        have hP : zCP D ka cb P (zs3 C 3 p r 1) A H := zC_re (zCU_wrc ka cb C A (p := p) (by omega) r 1) hP
        refine lv_aload_n hx hb zd_W_hear_35 rfl (lv_at hl 0 rfl) ?_
        refine lv_dup hx hb zd_W_hear_36 rfl ?_
        refine zr_get hx hb hts zin_W hown hK hP (zCL_in (by omega)) (zCE_wri ka cb (zs3 C 3 p r 1) A (p := p) (by omega)) rfl 1 (by decide) (zl_W_35 hts) rfl rfl zd_W_hear_37 ?_
        refine lv_iconst (v := 1) hx hb zd_W_hear_40 (by decide) ?_
        refine lv_iadd hx hb zd_W_hear_41 ?_
        refine zr_put (ty := .int) hx hb hts zin_W zt_W zto_W znm_W hown hK hP (zC_D hQ _) hS (zCL_in (by omega)) (zCE_wri ka cb (zs3 C 3 p r 1) A (p := p) (by omega)) rfl 1 (by decide) (zl_W_35 hts) rfl rfl (by decide +kernel) rfl rfl (Nat.le_of_ble_eq_true rfl) zd_W_hear_42 (fun H locs hP hS => ?_)
        have hP : zCP D ka cb P (zs3 (zs3 C 3 p r 1) 4 p 0 ((C 4 p 0) + 1)) A H := zC_re (zCU_wri1 ka cb (zs3 C 3 p r 1) A (p := p) (by omega) ((C 4 p 0) + 1)) hP
        refine lv_aload_n hx hb zd_W_hear_45 rfl (lv_at hl 0 rfl) ?_
        refine zr_get hx hb hts zin_W hown hK hP (zCL_in (by omega)) (zCE_wri ka cb (zs3 (zs3 C 3 p r 1) 4 p 0 ((C 4 p 0) + 1)) A (p := p) (by omega)) rfl 1 (by decide) (zl_W_35 hts) rfl rfl zd_W_hear_46 ?_
        refine lv_bipush (v := 7) hx hb zd_W_hear_49 (by decide) ?_
        refine lv_icmp_lt (tgt := 64) hx hb zd_W_hear_51 (by decide) (fun h51 => ?_) (fun h51 => ?_)
        · rw [zs3_s] at h51
          exact zC_vret hx hb hr hlk hK hP hQ hz hS (by simp [zhearC, h4, h15, h24, h51]) rfl zd_W_hear_64
        · rw [zs3_s] at h51
          refine lv_aload_n hx hb zd_W_hear_54 rfl (lv_at hl 0 rfl) ?_
          refine lv_iconst (v := 0) hx hb zd_W_hear_55 (by decide) ?_
          refine zr_put (ty := .boolean) hx hb hts zin_W zt_W zto_W znm_W hown hK hP (zC_D hQ _) hS (zCL_in (by omega)) (zCE_wri ka cb (zs3 (zs3 C 3 p r 1) 4 p 0 ((C 4 p 0) + 1)) A (p := p) (by omega)) rfl 3 (by decide) (zl_W_28 hts) rfl rfl (by decide +kernel) rfl rfl (Nat.le_of_ble_eq_true rfl) zd_W_hear_56 (fun H locs hP hS => ?_)
          have hP : zCP D ka cb P (zs3 (zs3 (zs3 C 3 p r 1) 4 p 0 ((C 4 p 0) + 1)) 5 p 0 0) A H := zC_re (zCU_wri3 ka cb (zs3 (zs3 C 3 p r 1) 4 p 0 ((C 4 p 0) + 1)) A (p := p) (by omega) 0) hP
          refine lv_aload_n hx hb zd_W_hear_59 rfl (lv_at hl 0 rfl) ?_
          refine lv_iload_n hx hb zd_W_hear_60 rfl (lv_at hl 2 rfl) ?_
          refine zr_put (ty := .int) hx hb hts zin_W zt_W zto_W znm_W hown hK hP (zC_D hQ _) hS (zCL_in (by omega)) (zCE_wri ka cb (zs3 (zs3 (zs3 C 3 p r 1) 4 p 0 ((C 4 p 0) + 1)) 5 p 0 0) A (p := p) (by omega)) rfl 4 (by decide) (zl_W_38 hts) rfl rfl (by decide +kernel) rfl rfl (Nat.le_of_ble_eq_true rfl) zd_W_hear_61 (fun H locs hP hS => ?_)
          have hP : zCP D ka cb P (zs3 (zs3 (zs3 (zs3 C 3 p r 1) 4 p 0 ((C 4 p 0) + 1)) 5 p 0 0) 6 p 0 n0) A H := zC_re (zCU_wri4 ka cb (zs3 (zs3 (zs3 C 3 p r 1) 4 p 0 ((C 4 p 0) + 1)) 5 p 0 0) A (p := p) (by omega) n0) hP
          exact zC_vret hx hb hr hlk hK hP hQ hz hS (by simp [zhearC, h4, h15, h24, h51]) rfl zd_W_hear_64
      · exact zC_vret hx hb hr hlk hK hP hQ hz hS (by simp [zhearC, h4, h15, h24]) rfl zd_W_hear_27
set_option maxRecDepth 100000 in
set_option maxHeartbeats 4000000 in
theorem zc_m_D_isReading (l : Launch) (D : va_G) (ka : Nat → ClassId) (cb : Nat) (P : List Nat) (C : zC) (A : zA) (d : Nat) (hd : d < 3) : Met l zy_D_isReading (.code zy_D_isReading zc_D_isReading 1 (some .boolean) :: zAll) ({ frames := 0, cells := 0, slots := 0, locals := 0 }) (va_Pc [.ref (cb + (31 + 3 * d))] (zCW D ka cb P C A)) (vp_Si (fun rr => rr = (zb (C 8 d 0 = 1)))) 0 0 (fun _ => False) := by
  refine z_met (by decide) (Nat.le_of_ble_eq_true rfl) ?_
  intro pg e s m below meth c hx hb hml hr hts hown hlk hnm hB ls hl
  obtain ⟨hP, hQ, hz, hK⟩ := hB
  have hS : va_S (zCA cb) s.heap s.heap [] := va_S.rf
  have hl : lv_has ls 1 [(0, .ref (cb + (31 + 3 * d)))] := hl
  refine lv_aload_n hx hb zd_D_isReading_0 rfl (lv_at hl 0 rfl) ?_
  refine zr_get hx hb hts zin_D hown hK hP (zCL_in (by omega)) (zCE_rea ka cb C A (d := d) (by omega)) rfl 3 (by decide) (zl_D_20 hts) rfl rfl zd_D_isReading_1 ?_
  refine lv_iconst (v := 1) hx hb zd_D_isReading_4 (by decide) ?_
  refine lv_icmp_ne (tgt := 12) hx hb zd_D_isReading_5 (by decide) (fun h5 => ?_) (fun h5 => ?_)
  · refine lv_iconst (v := 0) hx hb zd_D_isReading_12 (by decide) ?_
    exact zS_zret hx hb hr hlk rfl rfl rfl (by simp [zb, h5]) zd_D_isReading_13
  · refine lv_iconst (v := 1) hx hb zd_D_isReading_8 (by decide) ?_
    refine lv_goto (tgt := 13) hx hb zd_D_isReading_9 (by decide) ?_
    exact zS_zret hx hb hr hlk rfl rfl rfl (by simp [zb, h5]) zd_D_isReading_13
set_option maxRecDepth 100000 in
set_option maxHeartbeats 4000000 in
theorem zc_m_D_beginRound (l : Launch) (D : va_G) (ka : Nat → ClassId) (cb : Nat) (P : List Nat) (C : zC) (A : zA) (d : Nat) (hd : d < 3) (x0 : Int32) : Met l zy_D_beginRound (.code zy_D_beginRound zc_D_beginRound 3 none :: zAll) ({ frames := 0, cells := 0, slots := 0, locals := 0 }) (va_Pc [.ref (cb + (31 + 3 * d)), .int x0] (zCW D ka cb P C A)) (va_Qv (fun (_ : Unit) => True) (fun _ t => zCW D ka cb P (zroundC C d x0) (ztc A d 9) t) (zCA cb)) 0 0 (zCA cb) := by
  refine z_met (by decide) (Nat.le_of_ble_eq_true rfl) ?_
  intro pg e s m below meth c hx hb hml hr hts hown hlk hnm hB ls hl
  obtain ⟨hP, hQ, hz, hK⟩ := hB
  have hS : va_S (zCA cb) s.heap s.heap [] := va_S.rf
  have hl : lv_has ls 3 [(0, .ref (cb + (31 + 3 * d))), (1, .int x0)] := hl
  refine lv_aload_n hx hb zd_D_beginRound_0 rfl (lv_at hl 0 rfl) ?_
  refine lv_iload_n hx hb zd_D_beginRound_1 rfl (lv_at hl 1 rfl) ?_
  refine zr_put (ty := .int) hx hb hts zin_D zt_D zto_D znm_D hown hK hP (zC_D hQ _) hS (zCL_in (by omega)) (zCE_rea ka cb C A (d := d) (by omega)) rfl 5 (by decide) (zl_D_31 hts) rfl rfl (by decide +kernel) rfl rfl (Nat.le_of_ble_eq_true rfl) zd_D_beginRound_2 (fun H locs hP hS => ?_)
  have hP : zCP D ka cb P (zs3 C 10 d 0 x0) A H := zC_re (zCU_rea5 ka cb C A (d := d) (by omega) x0) hP
  refine lv_aload_n hx hb zd_D_beginRound_5 rfl (lv_at hl 0 rfl) ?_
  refine lv_dup hx hb zd_D_beginRound_6 rfl ?_
  refine zr_get hx hb hts zin_D hown hK hP (zCL_in (by omega)) (zCE_rea ka cb (zs3 C 10 d 0 x0) A (d := d) (by omega)) rfl 4 (by decide) (zl_D_34 hts) rfl rfl zd_D_beginRound_7 ?_
  refine lv_iconst (v := 1) hx hb zd_D_beginRound_10 (by decide) ?_
  refine lv_iadd hx hb zd_D_beginRound_11 ?_
  refine zr_put (ty := .int) hx hb hts zin_D zt_D zto_D znm_D hown hK hP (zC_D hQ _) hS (zCL_in (by omega)) (zCE_rea ka cb (zs3 C 10 d 0 x0) A (d := d) (by omega)) rfl 4 (by decide) (zl_D_34 hts) rfl rfl (by decide +kernel) rfl rfl (Nat.le_of_ble_eq_true rfl) zd_D_beginRound_12 (fun H locs hP hS => ?_)
  have hP : zCP D ka cb P (zs3 (zs3 C 10 d 0 x0) 9 d 0 ((C 9 d 0) + 1)) A H := zC_re (zCU_rea4 ka cb (zs3 C 10 d 0 x0) A (d := d) (by omega) ((C 9 d 0) + 1)) hP
  refine lv_aload_n hx hb zd_D_beginRound_15 rfl (lv_at hl 0 rfl) ?_
  refine lv_iconst (v := 0) hx hb zd_D_beginRound_16 (by decide) ?_
  refine zr_put (ty := .int) hx hb hts zin_D zt_D zto_D znm_D hown hK hP (zC_D hQ _) hS (zCL_in (by omega)) (zCE_rea ka cb (zs3 (zs3 C 10 d 0 x0) 9 d 0 ((C 9 d 0) + 1)) A (d := d) (by omega)) rfl 2 (by decide) (zl_D_37 hts) rfl rfl (by decide +kernel) rfl rfl (Nat.le_of_ble_eq_true rfl) zd_D_beginRound_17 (fun H locs hP hS => ?_)
  have hP : zCP D ka cb P (zs3 (zs3 (zs3 C 10 d 0 x0) 9 d 0 ((C 9 d 0) + 1)) 7 d 0 0) A H := zC_re (zCU_rea2 ka cb (zs3 (zs3 C 10 d 0 x0) 9 d 0 ((C 9 d 0) + 1)) A (d := d) (by omega) 0) hP
  refine lv_iconst (v := 0) hx hb zd_D_beginRound_20 (by decide) ?_
  refine lv_istore_n hx hb zd_D_beginRound_21 rfl hl (by decide) rfl (fun ls hl => ?_)
  have hl : lv_has ls 3 [(2, .int 0), (0, .ref (cb + (31 + 3 * d))), (1, .int x0)] := hl
  have L22 : ∀ (j k : Nat), k + j = 9 → ∀ (H : Heap) (locs : List Loc) (ls : Array Slot), lv_has ls 3 [(0, .ref (cb + (31 + 3 * d))), (1, .int x0), (2, .int (nI k))] → zCP D ka cb P (zroundC C d x0) (ztc A d k) H → va_S (zCA cb) s.heap H locs → W pg l e ({ frames := 0, cells := 0, slots := 0, locals := 0 }) s m (List.toArray [.ref (cb + (31 + 3 * d)), .int x0]) below meth c H locs 0 0 (MQ below (va_Qv (fun (_ : Unit) => True) (fun _ t => zCW D ka cb P (zroundC C d x0) (ztc A d 9) t) (zCA cb)) (List.toArray [.ref (cb + (31 + 3 * d)), .int x0]) s 0 0 (zCA cb)) (F0 m 22 ls []) := by
    intro j
    induction j with
    | zero =>
      intro k hk H locs ls hl hP hS
      have hk : k = 9 := by omega
      subst hk
      refine lv_iload_n hx hb zd_D_beginRound_22 rfl (lv_at hl 2 rfl) ?_
      refine lv_bipush (v := 9) hx hb zd_D_beginRound_23 (by decide) ?_
      refine lv_icmp_ge (tgt := 41) hx hb zd_D_beginRound_25 (by decide) (fun h25 => ?_) (fun h25 => absurd (by decide) h25)
      exact zC_vret hx hb hr hlk hK hP hQ hz hS rfl rfl zd_D_beginRound_41
    | succ j ih =>
      intro k hk H locs ls hl hP hS
      refine lv_iload_n hx hb zd_D_beginRound_22 rfl (lv_at hl 2 rfl) ?_
      refine lv_bipush (v := 9) hx hb zd_D_beginRound_23 (by decide) ?_
      refine lv_icmp_ge (tgt := 41) hx hb zd_D_beginRound_25 (by decide) (fun h25 => absurd h25 (nI_ge (b := 9) (by omega) (by decide))) (fun h25 => ?_)
      refine lv_aload_n hx hb zd_D_beginRound_28 rfl (lv_at hl 0 rfl) ?_
      refine zr_get hx hb hts zin_D hown hK hP (zCL_in (by omega)) (zCE_rea ka cb (zroundC C d x0) (ztc A d k) (d := d) (by omega)) rfl 0 (by decide) (zl_D_11 hts) rfl rfl zd_D_beginRound_29 ?_
      refine lv_iload_n hx hb zd_D_beginRound_32 rfl (lv_at hl 2 rfl) ?_
      refine lv_null hx hb zd_D_beginRound_33 ?_
      refine zr_aastN hx hb hK hP (zC_D hQ _) hS (zCL_in (by omega)) 2 (zCE_tol ka cb (zroundC C d x0) (ztc A d k) (d := d) (by omega)) rfl (j := k) rfl (show k < 9 from by omega) (by decide) zd_D_beginRound_34 (fun H locs hP hS => ?_)
      have hP : zCP D ka cb P (zroundC C d x0) (zs3 (ztc A d k) 2 d k none) H := zC_re (zCU_tol ka cb (zroundC C d x0) (ztc A d k) (d := d) (by omega) k none) hP
      refine lv_iinc (v := nI (k + 1)) (k := 2) hx hb zd_D_beginRound_35 hl rfl (nI_1 _) (by decide) rfl (fun ls hl => ?_)
      have hl : lv_has ls 3 [(2, .int (nI (k + 1))), (0, .ref (cb + (31 + 3 * d))), (1, .int x0)] := hl
      refine lv_goto (tgt := 22) hx hb zd_D_beginRound_38 (by decide) ?_
      exact ih (k + 1) (by omega) H locs ls (lv_sub hl [1, 2, 0] rfl) hP hS
  exact L22 9 0 (by omega) _ _ _ (lv_sub hl [1, 2, 0] rfl) hP hS
set_option maxRecDepth 100000 in
set_option maxHeartbeats 4000000 in
theorem zc_m_D_begin (l : Launch) (D : va_G) (ka : Nat → ClassId) (cb : Nat) (P : List Nat) (C : zC) (A : zA) (d : Nat) (hd : d < 3) (x0 : Int32) : Met l zy_D_begin (.code zy_D_begin zc_D_begin 2 none :: zAll) ({ frames := 1, cells := 0, slots := 0, locals := 22 }) (va_Pc [.ref (cb + (31 + 3 * d)), .int x0] (zCW D ka cb P C A)) (va_Qv (fun (_ : Unit) => True) (fun _ t => zCW D ka cb P (zroundC (zs3 (zs3 C 8 d 0 1) 11 d 0 x0) d 1) (ztc A d 9) t) (zCA cb)) 0 0 (zCA cb) := by
  refine z_met (by decide) (Nat.le_of_ble_eq_true rfl) ?_
  intro pg e s m below meth c hx hb hml hr hts hown hlk hnm hB ls hl
  obtain ⟨hP, hQ, hz, hK⟩ := hB
  have hS : va_S (zCA cb) s.heap s.heap [] := va_S.rf
  have hl : lv_has ls 2 [(0, .ref (cb + (31 + 3 * d))), (1, .int x0)] := hl
  refine lv_aload_n hx hb zd_D_begin_0 rfl (lv_at hl 0 rfl) ?_
  refine lv_iconst (v := 1) hx hb zd_D_begin_1 (by decide) ?_
  refine zr_put (ty := .int) hx hb hts zin_D zt_D zto_D znm_D hown hK hP (zC_D hQ _) hS (zCL_in (by omega)) (zCE_rea ka cb C A (d := d) (by omega)) rfl 3 (by decide) (zl_D_20 hts) rfl rfl (by decide +kernel) rfl rfl (Nat.le_of_ble_eq_true rfl) zd_D_begin_2 (fun H locs hP hS => ?_)
  have hP : zCP D ka cb P (zs3 C 8 d 0 1) A H := zC_re (zCU_rea3 ka cb C A (d := d) (by omega) 1) hP
  refine lv_aload_n hx hb zd_D_begin_5 rfl (lv_at hl 0 rfl) ?_
  refine lv_iload_n hx hb zd_D_begin_6 rfl (lv_at hl 1 rfl) ?_
  refine zr_put (ty := .int) hx hb hts zin_D zt_D zto_D znm_D hown hK hP (zC_D hQ _) hS (zCL_in (by omega)) (zCE_rea ka cb (zs3 C 8 d 0 1) A (d := d) (by omega)) rfl 6 (by decide) (zl_D_24 hts) rfl rfl (by decide +kernel) rfl rfl (Nat.le_of_ble_eq_true rfl) zd_D_begin_7 (fun H locs hP hS => ?_)
  have hP : zCP D ka cb P (zs3 (zs3 C 8 d 0 1) 11 d 0 x0) A H := zC_re (zCU_rea6 ka cb (zs3 C 8 d 0 1) A (d := d) (by omega) x0) hP
  refine lv_aload_n hx hb zd_D_begin_10 rfl (lv_at hl 0 rfl) ?_
  refine lv_iconst (v := 1) hx hb zd_D_begin_11 (by decide) ?_
  refine zK_callv (nA := 1) (As := [.int 1]) (rest := []) zCW_blind (zc_m_D_beginRound l D ka cb P (zs3 (zs3 C 8 d 0 1) 11 d 0 x0) A d (by omega) 1) (zg_D_beginRound zk_D_27) (by decide) ⟨rfl, rfl⟩ ⟨Nat.le_of_ble_eq_true rfl, Nat.le_of_ble_eq_true rfl⟩ hx hb hml hts hown (zC_recv hK hP (zCL_in (by omega)) (zCE_rea ka cb (zs3 (zs3 C 8 d 0 1) 11 d 0 x0) A (d := d) (by omega)) rfl) (zC_U hK hP hQ hz hS) hS (fun _ h => h) hl.1 rfl rfl (Nat.le_of_ble_eq_true rfl) ⟨Nat.zero_le _, Nat.zero_le _⟩ zd_D_begin_12 (fun t locs hvm hB hS _ _ => ?_)
  obtain ⟨hP, -, -, -⟩ := hB
  generalize t.heap = H at hP hS ⊢
  exact zC_vret hx hb hr hlk hK hP hQ hz hS rfl rfl zd_D_begin_15
set_option maxRecDepth 100000 in
set_option maxHeartbeats 4000000 in
theorem zc_m_D_hear_t (l : Launch) (D : va_G) (ka : Nat → ClassId) (cb : Nat) (P : List Nat) (C : zC) (A : zA) (d r a : Nat) (hd : d < 3) (hr0 : r < 9) (ha : zPa cb P a) (q0 : Int32) (hh : zhearsD C A d r q0) : Met l zy_D_hear (.code zy_D_hear zc_D_hear 4 none :: zAll) ({ frames := 1, cells := 0, slots := 0, locals := 20 }) (va_Pc [.ref (cb + (31 + 3 * d)), .int (nI r), .int q0, .ref a] (zCW D ka cb P C A)) (va_Qv (fun (_ : Unit) => True) (fun _ t => zCW D ka cb P (zs3 C 7 d 0 (C 7 d 0 + 1)) (zs3 A 2 d r (some a)) t) (zCA cb)) 0 0 (zCA cb) := by
  refine z_met (by decide) (Nat.le_of_ble_eq_true rfl) ?_
  intro pg e s m below meth c hx hb hml hr hts hown hlk hnm hB ls hl
  obtain ⟨hP, hQ, hz, hK⟩ := hB
  have hS : va_S (zCA cb) s.heap s.heap [] := va_S.rf
  have hl : lv_has ls 4 [(0, .ref (cb + (31 + 3 * d))), (1, .int (nI r)), (2, .int q0), (3, .ref a)] := hl
  obtain ⟨g1, g2, g3⟩ := hh
  refine lv_aload_n hx hb zd_D_hear_0 rfl (lv_at hl 0 rfl) ?_
  refine zK_calls (nA := 0) (As := []) (rest := []) zCW_blind (zc_m_D_isReading l D ka cb P C A d (by omega)) (zg_D_isReading zk_D_40) (by decide) ⟨rfl, rfl⟩ ⟨Nat.le_of_ble_eq_true rfl, Nat.le_of_ble_eq_true rfl⟩ hx hb hml hts hown (zC_recv hK hP (zCL_in (by omega)) (zCE_rea ka cb C A (d := d) (by omega)) rfl) (zC_U hK hP hQ hz hS) hl.1 rfl rfl (Nat.le_of_ble_eq_true rfl) ⟨Nat.zero_le _, Nat.zero_le _⟩ zd_D_hear_1 ?_
  refine lv_if_eq (tgt := 41) hx hb zd_D_hear_4 (by decide) (fun h4 => absurd g1 (zb_0 h4)) (fun h4 => ?_)
  refine lv_iload_n hx hb zd_D_hear_7 rfl (lv_at hl 2 rfl) ?_
  refine lv_aload_n hx hb zd_D_hear_8 rfl (lv_at hl 0 rfl) ?_
  refine zr_get hx hb hts zin_D hown hK hP (zCL_in (by omega)) (zCE_rea ka cb C A (d := d) (by omega)) rfl 4 (by decide) (zl_D_34 hts) rfl rfl zd_D_hear_9 ?_
  refine lv_icmp_ne (tgt := 41) hx hb zd_D_hear_12 (by decide) (fun h12 => absurd g2 h12) (fun h12 => ?_)
  refine lv_aload_n hx hb zd_D_hear_15 rfl (lv_at hl 0 rfl) ?_
  refine zr_get hx hb hts zin_D hown hK hP (zCL_in (by omega)) (zCE_rea ka cb C A (d := d) (by omega)) rfl 0 (by decide) (zl_D_11 hts) rfl rfl zd_D_hear_16 ?_
  refine lv_iload_n hx hb zd_D_hear_19 rfl (lv_at hl 1 rfl) ?_
  refine zr_aald (v := va_rf (A 2 d r)) hx hb hK hP (zCL_in (by omega)) 2 (zCE_tol ka cb C A (d := d) (by omega)) rfl (j := r) rfl (show r < 9 from by omega) (by decide) rfl zd_D_hear_20 ?_
  refine z_topr (v := .null) (congrArg va_rf g3) ?_
  refine lv_ifnonnullN hx hb zd_D_hear_21 ?_
  refine lv_aload_n hx hb zd_D_hear_24 rfl (lv_at hl 0 rfl) ?_
  refine zr_get hx hb hts zin_D hown hK hP (zCL_in (by omega)) (zCE_rea ka cb C A (d := d) (by omega)) rfl 0 (by decide) (zl_D_11 hts) rfl rfl zd_D_hear_25 ?_
  refine lv_iload_n hx hb zd_D_hear_28 rfl (lv_at hl 1 rfl) ?_
  refine lv_aload_n hx hb zd_D_hear_29 rfl (lv_at hl 3 rfl) ?_
  refine zr_aast (r := (zN_P, zT_P, 3)) hx hb hK hP (zC_D hQ _) hS (zCL_in (by omega)) 2 zciP (zCE_tol ka cb C A (d := d) (by omega)) rfl (zCL_p ha) (zCE_pair ka cb C A (zP_adr hQ ha)) rfl (j := r) rfl (show r < 9 from by omega) (by decide) zd_D_hear_30 (fun H locs hP hS => ?_)
  have hP : zCP D ka cb P C (zs3 A 2 d r (some a)) H := zC_re (zCU_tol ka cb C A (d := d) (by omega) r (some a)) hP
  refine lv_aload_n hx hb zd_D_hear_31 rfl (lv_at hl 0 rfl) ?_
  refine lv_dup hx hb zd_D_hear_32 rfl ?_
  refine zr_get hx hb hts zin_D hown hK hP (zCL_in (by omega)) (zCE_rea ka cb C (zs3 A 2 d r (some a)) (d := d) (by omega)) rfl 2 (by decide) (zl_D_37 hts) rfl rfl zd_D_hear_33 ?_
  refine lv_iconst (v := 1) hx hb zd_D_hear_36 (by decide) ?_
  refine lv_iadd hx hb zd_D_hear_37 ?_
  refine zr_put (ty := .int) hx hb hts zin_D zt_D zto_D znm_D hown hK hP (zC_D hQ _) hS (zCL_in (by omega)) (zCE_rea ka cb C (zs3 A 2 d r (some a)) (d := d) (by omega)) rfl 2 (by decide) (zl_D_37 hts) rfl rfl (by decide +kernel) rfl rfl (Nat.le_of_ble_eq_true rfl) zd_D_hear_38 (fun H locs hP hS => ?_)
  have hP : zCP D ka cb P (zs3 C 7 d 0 ((C 7 d 0) + 1)) (zs3 A 2 d r (some a)) H := zC_re (zCU_rea2 ka cb C (zs3 A 2 d r (some a)) (d := d) (by omega) ((C 7 d 0) + 1)) hP
  exact zC_vret hx hb hr hlk hK hP hQ hz hS rfl rfl zd_D_hear_41
set_option maxRecDepth 100000 in
set_option maxHeartbeats 4000000 in
theorem zc_m_D_hear_f (l : Launch) (D : va_G) (ka : Nat → ClassId) (cb : Nat) (P : List Nat) (C : zC) (A : zA) (d r a : Nat) (hd : d < 3) (hr0 : r < 9) (ha : zPa cb P a) (q0 : Int32) (hh : ¬ zhearsD C A d r q0) : Met l zy_D_hear (.code zy_D_hear zc_D_hear 4 none :: zAll) ({ frames := 1, cells := 0, slots := 0, locals := 20 }) (va_Pc [.ref (cb + (31 + 3 * d)), .int (nI r), .int q0, .ref a] (zCW D ka cb P C A)) (va_Qv (fun (_ : Unit) => True) (fun _ t => zCW D ka cb P C A t) (zCA cb)) 0 0 (zCA cb) := by
  refine z_met (by decide) (Nat.le_of_ble_eq_true rfl) ?_
  intro pg e s m below meth c hx hb hml hr hts hown hlk hnm hB ls hl
  obtain ⟨hP, hQ, hz, hK⟩ := hB
  have hS : va_S (zCA cb) s.heap s.heap [] := va_S.rf
  have hl : lv_has ls 4 [(0, .ref (cb + (31 + 3 * d))), (1, .int (nI r)), (2, .int q0), (3, .ref a)] := hl
  refine lv_aload_n hx hb zd_D_hear_0 rfl (lv_at hl 0 rfl) ?_
  refine zK_calls (nA := 0) (As := []) (rest := []) zCW_blind (zc_m_D_isReading l D ka cb P C A d (by omega)) (zg_D_isReading zk_D_40) (by decide) ⟨rfl, rfl⟩ ⟨Nat.le_of_ble_eq_true rfl, Nat.le_of_ble_eq_true rfl⟩ hx hb hml hts hown (zC_recv hK hP (zCL_in (by omega)) (zCE_rea ka cb C A (d := d) (by omega)) rfl) (zC_U hK hP hQ hz hS) hl.1 rfl rfl (Nat.le_of_ble_eq_true rfl) ⟨Nat.zero_le _, Nat.zero_le _⟩ zd_D_hear_1 ?_
  refine lv_if_eq (tgt := 41) hx hb zd_D_hear_4 (by decide) (fun h4 => ?_) (fun h4 => ?_)
  · have c4 := zb_0 h4
    exact zC_vret hx hb hr hlk hK hP hQ hz hS rfl rfl zd_D_hear_41
  · have c4 := zb_1 h4
    refine lv_iload_n hx hb zd_D_hear_7 rfl (lv_at hl 2 rfl) ?_
    refine lv_aload_n hx hb zd_D_hear_8 rfl (lv_at hl 0 rfl) ?_
    refine zr_get hx hb hts zin_D hown hK hP (zCL_in (by omega)) (zCE_rea ka cb C A (d := d) (by omega)) rfl 4 (by decide) (zl_D_34 hts) rfl rfl zd_D_hear_9 ?_
    refine lv_icmp_ne (tgt := 41) hx hb zd_D_hear_12 (by decide) (fun h12 => ?_) (fun h12 => ?_)
    · exact zC_vret hx hb hr hlk hK hP hQ hz hS rfl rfl zd_D_hear_41
    · refine lv_aload_n hx hb zd_D_hear_15 rfl (lv_at hl 0 rfl) ?_
      refine zr_get hx hb hts zin_D hown hK hP (zCL_in (by omega)) (zCE_rea ka cb C A (d := d) (by omega)) rfl 0 (by decide) (zl_D_11 hts) rfl rfl zd_D_hear_16 ?_
      refine lv_iload_n hx hb zd_D_hear_19 rfl (lv_at hl 1 rfl) ?_
      refine zr_aald (v := va_rf (A 2 d r)) hx hb hK hP (zCL_in (by omega)) 2 (zCE_tol ka cb C A (d := d) (by omega)) rfl (j := r) rfl (show r < 9 from by omega) (by decide) rfl zd_D_hear_20 ?_
      rcases zo_cases (A 2 d r) with q21_0 | ⟨a21_0, q21_0⟩
      · refine z_topr (v := .null) (congrArg va_rf q21_0) ?_
        refine lv_ifnonnullN hx hb zd_D_hear_21 ?_
        exact absurd ⟨c4, h12, q21_0⟩ hh
      · refine z_topr (v := .ref a21_0) (congrArg va_rf q21_0) ?_
        refine lv_ifnonnull (tgt := 41) hx hb zd_D_hear_21 (by decide) ?_
        exact zC_vret hx hb hr hlk hK hP hQ hz hS rfl rfl zd_D_hear_41
set_option maxRecDepth 100000 in
set_option maxHeartbeats 4000000 in
theorem zc_m_D_countAlike (l : Launch) (D : va_G) (ka : Nat → ClassId) (cb : Nat) (P : List Nat) (C : zC) (A : zA) (d a : Nat) (hd : d < 3) (ha : zPa cb P a) (hto : ∀ r b, r < 9 → A 2 d r = some b → zPa cb P b) : Met l zy_D_countAlike (.code zy_D_countAlike zc_D_countAlike 4 (some .int) :: zAll) ({ frames := 1, cells := 0, slots := 0, locals := 21 }) (va_Pc [.ref (cb + (31 + 3 * d)), .ref a] (zCW D ka cb P C A)) (vp_Si (fun rr => rr = (nI (zalkC C A d a 9)))) 0 0 (fun _ => False) := by
  refine z_met (by decide) (Nat.le_of_ble_eq_true rfl) ?_
  intro pg e s m below meth c hx hb hml hr hts hown hlk hnm hB ls hl
  obtain ⟨hP, hQ, hz, hK⟩ := hB
  have hS : va_S (zCA cb) s.heap s.heap [] := va_S.rf
  have hl : lv_has ls 4 [(0, .ref (cb + (31 + 3 * d))), (1, .ref a)] := hl
  refine lv_iconst (v := 0) hx hb zd_D_countAlike_0 (by decide) ?_
  refine lv_istore_n hx hb zd_D_countAlike_1 rfl hl (by decide) rfl (fun ls hl => ?_)
  have hl : lv_has ls 4 [(2, .int 0), (0, .ref (cb + (31 + 3 * d))), (1, .ref a)] := hl
  refine lv_iconst (v := 0) hx hb zd_D_countAlike_2 (by decide) ?_
  refine lv_istore_n hx hb zd_D_countAlike_3 rfl hl (by decide) rfl (fun ls hl => ?_)
  have hl : lv_has ls 4 [(3, .int 0), (2, .int 0), (0, .ref (cb + (31 + 3 * d))), (1, .ref a)] := hl
  have L4 : ∀ (j k : Nat), k + j = 9 → ∀ (ls : Array Slot), lv_has ls 4 [(0, .ref (cb + (31 + 3 * d))), (1, .ref a), (2, .int (nI (zalkC C A d a k))), (3, .int (nI k))] → W pg l e ({ frames := 1, cells := 0, slots := 0, locals := 21 }) s m (List.toArray [.ref (cb + (31 + 3 * d)), .ref a]) below meth c s.heap [] 0 0 (MQ below (vp_Si (fun rr => rr = (nI (zalkC C A d a 9)))) (List.toArray [.ref (cb + (31 + 3 * d)), .ref a]) s 0 0 (fun _ => False)) (F0 m 4 ls []) := by
    intro j
    induction j with
    | zero =>
      intro k hk ls hl
      have hk : k = 9 := by omega
      subst hk
      refine lv_iload_n hx hb zd_D_countAlike_4 rfl (lv_at hl 3 rfl) ?_
      refine lv_bipush (v := 9) hx hb zd_D_countAlike_5 (by decide) ?_
      refine lv_icmp_ge (tgt := 41) hx hb zd_D_countAlike_7 (by decide) (fun h7 => ?_) (fun h7 => absurd (by decide) h7)
      refine lv_iload_n hx hb zd_D_countAlike_41 rfl (lv_at hl 2 rfl) ?_
      exact zS_iret hx hb hr hlk rfl rfl rfl zd_D_countAlike_42
    | succ j ih =>
      intro k hk ls hl
      refine lv_iload_n hx hb zd_D_countAlike_4 rfl (lv_at hl 3 rfl) ?_
      refine lv_bipush (v := 9) hx hb zd_D_countAlike_5 (by decide) ?_
      refine lv_icmp_ge (tgt := 41) hx hb zd_D_countAlike_7 (by decide) (fun h7 => absurd h7 (nI_ge (b := 9) (by omega) (by decide))) (fun h7 => ?_)
      refine lv_aload_n hx hb zd_D_countAlike_10 rfl (lv_at hl 0 rfl) ?_
      refine zr_get hx hb hts zin_D hown hK hP (zCL_in (by omega)) (zCE_rea ka cb C A (d := d) (by omega)) rfl 0 (by decide) (zl_D_11 hts) rfl rfl zd_D_countAlike_11 ?_
      refine lv_iload_n hx hb zd_D_countAlike_14 rfl (lv_at hl 3 rfl) ?_
      refine zr_aald (v := va_rf (A 2 d k)) hx hb hK hP (zCL_in (by omega)) 2 (zCE_tol ka cb C A (d := d) (by omega)) rfl (j := k) rfl (show k < 9 from by omega) (by decide) rfl zd_D_countAlike_15 ?_
      rcases zo_cases (A 2 d k) with q16_0 | ⟨a16_0, q16_0⟩
      · refine z_topr (v := .null) (congrArg va_rf q16_0) ?_
        refine lv_ifnullN (tgt := 35) hx hb zd_D_countAlike_16 (by decide) ?_
        refine lv_iinc (v := nI (k + 1)) (k := 3) hx hb zd_D_countAlike_35 hl rfl (nI_1 _) (by decide) rfl (fun ls hl => ?_)
        have hl : lv_has ls 4 [(3, .int (nI (k + 1))), (0, .ref (cb + (31 + 3 * d))), (1, .ref a), (2, .int (nI (zalkC C A d a k)))] := hl
        refine lv_goto (tgt := 4) hx hb zd_D_countAlike_38 (by decide) ?_
        refine ih (k + 1) (by omega) ls ?_
        first | rw [zalkC_t q16_0 c29] | rw [zalkC_f q16_0 c29] | rw [zalkC_n q16_0]
        exact lv_sub hl [1, 2, 3, 0] rfl
      · refine z_topr (v := .ref a16_0) (congrArg va_rf q16_0) ?_
        have hp_a16_0 := hto k a16_0 (by omega) q16_0
        refine lv_ifnull hx hb zd_D_countAlike_16 ?_
        refine lv_aload_n hx hb zd_D_countAlike_19 rfl (lv_at hl 0 rfl) ?_
        refine zr_get hx hb hts zin_D hown hK hP (zCL_in (by omega)) (zCE_rea ka cb C A (d := d) (by omega)) rfl 0 (by decide) (zl_D_11 hts) rfl rfl zd_D_countAlike_20 ?_
        refine lv_iload_n hx hb zd_D_countAlike_23 rfl (lv_at hl 3 rfl) ?_
        refine zr_aald (v := va_rf (A 2 d k)) hx hb hK hP (zCL_in (by omega)) 2 (zCE_tol ka cb C A (d := d) (by omega)) rfl (j := k) rfl (show k < 9 from by omega) (by decide) rfl zd_D_countAlike_24 ?_
        refine z_topr (v := .ref a16_0) (congrArg va_rf q16_0) ?_
        refine lv_aload_n hx hb zd_D_countAlike_25 rfl (lv_at hl 1 rfl) ?_
        refine zK_calls (nA := 1) (As := [.ref a]) (rest := []) zCW_blind (zc_m_P_isLike l D ka cb P C A a16_0 a hp_a16_0 ha) (zg_P_isLike zk_D_52) (by decide) ⟨rfl, rfl⟩ ⟨Nat.le_of_ble_eq_true rfl, Nat.le_of_ble_eq_true rfl⟩ hx hb hml hts hown (zC_recv hK hP (zCL_p hp_a16_0) (zCE_pair ka cb C A (zP_adr hQ hp_a16_0)) rfl) (zC_U hK hP hQ hz hS) hl.1 rfl rfl (Nat.le_of_ble_eq_true rfl) ⟨Nat.zero_le _, Nat.zero_le _⟩ zd_D_countAlike_26 ?_
        refine lv_if_eq (tgt := 35) hx hb zd_D_countAlike_29 (by decide) (fun h29 => ?_) (fun h29 => ?_)
        · have c29 := zb_0 h29
          refine lv_iinc (v := nI (k + 1)) (k := 3) hx hb zd_D_countAlike_35 hl rfl (nI_1 _) (by decide) rfl (fun ls hl => ?_)
          have hl : lv_has ls 4 [(3, .int (nI (k + 1))), (0, .ref (cb + (31 + 3 * d))), (1, .ref a), (2, .int (nI (zalkC C A d a k)))] := hl
          refine lv_goto (tgt := 4) hx hb zd_D_countAlike_38 (by decide) ?_
          refine ih (k + 1) (by omega) ls ?_
          first | rw [zalkC_t q16_0 c29] | rw [zalkC_f q16_0 c29] | rw [zalkC_n q16_0]
          exact lv_sub hl [1, 2, 3, 0] rfl
        · have c29 := zb_1 h29
          refine lv_iinc (v := nI ((zalkC C A d a k) + 1)) (k := 2) hx hb zd_D_countAlike_32 hl rfl (nI_1 _) (by decide) rfl (fun ls hl => ?_)
          have hl : lv_has ls 4 [(2, .int (nI ((zalkC C A d a k) + 1))), (0, .ref (cb + (31 + 3 * d))), (1, .ref a), (3, .int (nI k))] := hl
          refine lv_iinc (v := nI (k + 1)) (k := 3) hx hb zd_D_countAlike_35 hl rfl (nI_1 _) (by decide) rfl (fun ls hl => ?_)
          have hl : lv_has ls 4 [(3, .int (nI (k + 1))), (2, .int (nI ((zalkC C A d a k) + 1))), (0, .ref (cb + (31 + 3 * d))), (1, .ref a)] := hl
          refine lv_goto (tgt := 4) hx hb zd_D_countAlike_38 (by decide) ?_
          refine ih (k + 1) (by omega) ls ?_
          first | rw [zalkC_t q16_0 c29] | rw [zalkC_f q16_0 c29] | rw [zalkC_n q16_0]
          exact lv_sub hl [2, 3, 1, 0] rfl
  exact L4 9 0 (by omega) _ (lv_sub hl [2, 3, 1, 0] rfl)
