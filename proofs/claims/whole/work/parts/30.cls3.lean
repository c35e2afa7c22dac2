set_option maxRecDepth 100000 in
set_option maxHeartbeats 4000000 in
theorem zc_m_X_letters (l : Launch) (D : va_G) (ka : Nat → ClassId) (cb : Nat) (M : zM) : Met l zy_X_letters (.code zy_X_letters zc_X_letters 1 (some .int) :: zAll) ({ frames := 0, cells := 0, slots := 0, locals := 0 }) (va_Pc [.ref cb] (zCS D ka cb M)) (vp_Si (fun rr => rr = (M 0 1))) 0 0 (fun _ => False) := by
  refine z_met (by decide) (Nat.le_of_ble_eq_true rfl) ?_
  intro pg e s m below meth c hx hb hml hr hts hown hlk hnm hB ls hl
  obtain ⟨P, C, A, ⟨hP, hQ, hz, hK⟩, hRep⟩ := hB
  have hS : va_S (zCA cb) s.heap s.heap [] := va_S.rf
  have hl : lv_has ls 1 [(0, .ref cb)] := hl
  refine lv_aload_n hx hb zd_X_letters_0 rfl (lv_at hl 0 rfl) ?_
  refine zr_get hx hb hts zin_X hown hK hP zCL_0 (zCE_x ka cb C A) rfl 4 (by decide) (zl_X_53 hts) rfl rfl zd_X_letters_1 ?_
  refine zr_get hx hb hts zin_O hown hK hP (zCL_in (by omega)) (zCE_post ka cb C A) rfl 1 (by decide) (zl_X_114 hts) rfl rfl zd_X_letters_4 ?_
  exact zS_iret hx hb hr hlk rfl rfl (zr_count hRep) zd_X_letters_7
set_option maxRecDepth 100000 in
set_option maxHeartbeats 4000000 in
theorem zc_m_X_outcome (l : Launch) (D : va_G) (ka : Nat → ClassId) (cb : Nat) (M : zM) (d0 : Int32) : Met l zy_X_outcome (.code zy_X_outcome zc_X_outcome 2 (some .int) :: zAll) ({ frames := 1, cells := 0, slots := 0, locals := 20 }) (va_Pc [.ref cb, .int d0] (zCS D ka cb M)) (vp_Si (fun rr => rr = (zf_outcome M d0))) 0 0 (fun _ => False) := by
  refine z_met (by decide) (Nat.le_of_ble_eq_true rfl) ?_
  intro pg e s m below meth c hx hb hml hr hts hown hlk hnm hB ls hl
  obtain ⟨P, C, A, ⟨hP, hQ, hz, hK⟩, hRep⟩ := hB
  have hS : va_S (zCA cb) s.heap s.heap [] := va_S.rf
  have hl : lv_has ls 2 [(0, .ref cb), (1, .int d0)] := hl
  refine lv_iload_n hx hb zd_X_outcome_0 rfl (lv_at hl 1 rfl) ?_
  refine z_callst (nA := 1) (As := [.int d0]) (rest := []) (zc_m_X_isReader l d0) (zg_X_isReader zk_X_98) rfl (by decide) ⟨rfl, rfl⟩ ⟨Nat.le_of_ble_eq_true rfl, Nat.le_of_ble_eq_true rfl⟩ hx hb hml hts hown hl.1 rfl rfl (Nat.le_of_ble_eq_true rfl) ⟨Nat.le_of_ble_eq_true rfl, Nat.le_of_ble_eq_true rfl⟩ zd_X_outcome_1 ?_
  refine lv_if_eq (tgt := 19) hx hb zd_X_outcome_4 (by decide) (fun h4 => ?_) (fun h4 => ?_)
  · have c4 := zb_0 h4
    refine lv_iconst (v := -1) hx hb zd_X_outcome_19 (by decide) ?_
    exact zS_iret hx hb hr hlk rfl rfl (by simp [zf_outcome, c4]) zd_X_outcome_20
  · have c4 := zb_1 h4
    obtain ⟨d, h_d, rfl⟩ := zbl_of (n := 3) (by decide) c4
    have z_d : zix (nI d) = d := zix_n (by omega)
    refine lv_aload_n hx hb zd_X_outcome_7 rfl (lv_at hl 0 rfl) ?_
    refine zr_get hx hb hts zin_X hown hK hP zCL_0 (zCE_x ka cb C A) rfl 3 (by decide) (zl_X_45 hts) rfl rfl zd_X_outcome_8 ?_
    refine lv_iload_n hx hb zd_X_outcome_11 rfl (lv_at hl 1 rfl) ?_
    refine zr_aald (v := .ref (cb + (31 + 3 * d))) hx hb hK hP (zCL_in (by omega)) 6 (zCE_reas ka cb C A) rfl (j := d) rfl (show d < 3 from by omega) (by decide) rfl zd_X_outcome_12 ?_
    refine zr_get hx hb hts zin_D hown hK hP (zCL_in (by omega)) (zCE_rea ka cb C A (d := d) (by omega)) rfl 3 (by decide) (zl_X_177 hts) rfl rfl zd_X_outcome_13 ?_
    refine lv_goto (tgt := 20) hx hb zd_X_outcome_16 (by decide) ?_
    exact zS_iret hx hb hr hlk rfl rfl (by rw [zr_st hRep h_d]; simp [zf_outcome, c4, z_d]) zd_X_outcome_20
set_option maxRecDepth 100000 in
set_option maxHeartbeats 4000000 in
theorem zc_m_X_letter (l : Launch) (D : va_G) (ka : Nat → ClassId) (cb : Nat) (M : zM) (hL : zLt M) (i0 w0 : Int32) : Met l zy_X_letter (.code zy_X_letter zc_X_letter 4 (some .int) :: zAll) ({ frames := 1, cells := 0, slots := 0, locals := 21 }) (va_Pc [.ref cb, .int i0, .int w0] (zCS D ka cb M)) (vp_Si (fun rr => rr = (zf_letter M i0 w0))) 0 0 (fun _ => False) := by
  refine z_met (by decide) (Nat.le_of_ble_eq_true rfl) ?_
  intro pg e s m below meth c hx hb hml hr hts hown hlk hnm hB ls hl
  obtain ⟨P, C, A, ⟨hP, hQ, hz, hK⟩, hRep⟩ := hB
  have hS : va_S (zCA cb) s.heap s.heap [] := va_S.rf
  have hl : lv_has ls 4 [(0, .ref cb), (1, .int i0), (2, .int w0)] := hl
  obtain ⟨n, hn1, hn⟩ := hL
  have hz0 : zix (M 0 1) = n := by rw [hn]; exact zix_n (by omega)
  obtain ⟨σ, hσ, hinj, hLR⟩ := zr_post hRep
  refine lv_aload_n hx hb zd_X_letter_0 rfl (lv_at hl 0 rfl) ?_
  refine zr_get hx hb hts zin_X hown hK hP zCL_0 (zCE_x ka cb C A) rfl 4 (by decide) (zl_X_53 hts) rfl rfl zd_X_letter_1 ?_
  refine lv_iload_n hx hb zd_X_letter_4 rfl (lv_at hl 1 rfl) ?_
  refine zK_calls (nA := 1) (As := [.int i0]) (rest := []) zCW_blind (zc_m_O_has l D ka cb P C A i0) (zg_O_has zk_X_117) (by decide) ⟨rfl, rfl⟩ ⟨Nat.le_of_ble_eq_true rfl, Nat.le_of_ble_eq_true rfl⟩ hx hb hml hts hown (zC_recv hK hP (zCL_in (by omega)) (zCE_post ka cb C A) rfl) (zC_U hK hP hQ hz hS) hl.1 rfl rfl (Nat.le_of_ble_eq_true rfl) ⟨Nat.le_of_ble_eq_true rfl, Nat.le_of_ble_eq_true rfl⟩ zd_X_letter_5 ?_
  refine lv_if_ne (tgt := 13) hx hb zd_X_letter_8 (by decide) (fun h8 => ?_) (fun h8 => ?_)
  · have c8 := zb_1 h8
    rw [zr_count hRep] at c8
    obtain ⟨i, h_i, rfl⟩ := zbl_of (n := n) (by omega) (by rw [← hn]; exact c8)
    have z_i : zix (nI i) = i := zix_n (by omega)
    have hLi := hLR i (by rw [hz0]; exact h_i)
    refine lv_aload_n hx hb zd_X_letter_13 rfl (lv_at hl 0 rfl) ?_
    refine zr_get hx hb hts zin_X hown hK hP zCL_0 (zCE_x ka cb C A) rfl 4 (by decide) (zl_X_53 hts) rfl rfl zd_X_letter_14 ?_
    refine zr_get hx hb hts zin_O hown hK hP (zCL_in (by omega)) (zCE_post ka cb C A) rfl 0 (by decide) (zl_X_120 hts) rfl rfl zd_X_letter_17 ?_
    refine lv_iload_n hx hb zd_X_letter_20 rfl (lv_at hl 1 rfl) ?_
    refine zr_aald (v := va_rf (A 5 0 i)) hx hb hK hP (zCL_in (by omega)) 3 (zCE_row ka cb C A) rfl (j := i) rfl (show i < 300 from by omega) (by decide) rfl zd_X_letter_21 ?_
    have hs1 := (hσ i (by omega)).1
    have hs2 := (hσ i (by omega)).2
    refine z_topr (v := .ref (cb + (42 + σ i))) (congrArg va_rf hs1) ?_
    refine lv_astore_n hx hb zd_X_letter_22 rfl hl (by decide) rfl (fun ls hl => ?_)
    have hl : lv_has ls 4 [(3, .ref (cb + (42 + σ i))), (0, .ref cb), (1, .int (nI i)), (2, .int w0)] := hl
    refine lv_iload_n hx hb zd_X_letter_23 rfl (lv_at hl 3 rfl) ?_
    by_cases t24_0 : w0 = 0
    · refine lv_tableIn (x := w0) (off := 36) (tgt := 60) hx hb zd_X_letter_24 (by rw [t24_0]; decide) (by rw [t24_0]; decide) (by rw [t24_0]; rfl) (by decide) ?_
      refine lv_aload_n hx hb zd_X_letter_60 rfl (lv_at hl 0 rfl) ?_
      refine zr_get hx hb hts zin_L hown hK hP (zCL_in (by omega)) (zCE_let ka cb C A (j := σ i) (by omega)) rfl 0 (by decide) (zl_X_124 hts) rfl rfl zd_X_letter_61 ?_
      exact zS_iret hx hb hr hlk rfl rfl (by rw [hLi.1]; simp [zf_letter, c8, z_i, t24_0]) zd_X_letter_64
    by_cases t24_1 : w0 = 1
    · refine lv_tableIn (x := w0) (off := 41) (tgt := 65) hx hb zd_X_letter_24 (by rw [t24_1]; decide) (by rw [t24_1]; decide) (by rw [t24_1]; rfl) (by decide) ?_
      refine lv_aload_n hx hb zd_X_letter_65 rfl (lv_at hl 0 rfl) ?_
      refine zr_get hx hb hts zin_L hown hK hP (zCL_in (by omega)) (zCE_let ka cb C A (j := σ i) (by omega)) rfl 1 (by decide) (zl_X_129 hts) rfl rfl zd_X_letter_66 ?_
      exact zS_iret hx hb hr hlk rfl rfl (by rw [hLi.2.1]; simp [zf_letter, c8, z_i, t24_0, t24_1]) zd_X_letter_69
    by_cases t24_2 : w0 = 2
    · refine lv_tableIn (x := w0) (off := 46) (tgt := 70) hx hb zd_X_letter_24 (by rw [t24_2]; decide) (by rw [t24_2]; decide) (by rw [t24_2]; rfl) (by decide) ?_
      refine lv_aload_n hx hb zd_X_letter_70 rfl (lv_at hl 0 rfl) ?_
      refine zr_get hx hb hts zin_L hown hK hP (zCL_in (by omega)) (zCE_let ka cb C A (j := σ i) (by omega)) rfl 2 (by decide) (zl_X_132 hts) rfl rfl zd_X_letter_71 ?_
      exact zS_iret hx hb hr hlk rfl rfl (by rw [hLi.2.2.1]; simp [zf_letter, c8, z_i, t24_0, t24_1, t24_2]) zd_X_letter_74
    by_cases t24_3 : w0 = 3
    · refine lv_tableIn (x := w0) (off := 51) (tgt := 75) hx hb zd_X_letter_24 (by rw [t24_3]; decide) (by rw [t24_3]; decide) (by rw [t24_3]; rfl) (by decide) ?_
      refine lv_aload_n hx hb zd_X_letter_75 rfl (lv_at hl 0 rfl) ?_
      refine zr_get hx hb hts zin_L hown hK hP (zCL_in (by omega)) (zCE_let ka cb C A (j := σ i) (by omega)) rfl 3 (by decide) (zl_X_135 hts) rfl rfl zd_X_letter_76 ?_
      exact zS_iret hx hb hr hlk rfl rfl (by rw [hLi.2.2.2.1]; simp [zf_letter, c8, z_i, t24_0, t24_1, t24_2, t24_3]) zd_X_letter_79
    by_cases t24_4 : w0 = 4
    · refine lv_tableIn (x := w0) (off := 56) (tgt := 80) hx hb zd_X_letter_24 (by rw [t24_4]; decide) (by rw [t24_4]; decide) (by rw [t24_4]; rfl) (by decide) ?_
      refine lv_aload_n hx hb zd_X_letter_80 rfl (lv_at hl 0 rfl) ?_
      refine zr_get hx hb hts zin_L hown hK hP (zCL_in (by omega)) (zCE_let ka cb C A (j := σ i) (by omega)) rfl 4 (by decide) (zl_X_138 hts) rfl rfl zd_X_letter_81 ?_
      exact zS_iret hx hb hr hlk rfl rfl (by rw [hLi.2.2.2.2.1]; simp [zf_letter, c8, z_i, t24_0, t24_1, t24_2, t24_3, t24_4]) zd_X_letter_84
    refine lv_tableOut (tgt := 85) hx hb zd_X_letter_24 (z_tsw (n := 4) (by decide) (fun k hk => ?_)) (by decide) ?_
    · rcases (show k = 0 ∨ k = 1 ∨ k = 2 ∨ k = 3 ∨ k = 4 by omega) with rfl | rfl | rfl | rfl | rfl
      · exact t24_0
      · exact t24_1
      · exact t24_2
      · exact t24_3
      · exact t24_4
    refine lv_iconst (v := -1) hx hb zd_X_letter_85 (by decide) ?_
    exact zS_iret hx hb hr hlk rfl rfl (by simp [zf_letter, c8, z_i, t24_0, t24_1, t24_2, t24_3, t24_4]) zd_X_letter_86
  · have c8 := zb_0 h8
    rw [zr_count hRep] at c8
    refine lv_iconst (v := -1) hx hb zd_X_letter_11 (by decide) ?_
    exact zS_iret hx hb hr hlk rfl rfl (by simp [zf_letter, c8]) zd_X_letter_12
set_option maxRecDepth 100000 in
set_option maxHeartbeats 4000000 in
theorem zc_m_X_answered (l : Launch) (D : va_G) (ka : Nat → ClassId) (cb : Nat) (M : zM) (d0 f0 : Int32) : Met l zy_X_answered (.code zy_X_answered zc_X_answered 3 (some .int) :: zAll) ({ frames := 1, cells := 0, slots := 0, locals := 21 }) (va_Pc [.ref cb, .int d0, .int f0] (zCS D ka cb M)) (vp_Si (fun rr => rr = (zf_answered M d0 f0))) 0 0 (fun _ => False) := by
  refine z_met (by decide) (Nat.le_of_ble_eq_true rfl) ?_
  intro pg e s m below meth c hx hb hml hr hts hown hlk hnm hB ls hl
  obtain ⟨P, C, A, ⟨hP, hQ, hz, hK⟩, hRep⟩ := hB
  have hS : va_S (zCA cb) s.heap s.heap [] := va_S.rf
  have hl : lv_has ls 3 [(0, .ref cb), (1, .int d0), (2, .int f0)] := hl
  refine lv_iload_n hx hb zd_X_answered_0 rfl (lv_at hl 1 rfl) ?_
  refine z_callst (nA := 1) (As := [.int d0]) (rest := []) (zc_m_X_isReader l d0) (zg_X_isReader zk_X_98) rfl (by decide) ⟨rfl, rfl⟩ ⟨Nat.le_of_ble_eq_true rfl, Nat.le_of_ble_eq_true rfl⟩ hx hb hml hts hown hl.1 rfl rfl (Nat.le_of_ble_eq_true rfl) ⟨Nat.le_of_ble_eq_true rfl, Nat.le_of_ble_eq_true rfl⟩ zd_X_answered_1 ?_
  refine lv_if_eq (tgt := 19) hx hb zd_X_answered_4 (by decide) (fun h4 => ?_) (fun h4 => ?_)
  · have c4 := zb_0 h4
    refine lv_iconst (v := -1) hx hb zd_X_answered_19 (by decide) ?_
    exact zS_iret hx hb hr hlk rfl rfl (by simp [zf_answered, c4]) zd_X_answered_20
  · have c4 := zb_1 h4
    obtain ⟨d, h_d, rfl⟩ := zbl_of (n := 3) (by decide) c4
    have z_d : zix (nI d) = d := zix_n (by omega)
    refine lv_aload_n hx hb zd_X_answered_7 rfl (lv_at hl 0 rfl) ?_
    refine zr_get hx hb hts zin_X hown hK hP zCL_0 (zCE_x ka cb C A) rfl 3 (by decide) (zl_X_45 hts) rfl rfl zd_X_answered_8 ?_
    refine lv_iload_n hx hb zd_X_answered_11 rfl (lv_at hl 1 rfl) ?_
    refine zr_aald (v := .ref (cb + (31 + 3 * d))) hx hb hK hP (zCL_in (by omega)) 6 (zCE_reas ka cb C A) rfl (j := d) rfl (show d < 3 from by omega) (by decide) rfl zd_X_answered_12 ?_
    refine zr_get hx hb hts zin_D hown hK hP (zCL_in (by omega)) (zCE_rea ka cb C A (d := d) (by omega)) rfl 8 (by decide) (zl_X_180 hts) rfl rfl zd_X_answered_13 ?_
    rcases zr_ans hRep (d := d) (by omega) with ⟨q1, q2⟩ | ⟨an, q1, q2, q3, q4, q5, q6⟩
    · refine z_topr (v := .null) (congrArg va_rf q1) ?_
      refine lv_ifnonnullN hx hb zd_X_answered_16 ?_
      refine lv_iconst (v := -1) hx hb zd_X_answered_19 (by decide) ?_
      exact zS_iret hx hb hr hlk rfl rfl (by simp [zf_answered, c4, z_d, q2]) zd_X_answered_20
    · refine z_topr (v := .ref an) (congrArg va_rf q1) ?_
      refine lv_ifnonnull (tgt := 21) hx hb zd_X_answered_16 (by decide) ?_
      refine lv_iload_n hx hb zd_X_answered_21 rfl (lv_at hl 2 rfl) ?_
      refine lv_if_ne (tgt := 35) hx hb zd_X_answered_22 (by decide) (fun h22 => ?_) (fun h22 => ?_)
      · refine lv_aload_n hx hb zd_X_answered_35 rfl (lv_at hl 0 rfl) ?_
        refine zr_get hx hb hts zin_X hown hK hP zCL_0 (zCE_x ka cb C A) rfl 3 (by decide) (zl_X_45 hts) rfl rfl zd_X_answered_36 ?_
        refine lv_iload_n hx hb zd_X_answered_39 rfl (lv_at hl 1 rfl) ?_
        refine zr_aald (v := .ref (cb + (31 + 3 * d))) hx hb hK hP (zCL_in (by omega)) 6 (zCE_reas ka cb C A) rfl (j := d) rfl (show d < 3 from by omega) (by decide) rfl zd_X_answered_40 ?_
        refine zr_get hx hb hts zin_D hown hK hP (zCL_in (by omega)) (zCE_rea ka cb C A (d := d) (by omega)) rfl 8 (by decide) (zl_X_180 hts) rfl rfl zd_X_answered_41 ?_
        refine z_topr (v := .ref an) (congrArg va_rf q1) ?_
        refine lv_iload_n hx hb zd_X_answered_44 rfl (lv_at hl 2 rfl) ?_
        refine lv_iconst (v := 1) hx hb zd_X_answered_45 (by decide) ?_
        refine lv_isub hx hb zd_X_answered_46 ?_
        refine zK_calls (nA := 1) (As := [.int (f0 - 1)]) (rest := []) zCW_blind (zc_m_P_part l D ka cb P C A an q3 (f0 - 1)) (zg_P_part zk_X_186) (by decide) ⟨rfl, rfl⟩ ⟨Nat.le_of_ble_eq_true rfl, Nat.le_of_ble_eq_true rfl⟩ hx hb hml hts hown (zC_recv hK hP (zCL_p q3) (zCE_pair ka cb C A (zP_adr hQ q3)) rfl) (zC_U hK hP hQ hz hS) hl.1 rfl rfl (Nat.le_of_ble_eq_true rfl) ⟨Nat.le_of_ble_eq_true rfl, Nat.le_of_ble_eq_true rfl⟩ zd_X_answered_47 ?_
        exact zS_iret hx hb hr hlk rfl rfl (by rw [zans_part h22 q4 q5 q6, zf_answered_i c4 q2 z_d]) zd_X_answered_50
      · refine lv_aload_n hx hb zd_X_answered_25 rfl (lv_at hl 0 rfl) ?_
        refine zr_get hx hb hts zin_X hown hK hP zCL_0 (zCE_x ka cb C A) rfl 3 (by decide) (zl_X_45 hts) rfl rfl zd_X_answered_26 ?_
        refine lv_iload_n hx hb zd_X_answered_29 rfl (lv_at hl 1 rfl) ?_
        refine zr_aald (v := .ref (cb + (31 + 3 * d))) hx hb hK hP (zCL_in (by omega)) 6 (zCE_reas ka cb C A) rfl (j := d) rfl (show d < 3 from by omega) (by decide) rfl zd_X_answered_30 ?_
        refine zr_get hx hb hts zin_D hown hK hP (zCL_in (by omega)) (zCE_rea ka cb C A (d := d) (by omega)) rfl 7 (by decide) (zl_X_183 hts) rfl rfl zd_X_answered_31 ?_
        exact zS_iret hx hb hr hlk rfl rfl (by rw [zr_ap hRep h_d, zf_answered_i c4 q2 z_d, h22, if_pos (by decide)]; rfl) zd_X_answered_34
set_option maxRecDepth 100000 in
set_option maxHeartbeats 4000000 in
theorem zc_m_X_reader (l : Launch) (D : va_G) (ka : Nat → ClassId) (cb : Nat) (M : zM) (d0 w0 : Int32) : Met l zy_X_reader (.code zy_X_reader zc_X_reader 4 (some .int) :: zAll) ({ frames := 1, cells := 0, slots := 0, locals := 20 }) (va_Pc [.ref cb, .int d0, .int w0] (zCS D ka cb M)) (vp_Si (fun rr => rr = (zf_reader M d0 w0))) 0 0 (fun _ => False) := by
  refine z_met (by decide) (Nat.le_of_ble_eq_true rfl) ?_
  intro pg e s m below meth c hx hb hml hr hts hown hlk hnm hB ls hl
  obtain ⟨P, C, A, ⟨hP, hQ, hz, hK⟩, hRep⟩ := hB
  have hS : va_S (zCA cb) s.heap s.heap [] := va_S.rf
  have hl : lv_has ls 4 [(0, .ref cb), (1, .int d0), (2, .int w0)] := hl
  refine lv_iload_n hx hb zd_X_reader_0 rfl (lv_at hl 1 rfl) ?_
  refine z_callst (nA := 1) (As := [.int d0]) (rest := []) (zc_m_X_isReader l d0) (zg_X_isReader zk_X_98) rfl (by decide) ⟨rfl, rfl⟩ ⟨Nat.le_of_ble_eq_true rfl, Nat.le_of_ble_eq_true rfl⟩ hx hb hml hts hown hl.1 rfl rfl (Nat.le_of_ble_eq_true rfl) ⟨Nat.le_of_ble_eq_true rfl, Nat.le_of_ble_eq_true rfl⟩ zd_X_reader_1 ?_
  refine lv_if_ne (tgt := 9) hx hb zd_X_reader_4 (by decide) (fun h4 => ?_) (fun h4 => ?_)
  · have c4 := zb_1 h4
    obtain ⟨d, h_d, rfl⟩ := zbl_of (n := 3) (by decide) c4
    have z_d : zix (nI d) = d := zix_n (by omega)
    refine lv_aload_n hx hb zd_X_reader_9 rfl (lv_at hl 0 rfl) ?_
    refine zr_get hx hb hts zin_X hown hK hP zCL_0 (zCE_x ka cb C A) rfl 3 (by decide) (zl_X_45 hts) rfl rfl zd_X_reader_10 ?_
    refine lv_iload_n hx hb zd_X_reader_13 rfl (lv_at hl 1 rfl) ?_
    refine zr_aald (v := .ref (cb + (31 + 3 * d))) hx hb hK hP (zCL_in (by omega)) 6 (zCE_reas ka cb C A) rfl (j := d) rfl (show d < 3 from by omega) (by decide) rfl zd_X_reader_14 ?_
    refine lv_astore_n hx hb zd_X_reader_15 rfl hl (by decide) rfl (fun ls hl => ?_)
    have hl : lv_has ls 4 [(3, .ref (cb + (31 + 3 * d))), (0, .ref cb), (1, .int (nI d)), (2, .int w0)] := hl
    refine lv_iload_n hx hb zd_X_reader_16 rfl (lv_at hl 3 rfl) ?_
    by_cases t17_0 : w0 = 0
    · refine lv_tableIn (x := w0) (off := 27) (tgt := 44) hx hb zd_X_reader_17 (by rw [t17_0]; decide) (by rw [t17_0]; decide) (by rw [t17_0]; rfl) (by decide) ?_
      refine lv_aload_n hx hb zd_X_reader_44 rfl (lv_at hl 0 rfl) ?_
      refine zr_get hx hb hts zin_D hown hK hP (zCL_in (by omega)) (zCE_rea ka cb C A (d := d) (by omega)) rfl 4 (by decide) (zl_X_111 hts) rfl rfl zd_X_reader_45 ?_
      exact zS_iret hx hb hr hlk rfl rfl (by rw [zr_q hRep h_d, t17_0]; simp [zf_reader, c4, z_d]; try decide) zd_X_reader_48
    by_cases t17_1 : w0 = 1
    · refine lv_tableIn (x := w0) (off := 32) (tgt := 49) hx hb zd_X_reader_17 (by rw [t17_1]; decide) (by rw [t17_1]; decide) (by rw [t17_1]; rfl) (by decide) ?_
      refine lv_aload_n hx hb zd_X_reader_49 rfl (lv_at hl 0 rfl) ?_
      refine zK_calls (nA := 0) (As := []) (rest := []) zCW_blind (zc_m_D_isReading l D ka cb P C A d (by omega)) (zg_D_isReading zk_X_101) (by decide) ⟨rfl, rfl⟩ ⟨Nat.le_of_ble_eq_true rfl, Nat.le_of_ble_eq_true rfl⟩ hx hb hml hts hown (zC_recv hK hP (zCL_in (by omega)) (zCE_rea ka cb C A (d := d) (by omega)) rfl) (zC_U hK hP hQ hz hS) hl.1 rfl rfl (Nat.le_of_ble_eq_true rfl) ⟨Nat.le_of_ble_eq_true rfl, Nat.le_of_ble_eq_true rfl⟩ zd_X_reader_50 ?_
      refine lv_if_eq (tgt := 63) hx hb zd_X_reader_53 (by decide) (fun h53 => ?_) (fun h53 => ?_)
      · have c53 := zb_0 h53
        rw [zr_st hRep h_d] at c53
        refine lv_iconst (v := 0) hx hb zd_X_reader_63 (by decide) ?_
        exact zS_iret hx hb hr hlk rfl rfl (by rw [t17_1]; simp [zf_reader, c4, z_d, c53]; try decide) zd_X_reader_64
      · have c53 := zb_1 h53
        rw [zr_st hRep h_d] at c53
        refine lv_aload_n hx hb zd_X_reader_56 rfl (lv_at hl 0 rfl) ?_
        refine zr_get hx hb hts zin_D hown hK hP (zCL_in (by omega)) (zCE_rea ka cb C A (d := d) (by omega)) rfl 5 (by decide) (zl_X_189 hts) rfl rfl zd_X_reader_57 ?_
        refine lv_goto (tgt := 64) hx hb zd_X_reader_60 (by decide) ?_
        exact zS_iret hx hb hr hlk rfl rfl (by rw [zr_rd hRep h_d, t17_1]; simp [zf_reader, c4, z_d, c53]; try decide) zd_X_reader_64
    by_cases t17_2 : w0 = 2
    · refine lv_tableIn (x := w0) (off := 48) (tgt := 65) hx hb zd_X_reader_17 (by rw [t17_2]; decide) (by rw [t17_2]; decide) (by rw [t17_2]; rfl) (by decide) ?_
      refine lv_aload_n hx hb zd_X_reader_65 rfl (lv_at hl 0 rfl) ?_
      refine zK_calls (nA := 0) (As := []) (rest := []) zCW_blind (zc_m_D_isReading l D ka cb P C A d (by omega)) (zg_D_isReading zk_X_101) (by decide) ⟨rfl, rfl⟩ ⟨Nat.le_of_ble_eq_true rfl, Nat.le_of_ble_eq_true rfl⟩ hx hb hml hts hown (zC_recv hK hP (zCL_in (by omega)) (zCE_rea ka cb C A (d := d) (by omega)) rfl) (zC_U hK hP hQ hz hS) hl.1 rfl rfl (Nat.le_of_ble_eq_true rfl) ⟨Nat.le_of_ble_eq_true rfl, Nat.le_of_ble_eq_true rfl⟩ zd_X_reader_66 ?_
      refine lv_if_eq (tgt := 79) hx hb zd_X_reader_69 (by decide) (fun h69 => ?_) (fun h69 => ?_)
      · have c69 := zb_0 h69
        rw [zr_st hRep h_d] at c69
        refine lv_iconst (v := 0) hx hb zd_X_reader_79 (by decide) ?_
        exact zS_iret hx hb hr hlk rfl rfl (by rw [t17_2]; simp [zf_reader, c4, z_d, c69]; try decide) zd_X_reader_80
      · have c69 := zb_1 h69
        rw [zr_st hRep h_d] at c69
        refine lv_aload_n hx hb zd_X_reader_72 rfl (lv_at hl 0 rfl) ?_
        refine zr_get hx hb hts zin_D hown hK hP (zCL_in (by omega)) (zCE_rea ka cb C A (d := d) (by omega)) rfl 2 (by decide) (zl_X_192 hts) rfl rfl zd_X_reader_73 ?_
        refine lv_goto (tgt := 80) hx hb zd_X_reader_76 (by decide) ?_
        exact zS_iret hx hb hr hlk rfl rfl (by rw [zr_tc hRep h_d, t17_2]; simp [zf_reader, c4, z_d, c69]; try decide) zd_X_reader_80
    refine lv_tableOut (tgt := 81) hx hb zd_X_reader_17 (z_tsw (n := 2) (by decide) (fun k hk => ?_)) (by decide) ?_
    · rcases (show k = 0 ∨ k = 1 ∨ k = 2 by omega) with rfl | rfl | rfl
      · exact t17_0
      · exact t17_1
      · exact t17_2
    refine lv_iconst (v := -1) hx hb zd_X_reader_81 (by decide) ?_
    exact zS_iret hx hb hr hlk rfl rfl (by simp [zf_reader, zn_nb3 t17_0 t17_1 t17_2]) zd_X_reader_82
  · have c4 := zb_0 h4
    refine lv_iconst (v := -1) hx hb zd_X_reader_7 (by decide) ?_
    exact zS_iret hx hb hr hlk rfl rfl (by simp [zf_reader, c4]) zd_X_reader_8
set_option maxRecDepth 100000 in
set_option maxHeartbeats 4000000 in
theorem zc_m_X_writer (l : Launch) (D : va_G) (ka : Nat → ClassId) (cb : Nat) (M : zM) (p0 w0 : Int32) : Met l zy_X_writer (.code zy_X_writer zc_X_writer 4 (some .int) :: zAll) ({ frames := 1, cells := 0, slots := 0, locals := 20 }) (va_Pc [.ref cb, .int p0, .int w0] (zCS D ka cb M)) (vp_Si (fun rr => rr = (zf_writer M p0 w0))) 0 0 (fun _ => False) := by
  refine z_met (by decide) (Nat.le_of_ble_eq_true rfl) ?_
  intro pg e s m below meth c hx hb hml hr hts hown hlk hnm hB ls hl
  obtain ⟨P, C, A, ⟨hP, hQ, hz, hK⟩, hRep⟩ := hB
  have hS : va_S (zCA cb) s.heap s.heap [] := va_S.rf
  have hl : lv_has ls 4 [(0, .ref cb), (1, .int p0), (2, .int w0)] := hl
  refine lv_iload_n hx hb zd_X_writer_0 rfl (lv_at hl 1 rfl) ?_
  refine z_callst (nA := 1) (As := [.int p0]) (rest := []) (zc_m_X_isPoint l p0) (zg_X_isPoint zk_X_72) rfl (by decide) ⟨rfl, rfl⟩ ⟨Nat.le_of_ble_eq_true rfl, Nat.le_of_ble_eq_true rfl⟩ hx hb hml hts hown hl.1 rfl rfl (Nat.le_of_ble_eq_true rfl) ⟨Nat.le_of_ble_eq_true rfl, Nat.le_of_ble_eq_true rfl⟩ zd_X_writer_1 ?_
  refine lv_if_ne (tgt := 9) hx hb zd_X_writer_4 (by decide) (fun h4 => ?_) (fun h4 => ?_)
  · have c4 := zb_1 h4
    obtain ⟨p, h_p, rfl⟩ := zbl_of (n := 4) (by decide) c4
    have z_p : zix (nI p) = p := zix_n (by omega)
    refine lv_aload_n hx hb zd_X_writer_9 rfl (lv_at hl 0 rfl) ?_
    refine zr_get hx hb hts zin_X hown hK hP zCL_0 (zCE_x ka cb C A) rfl 2 (by decide) (zl_X_38 hts) rfl rfl zd_X_writer_10 ?_
    refine lv_iload_n hx hb zd_X_writer_13 rfl (lv_at hl 1 rfl) ?_
    refine zr_aald (v := .ref (cb + (22 + 2 * p))) hx hb hK hP (zCL_in (by omega)) 5 (zCE_wris ka cb C A) rfl (j := p) rfl (show p < 4 from by omega) (by decide) rfl zd_X_writer_14 ?_
    refine lv_astore_n hx hb zd_X_writer_15 rfl hl (by decide) rfl (fun ls hl => ?_)
    have hl : lv_has ls 4 [(3, .ref (cb + (22 + 2 * p))), (0, .ref cb), (1, .int (nI p)), (2, .int w0)] := hl
    refine lv_iload_n hx hb zd_X_writer_16 rfl (lv_at hl 3 rfl) ?_
    by_cases t17_0 : w0 = 0
    · refine lv_tableIn (x := w0) (off := 31) (tgt := 48) hx hb zd_X_writer_17 (by rw [t17_0]; decide) (by rw [t17_0]; decide) (by rw [t17_0]; rfl) (by decide) ?_
      refine lv_aload_n hx hb zd_X_writer_48 rfl (lv_at hl 0 rfl) ?_
      refine zr_get hx hb hts zin_W hown hK hP (zCL_in (by omega)) (zCE_wri ka cb C A (p := p) (by omega)) rfl 2 (by decide) (zl_X_91 hts) rfl rfl zd_X_writer_49 ?_
      obtain ⟨la, g1, g2, g3, g4, g5⟩ := zr_lat hRep (p := p) (by omega)
      refine z_topr (v := .ref la) (congrArg va_rf g1) ?_
      refine zr_get hx hb hts zin_P hown hK hP (zCL_p g2) (zCE_pair ka cb C A (zP_adr hQ g2)) rfl 0 (by decide) (zl_X_95 hts) rfl rfl zd_X_writer_52 ?_
      exact zS_iret hx hb hr hlk rfl rfl (by rw [g3]; simp [zf_writer, c4, z_p, t17_0]) zd_X_writer_55
    by_cases t17_1 : w0 = 1
    · refine lv_tableIn (x := w0) (off := 39) (tgt := 56) hx hb zd_X_writer_17 (by rw [t17_1]; decide) (by rw [t17_1]; decide) (by rw [t17_1]; rfl) (by decide) ?_
      refine lv_aload_n hx hb zd_X_writer_56 rfl (lv_at hl 0 rfl) ?_
      refine zr_get hx hb hts zin_W hown hK hP (zCL_in (by omega)) (zCE_wri ka cb C A (p := p) (by omega)) rfl 3 (by decide) (zl_X_79 hts) rfl rfl zd_X_writer_57 ?_
      refine lv_if_eq (tgt := 67) hx hb zd_X_writer_60 (by decide) (fun h60 => ?_) (fun h60 => ?_)
      · rw [zr_open hRep h_p] at h60
        refine lv_iconst (v := 0) hx hb zd_X_writer_67 (by decide) ?_
        exact zS_iret hx hb hr hlk rfl rfl (by simp [zf_writer, zb, c4, z_p, t17_0, t17_1, h60]) zd_X_writer_68
      · rw [zr_open hRep h_p] at h60
        refine lv_iconst (v := 1) hx hb zd_X_writer_63 (by decide) ?_
        refine lv_goto (tgt := 68) hx hb zd_X_writer_64 (by decide) ?_
        exact zS_iret hx hb hr hlk rfl rfl (by simp [zf_writer, zb, c4, z_p, t17_0, t17_1, h60]) zd_X_writer_68
    by_cases t17_2 : w0 = 2
    · refine lv_tableIn (x := w0) (off := 52) (tgt := 69) hx hb zd_X_writer_17 (by rw [t17_2]; decide) (by rw [t17_2]; decide) (by rw [t17_2]; rfl) (by decide) ?_
      refine lv_aload_n hx hb zd_X_writer_69 rfl (lv_at hl 0 rfl) ?_
      refine zr_get hx hb hts zin_W hown hK hP (zCL_in (by omega)) (zCE_wri ka cb C A (p := p) (by omega)) rfl 1 (by decide) (zl_X_195 hts) rfl rfl zd_X_writer_70 ?_
      exact zS_iret hx hb hr hlk rfl rfl (by rw [zr_cnt hRep h_p]; simp [zf_writer, c4, z_p, t17_0, t17_1, t17_2]) zd_X_writer_73
    by_cases t17_3 : w0 = 3
    · refine lv_tableIn (x := w0) (off := 57) (tgt := 74) hx hb zd_X_writer_17 (by rw [t17_3]; decide) (by rw [t17_3]; decide) (by rw [t17_3]; rfl) (by decide) ?_
      refine lv_aload_n hx hb zd_X_writer_74 rfl (lv_at hl 0 rfl) ?_
      refine zr_get hx hb hts zin_W hown hK hP (zCL_in (by omega)) (zCE_wri ka cb C A (p := p) (by omega)) rfl 4 (by decide) (zl_X_198 hts) rfl rfl zd_X_writer_75 ?_
      exact zS_iret hx hb hr hlk rfl rfl (by rw [zr_fin hRep h_p]; simp [zf_writer, c4, z_p, t17_0, t17_1, t17_2, t17_3]) zd_X_writer_78
    refine lv_tableOut (tgt := 79) hx hb zd_X_writer_17 (z_tsw (n := 3) (by decide) (fun k hk => ?_)) (by decide) ?_
    · rcases (show k = 0 ∨ k = 1 ∨ k = 2 ∨ k = 3 by omega) with rfl | rfl | rfl | rfl
      · exact t17_0
      · exact t17_1
      · exact t17_2
      · exact t17_3
    refine lv_iconst (v := -1) hx hb zd_X_writer_79 (by decide) ?_
    exact zS_iret hx hb hr hlk rfl rfl (by simp [zf_writer, zb, c4, z_p, t17_0, t17_1, t17_2, t17_3]) zd_X_writer_80
  · have c4 := zb_0 h4
    refine lv_iconst (v := -1) hx hb zd_X_writer_7 (by decide) ?_
    exact zS_iret hx hb hr hlk rfl rfl (by simp [zf_writer, zb, c4]) zd_X_writer_8
set_option maxRecDepth 100000 in
set_option maxHeartbeats 4000000 in
theorem zc_m_X_held (l : Launch) (D : va_G) (ka : Nat → ClassId) (cb : Nat) (M : zM) (r0 p0 f0 : Int32) : Met l zy_X_held (.code zy_X_held zc_X_held 4 (some .int) :: zAll) ({ frames := 1, cells := 0, slots := 0, locals := 21 }) (va_Pc [.ref cb, .int r0, .int p0, .int f0] (zCS D ka cb M)) (vp_Si (fun rr => rr = (zf_held M r0 p0 f0))) 0 0 (fun _ => False) := by
  refine z_met (by decide) (Nat.le_of_ble_eq_true rfl) ?_
  intro pg e s m below meth c hx hb hml hr hts hown hlk hnm hB ls hl
  obtain ⟨P, C, A, ⟨hP, hQ, hz, hK⟩, hRep⟩ := hB
  have hS : va_S (zCA cb) s.heap s.heap [] := va_S.rf
  have hl : lv_has ls 4 [(0, .ref cb), (1, .int r0), (2, .int p0), (3, .int f0)] := hl
  refine lv_iload_n hx hb zd_X_held_0 rfl (lv_at hl 1 rfl) ?_
  refine z_callst (nA := 1) (As := [.int r0]) (rest := []) (zc_m_X_isRecorder l r0) (zg_X_isRecorder zk_X_157) rfl (by decide) ⟨rfl, rfl⟩ ⟨Nat.le_of_ble_eq_true rfl, Nat.le_of_ble_eq_true rfl⟩ hx hb hml hts hown hl.1 rfl rfl (Nat.le_of_ble_eq_true rfl) ⟨Nat.le_of_ble_eq_true rfl, Nat.le_of_ble_eq_true rfl⟩ zd_X_held_1 ?_
  refine lv_if_eq (tgt := 14) hx hb zd_X_held_4 (by decide) (fun h4 => ?_) (fun h4 => ?_)
  · have c4 := zb_0 h4
    refine lv_iconst (v := -1) hx hb zd_X_held_14 (by decide) ?_
    exact zS_iret hx hb hr hlk rfl rfl (by simp [zf_held, c4]) zd_X_held_15
  · have c4 := zb_1 h4
    obtain ⟨r, h_r, rfl⟩ := zbl_of (n := 9) (by decide) c4
    have z_r : zix (nI r) = r := zix_n (by omega)
    refine lv_iload_n hx hb zd_X_held_7 rfl (lv_at hl 2 rfl) ?_
    refine z_callst (nA := 1) (As := [.int p0]) (rest := []) (zc_m_X_isPoint l p0) (zg_X_isPoint zk_X_72) rfl (by decide) ⟨rfl, rfl⟩ ⟨Nat.le_of_ble_eq_true rfl, Nat.le_of_ble_eq_true rfl⟩ hx hb hml hts hown hl.1 rfl rfl (Nat.le_of_ble_eq_true rfl) ⟨Nat.le_of_ble_eq_true rfl, Nat.le_of_ble_eq_true rfl⟩ zd_X_held_8 ?_
    refine lv_if_ne (tgt := 16) hx hb zd_X_held_11 (by decide) (fun h11 => ?_) (fun h11 => ?_)
    · have c11 := zb_1 h11
      obtain ⟨p, h_p, rfl⟩ := zbl_of (n := 4) (by decide) c11
      have z_p : zix (nI p) = p := zix_n (by omega)
      refine lv_aload_n hx hb zd_X_held_16 rfl (lv_at hl 0 rfl) ?_
      refine zr_get hx hb hts zin_X hown hK hP zCL_0 (zCE_x ka cb C A) rfl 1 (by decide) (zl_X_29 hts) rfl rfl zd_X_held_17 ?_
      refine lv_iload_n hx hb zd_X_held_20 rfl (lv_at hl 1 rfl) ?_
      refine zr_aald (v := .ref (cb + (3 + 2 * r))) hx hb hK hP (zCL_in (by omega)) 4 (zCE_recs ka cb C A) rfl (j := r) rfl (show r < 9 from by omega) (by decide) rfl zd_X_held_21 ?_
      refine zr_get hx hb hts zin_R hown hK hP (zCL_in (by omega)) (zCE_rec ka cb C A (r := r) (by omega)) rfl 0 (by decide) (zl_X_201 hts) rfl rfl zd_X_held_22 ?_
      refine lv_iload_n hx hb zd_X_held_25 rfl (lv_at hl 2 rfl) ?_
      refine zr_aald (v := va_rf (A 0 r p)) hx hb hK hP (zCL_in (by omega)) 2 (zCE_rps ka cb C A (r := r) (by omega)) rfl (j := p) rfl (show p < 4 from by omega) (by decide) rfl zd_X_held_26 ?_
      obtain ⟨la, g1, g2, g3, g4, g5⟩ := zr_held hRep (r := r) (p := p) (by omega) (by omega)
      refine z_topr (v := .ref la) (congrArg va_rf g1) ?_
      refine lv_iload_n hx hb zd_X_held_27 rfl (lv_at hl 3 rfl) ?_
      refine zK_calls (nA := 1) (As := [.int f0]) (rest := []) zCW_blind (zc_m_P_part l D ka cb P C A la g2 f0) (zg_P_part zk_X_186) (by decide) ⟨rfl, rfl⟩ ⟨Nat.le_of_ble_eq_true rfl, Nat.le_of_ble_eq_true rfl⟩ hx hb hml hts hown (zC_recv hK hP (zCL_p g2) (zCE_pair ka cb C A (zP_adr hQ g2)) rfl) (zC_U hK hP hQ hz hS) hl.1 rfl rfl (Nat.le_of_ble_eq_true rfl) ⟨Nat.le_of_ble_eq_true rfl, Nat.le_of_ble_eq_true rfl⟩ zd_X_held_28 ?_
      exact zS_iret hx hb hr hlk rfl rfl (by rw [zheld_part g3 g4 g5]; simp [zf_held, c4, z_r, c11, z_p]) zd_X_held_31
    · have c11 := zb_0 h11
      refine lv_iconst (v := -1) hx hb zd_X_held_14 (by decide) ?_
      exact zS_iret hx hb hr hlk rfl rfl (by simp [zf_held, c4, z_r, c11]) zd_X_held_15
set_option maxRecDepth 100000 in
set_option maxHeartbeats 4000000 in
theorem zc_m_X_canLie (l : Launch) (D : va_G) (ka : Nat → ClassId) (cb : Nat) (M : zM) (r0 : Int32) : Met l zy_X_canLie (.code zy_X_canLie zc_X_canLie 2 (some .boolean) :: zAll) ({ frames := 1, cells := 0, slots := 0, locals := 20 }) (va_Pc [.ref cb, .int r0] (zCS D ka cb M)) (vp_Si (fun rr => rr = (zb (zlies M r0)))) 0 0 (fun _ => False) := by
  refine z_met (by decide) (Nat.le_of_ble_eq_true rfl) ?_
  intro pg e s m below meth c hx hb hml hr hts hown hlk hnm hB ls hl
  obtain ⟨P, C, A, ⟨hP, hQ, hz, hK⟩, hRep⟩ := hB
  have hS : va_S (zCA cb) s.heap s.heap [] := va_S.rf
  have hl : lv_has ls 2 [(0, .ref cb), (1, .int r0)] := hl
  refine lv_iload_n hx hb zd_X_canLie_0 rfl (lv_at hl 1 rfl) ?_
  refine z_callst (nA := 1) (As := [.int r0]) (rest := []) (zc_m_X_isRecorder l r0) (zg_X_isRecorder zk_X_157) rfl (by decide) ⟨rfl, rfl⟩ ⟨Nat.le_of_ble_eq_true rfl, Nat.le_of_ble_eq_true rfl⟩ hx hb hml hts hown hl.1 rfl rfl (Nat.le_of_ble_eq_true rfl) ⟨Nat.le_of_ble_eq_true rfl, Nat.le_of_ble_eq_true rfl⟩ zd_X_canLie_1 ?_
  refine lv_if_eq (tgt := 35) hx hb zd_X_canLie_4 (by decide) (fun h4 => ?_) (fun h4 => ?_)
  · have c4 := zb_0 h4
    refine lv_iconst (v := 0) hx hb zd_X_canLie_35 (by decide) ?_
    exact zS_zret hx hb hr hlk rfl rfl rfl (by simp [zb, c4]) zd_X_canLie_36
  · have c4 := zb_1 h4
    obtain ⟨r, h_r, rfl⟩ := zbl_of (n := 9) (by decide) c4
    have z_r : zix (nI r) = r := zix_n (by omega)
    refine lv_aload_n hx hb zd_X_canLie_7 rfl (lv_at hl 0 rfl) ?_
    refine zr_get hx hb hts zin_X hown hK hP zCL_0 (zCE_x ka cb C A) rfl 1 (by decide) (zl_X_29 hts) rfl rfl zd_X_canLie_8 ?_
    refine lv_iload_n hx hb zd_X_canLie_11 rfl (lv_at hl 1 rfl) ?_
    refine zr_aald (v := .ref (cb + (3 + 2 * r))) hx hb hK hP (zCL_in (by omega)) 4 (zCE_recs ka cb C A) rfl (j := r) rfl (show r < 9 from by omega) (by decide) rfl zd_X_canLie_12 ?_
    refine zr_get hx hb hts zin_R hown hK hP (zCL_in (by omega)) (zCE_rec ka cb C A (r := r) (by omega)) rfl 2 (by decide) (zl_X_160 hts) rfl rfl zd_X_canLie_13 ?_
    refine lv_if_eq (tgt := 35) hx hb zd_X_canLie_16 (by decide) (fun h16 => ?_) (fun h16 => ?_)
    · rw [zr_liar hRep h_r] at h16
      refine lv_iconst (v := 0) hx hb zd_X_canLie_35 (by decide) ?_
      exact zS_zret hx hb hr hlk rfl rfl rfl (by simp [zb, c4, z_r, h16]) zd_X_canLie_36
    · rw [zr_liar hRep h_r] at h16
      refine lv_aload_n hx hb zd_X_canLie_19 rfl (lv_at hl 0 rfl) ?_
      refine zr_get hx hb hts zin_X hown hK hP zCL_0 (zCE_x ka cb C A) rfl 1 (by decide) (zl_X_29 hts) rfl rfl zd_X_canLie_20 ?_
      refine lv_iload_n hx hb zd_X_canLie_23 rfl (lv_at hl 1 rfl) ?_
      refine zr_aald (v := .ref (cb + (3 + 2 * r))) hx hb hK hP (zCL_in (by omega)) 4 (zCE_recs ka cb C A) rfl (j := r) rfl (show r < 9 from by omega) (by decide) rfl zd_X_canLie_24 ?_
      refine zr_get hx hb hts zin_R hown hK hP (zCL_in (by omega)) (zCE_rec ka cb C A (r := r) (by omega)) rfl 1 (by decide) (zl_X_171 hts) rfl rfl zd_X_canLie_25 ?_
      refine lv_if_eq (tgt := 35) hx hb zd_X_canLie_28 (by decide) (fun h28 => ?_) (fun h28 => ?_)
      · rw [zr_up hRep h_r] at h28
        have h28 := zb_0 h28
        refine lv_iconst (v := 0) hx hb zd_X_canLie_35 (by decide) ?_
        exact zS_zret hx hb hr hlk rfl rfl rfl (by simp [zb, c4, z_r, h16, h28]) zd_X_canLie_36
      · rw [zr_up hRep h_r] at h28
        have h28 := zb_1 h28
        refine lv_iconst (v := 1) hx hb zd_X_canLie_31 (by decide) ?_
        refine lv_goto (tgt := 36) hx hb zd_X_canLie_32 (by decide) ?_
        exact zS_zret hx hb hr hlk rfl rfl rfl (by simp [zb, c4, z_r, h16, h28]) zd_X_canLie_36
set_option maxRecDepth 100000 in
set_option maxHeartbeats 4000000 in
theorem zc_m_X_countLiars (l : Launch) (D : va_G) (ka : Nat → ClassId) (cb : Nat) (M : zM) : Met l zy_X_countLiars (.code zy_X_countLiars zc_X_countLiars 3 (some .int) :: zAll) ({ frames := 0, cells := 0, slots := 0, locals := 0 }) (va_Pc [.ref cb] (zCS D ka cb M)) (vp_Si (fun rr => rr = (nI (zliars M)))) 0 0 (fun _ => False) := by
  refine z_met (by decide) (Nat.le_of_ble_eq_true rfl) ?_
  intro pg e s m below meth c hx hb hml hr hts hown hlk hnm hB ls hl
  obtain ⟨P, C, A, ⟨hP, hQ, hz, hK⟩, hRep⟩ := hB
  have hS : va_S (zCA cb) s.heap s.heap [] := va_S.rf
  have hl : lv_has ls 3 [(0, .ref cb)] := hl
  refine lv_iconst (v := 0) hx hb zd_X_countLiars_0 (by decide) ?_
  refine lv_istore_n hx hb zd_X_countLiars_1 rfl hl (by decide) rfl (fun ls hl => ?_)
  have hl : lv_has ls 3 [(1, .int 0), (0, .ref cb)] := hl
  refine lv_iconst (v := 0) hx hb zd_X_countLiars_2 (by decide) ?_
  refine lv_istore_n hx hb zd_X_countLiars_3 rfl hl (by decide) rfl (fun ls hl => ?_)
  have hl : lv_has ls 3 [(2, .int 0), (1, .int 0), (0, .ref cb)] := hl
  have L4 : ∀ (j k : Nat), k + j = 9 → ∀ (ls : Array Slot), lv_has ls 3 [(0, .ref cb), (1, .int (nI (zcn (fun r => decide (¬ M 5 r = 0)) k))), (2, .int (nI k))] → W pg l e ({ frames := 0, cells := 0, slots := 0, locals := 0 }) s m (List.toArray [.ref cb]) below meth c s.heap [] 0 0 (MQ below (vp_Si (fun rr => rr = (nI (zliars M)))) (List.toArray [.ref cb]) s 0 0 (fun _ => False)) (F0 m 4 ls []) := by
    intro j
    induction j with
    | zero =>
      intro k hk ls hl
      have hk : k = 9 := by omega
      subst hk
      refine lv_iload_n hx hb zd_X_countLiars_4 rfl (lv_at hl 2 rfl) ?_
      refine lv_bipush (v := 9) hx hb zd_X_countLiars_5 (by decide) ?_
      refine lv_icmp_ge (tgt := 31) hx hb zd_X_countLiars_7 (by decide) (fun h7 => ?_) (fun h7 => absurd (by decide) h7)
      refine lv_iload_n hx hb zd_X_countLiars_31 rfl (lv_at hl 1 rfl) ?_
      exact zS_iret hx hb hr hlk rfl rfl rfl zd_X_countLiars_32
    | succ j ih =>
      intro k hk ls hl
      refine lv_iload_n hx hb zd_X_countLiars_4 rfl (lv_at hl 2 rfl) ?_
      refine lv_bipush (v := 9) hx hb zd_X_countLiars_5 (by decide) ?_
      refine lv_icmp_ge (tgt := 31) hx hb zd_X_countLiars_7 (by decide) (fun h7 => absurd h7 (nI_ge (b := 9) (by omega) (by decide))) (fun h7 => ?_)
      refine lv_aload_n hx hb zd_X_countLiars_10 rfl (lv_at hl 0 rfl) ?_
      refine zr_get hx hb hts zin_X hown hK hP zCL_0 (zCE_x ka cb C A) rfl 1 (by decide) (zl_X_29 hts) rfl rfl zd_X_countLiars_11 ?_
      refine lv_iload_n hx hb zd_X_countLiars_14 rfl (lv_at hl 2 rfl) ?_
      refine zr_aald (v := .ref (cb + (3 + 2 * k))) hx hb hK hP (zCL_in (by omega)) 4 (zCE_recs ka cb C A) rfl (j := k) rfl (show k < 9 from by omega) (by decide) rfl zd_X_countLiars_15 ?_
      refine zr_get hx hb hts zin_R hown hK hP (zCL_in (by omega)) (zCE_rec ka cb C A (r := k) (by omega)) rfl 2 (by decide) (zl_X_160 hts) rfl rfl zd_X_countLiars_16 ?_
      refine lv_if_eq (tgt := 25) hx hb zd_X_countLiars_19 (by decide) (fun h19 => ?_) (fun h19 => ?_)
      · rw [zr_liar hRep (show k < 9 by omega)] at h19
        refine lv_iinc (v := nI (k + 1)) (k := 2) hx hb zd_X_countLiars_25 hl rfl (nI_1 _) (by decide) rfl (fun ls hl => ?_)
        have hl : lv_has ls 3 [(2, .int (nI (k + 1))), (0, .ref cb), (1, .int (nI (zcn (fun r => decide (¬ M 5 r = 0)) k)))] := hl
        refine lv_goto (tgt := 4) hx hb zd_X_countLiars_28 (by decide) ?_
        refine ih (k + 1) (by omega) ls ?_
        first | rw [zcn_s (f := fun r => decide (¬ M 5 r = 0)) (decide_eq_true h19)] | rw [zcn_f (f := fun r => decide (¬ M 5 r = 0)) (decide_eq_false (fun hh => hh h19))]
        exact lv_sub hl [1, 2, 0] rfl
      · rw [zr_liar hRep (show k < 9 by omega)] at h19
        refine lv_iinc (v := nI ((zcn (fun r => decide (¬ M 5 r = 0)) k) + 1)) (k := 1) hx hb zd_X_countLiars_22 hl rfl (nI_1 _) (by decide) rfl (fun ls hl => ?_)
        have hl : lv_has ls 3 [(1, .int (nI ((zcn (fun r => decide (¬ M 5 r = 0)) k) + 1))), (0, .ref cb), (2, .int (nI k))] := hl
        refine lv_iinc (v := nI (k + 1)) (k := 2) hx hb zd_X_countLiars_25 hl rfl (nI_1 _) (by decide) rfl (fun ls hl => ?_)
        have hl : lv_has ls 3 [(2, .int (nI (k + 1))), (1, .int (nI ((zcn (fun r => decide (¬ M 5 r = 0)) k) + 1))), (0, .ref cb)] := hl
        refine lv_goto (tgt := 4) hx hb zd_X_countLiars_28 (by decide) ?_
        refine ih (k + 1) (by omega) ls ?_
        first | rw [zcn_s (f := fun r => decide (¬ M 5 r = 0)) (decide_eq_true h19)] | rw [zcn_f (f := fun r => decide (¬ M 5 r = 0)) (decide_eq_false (fun hh => hh h19))]
        exact lv_sub hl [2, 1, 0] rfl
  exact L4 9 0 (by omega) _ (lv_sub hl [2, 1, 0] rfl)
