set_option maxRecDepth 100000 in
set_option maxHeartbeats 4000000 in
theorem zc_m_D_findBelieved (l : Launch) (D : va_G) (ka : Nat → ClassId) (cb : Nat) (P : List Nat) (C : zC) (A : zA) (d : Nat) (hd : d < 3) (hto : ∀ r b, r < 9 → A 2 d r = some b → zPa cb P b) : Met l zy_D_findBelieved (.code zy_D_findBelieved zc_D_findBelieved 4 (some (.object "SpanBoard$Pair")) :: zAll) ({ frames := 2, cells := 0, slots := 0, locals := 44 }) (va_Pc [.ref (cb + (31 + 3 * d))] (zCW D ka cb P C A)) (va_Sq (fun rr => rr = zbestC C A d 9)) 0 0 (fun _ => False) := by
  refine z_met (by decide) (Nat.le_of_ble_eq_true rfl) ?_
  intro pg e s m below meth c hx hb hml hr hts hown hlk hnm hB ls hl
  obtain ⟨hP, hQ, hz, hK⟩ := hB
  have hS : va_S (zCA cb) s.heap s.heap [] := va_S.rf
  have hl : lv_has ls 4 [(0, .ref (cb + (31 + 3 * d)))] := hl
  refine lv_null hx hb zd_D_findBelieved_0 ?_
  refine lv_astore_nN hx hb zd_D_findBelieved_1 rfl hl (by decide) rfl (fun ls hl => ?_)
  have hl : lv_has ls 4 [(1, .null), (0, .ref (cb + (31 + 3 * d)))] := hl
  refine lv_iconst (v := 0) hx hb zd_D_findBelieved_2 (by decide) ?_
  refine lv_istore_n hx hb zd_D_findBelieved_3 rfl hl (by decide) rfl (fun ls hl => ?_)
  have hl : lv_has ls 4 [(2, .int 0), (1, .null), (0, .ref (cb + (31 + 3 * d)))] := hl
  have L4 : ∀ (j k : Nat), k + j = 9 → ∀ (ls : Array Slot), lv_has ls 4 [(0, .ref (cb + (31 + 3 * d))), (1, va_rf (zbestC C A d k)), (2, .int (nI k))] → W pg l e ({ frames := 2, cells := 0, slots := 0, locals := 44 }) s m (List.toArray [.ref (cb + (31 + 3 * d))]) below meth c s.heap [] 0 0 (MQ below (va_Sq (fun rr => rr = zbestC C A d 9)) (List.toArray [.ref (cb + (31 + 3 * d))]) s 0 0 (fun _ => False)) (F0 m 4 ls []) := by
    intro j
    induction j with
    | zero =>
      intro k hk ls hl
      have hk : k = 9 := by omega
      subst hk
      rcases zo_cases (zbestC C A d 9) with qH | ⟨aH, qH⟩
      · rw [qH] at hl
        have hl : lv_has ls 4 [(0, .ref (cb + (31 + 3 * d))), (1, .null), (2, .int (nI 9))] := hl
        refine lv_iload_n hx hb zd_D_findBelieved_4 rfl (lv_at hl 2 rfl) ?_
        refine lv_bipush (v := 9) hx hb zd_D_findBelieved_5 (by decide) ?_
        refine lv_icmp_ge (tgt := 50) hx hb zd_D_findBelieved_7 (by decide) (fun h7 => ?_) (fun h7 => absurd (by decide) h7)
        refine lv_aload_nN hx hb zd_D_findBelieved_50 rfl (lv_at hl 1 rfl) ?_
        exact zS_aret (o := none) hx hb hr hlk rfl rfl qH.symm zd_D_findBelieved_51
      · rw [qH] at hl
        have hl : lv_has ls 4 [(0, .ref (cb + (31 + 3 * d))), (1, .ref aH), (2, .int (nI 9))] := hl
        refine lv_iload_n hx hb zd_D_findBelieved_4 rfl (lv_at hl 2 rfl) ?_
        refine lv_bipush (v := 9) hx hb zd_D_findBelieved_5 (by decide) ?_
        refine lv_icmp_ge (tgt := 50) hx hb zd_D_findBelieved_7 (by decide) (fun h7 => ?_) (fun h7 => absurd (by decide) h7)
        refine lv_aload_n hx hb zd_D_findBelieved_50 rfl (lv_at hl 1 rfl) ?_
        exact zS_aret (o := some aH) hx hb hr hlk rfl rfl qH.symm zd_D_findBelieved_51
    | succ j ih =>
      intro k hk ls hl
      rcases zo_cases (zbestC C A d k) with qH | ⟨aH, qH⟩
      · rw [qH] at hl
        have hl : lv_has ls 4 [(0, .ref (cb + (31 + 3 * d))), (1, .null), (2, .int (nI k))] := hl
        refine lv_iload_n hx hb zd_D_findBelieved_4 rfl (lv_at hl 2 rfl) ?_
        refine lv_bipush (v := 9) hx hb zd_D_findBelieved_5 (by decide) ?_
        refine lv_icmp_ge (tgt := 50) hx hb zd_D_findBelieved_7 (by decide) (fun h7 => absurd h7 (nI_ge (b := 9) (by omega) (by decide))) (fun h7 => ?_)
        refine lv_aload_n hx hb zd_D_findBelieved_10 rfl (lv_at hl 0 rfl) ?_
        refine zr_get hx hb hts zin_D hown hK hP (zCL_in (by omega)) (zCE_rea ka cb C A (d := d) (by omega)) rfl 0 (by decide) (zl_D_11 hts) rfl rfl zd_D_findBelieved_11 ?_
        refine lv_iload_n hx hb zd_D_findBelieved_14 rfl (lv_at hl 2 rfl) ?_
        refine zr_aald (v := va_rf (A 2 d k)) hx hb hK hP (zCL_in (by omega)) 2 (zCE_tol ka cb C A (d := d) (by omega)) rfl (j := k) rfl (show k < 9 from by omega) (by decide) rfl zd_D_findBelieved_15 ?_
        rcases zo_cases (A 2 d k) with q16_1 | ⟨a16_1, q16_1⟩
        · refine z_topr (v := .null) (congrArg va_rf q16_1) ?_
          refine lv_astore_nN hx hb zd_D_findBelieved_16 rfl hl (by decide) rfl (fun ls hl => ?_)
          have hl : lv_has ls 4 [(3, .null), (0, .ref (cb + (31 + 3 * d))), (1, .null), (2, .int (nI k))] := hl
          refine lv_aload_nN hx hb zd_D_findBelieved_17 rfl (lv_at hl 0 rfl) ?_
          refine lv_ifnullN (tgt := 44) hx hb zd_D_findBelieved_18 (by decide) ?_
          refine lv_iinc (v := nI (k + 1)) (k := 3) hx hb zd_D_findBelieved_44 hl rfl (nI_1 _) (by decide) rfl (fun ls hl => ?_)
          have hl : lv_has ls 4 [(2, .int (nI (k + 1))), (3, .null), (0, .ref (cb + (31 + 3 * d))), (1, .null)] := hl
          refine lv_goto (tgt := 4) hx hb zd_D_findBelieved_47 (by decide) ?_
          refine ih (k + 1) (by omega) ls ?_
          first | rw [zbestC_n q16_1, qH] | rw [zbestC_f q16_1 h27, qH] | rw [zbestC_0 q16_1 h27 qH] | rw [zbestC_t q16_1 h27 qH c39] | rw [zbestC_k q16_1 qH c39, qH]
          exact lv_sub hl [2, 3, 0] rfl
        · refine z_topr (v := .ref a16_1) (congrArg va_rf q16_1) ?_
          have hp_a16_1 := hto k a16_1 (by omega) q16_1
          refine lv_astore_n hx hb zd_D_findBelieved_16 rfl hl (by decide) rfl (fun ls hl => ?_)
          have hl : lv_has ls 4 [(3, .ref a16_1), (0, .ref (cb + (31 + 3 * d))), (1, .null), (2, .int (nI k))] := hl
          refine lv_aload_n hx hb zd_D_findBelieved_17 rfl (lv_at hl 0 rfl) ?_
          refine lv_ifnull hx hb zd_D_findBelieved_18 ?_
          refine lv_aload_n hx hb zd_D_findBelieved_21 rfl (lv_at hl 1 rfl) ?_
          refine lv_aload_n hx hb zd_D_findBelieved_22 rfl (lv_at hl 0 rfl) ?_
          refine zK_calls (nA := 1) (As := [.ref a16_1]) (rest := []) zCW_blind (zc_m_D_countAlike l D ka cb P C A d a16_1 (by omega) hp_a16_1 hto) (zg_D_countAlike zk_D_44) (by decide) ⟨rfl, rfl⟩ ⟨Nat.le_of_ble_eq_true rfl, Nat.le_of_ble_eq_true rfl⟩ hx hb hml hts hown (zC_recv hK hP (zCL_in (by omega)) (zCE_rea ka cb C A (d := d) (by omega)) rfl) (zC_U hK hP hQ hz hS) hl.1 rfl rfl (Nat.le_of_ble_eq_true rfl) ⟨Nat.le_of_ble_eq_true rfl, Nat.le_of_ble_eq_true rfl⟩ zd_D_findBelieved_23 ?_
          refine lv_iconst (v := 3) hx hb zd_D_findBelieved_26 (by decide) ?_
          refine lv_icmp_lt (tgt := 44) hx hb zd_D_findBelieved_27 (by decide) (fun h27 => ?_) (fun h27 => ?_)
          · have h27 : ¬ 3 ≤ zalkC C A d a16_1 9 := fun h => absurd h27 (nI_nlt (b := 3) h (by have := zalkC_le C A d a16_1 9; omega))
            refine lv_iinc (v := nI (k + 1)) (k := 3) hx hb zd_D_findBelieved_44 hl rfl (nI_1 _) (by decide) rfl (fun ls hl => ?_)
            have hl : lv_has ls 4 [(2, .int (nI (k + 1))), (3, .ref a16_1), (0, .ref (cb + (31 + 3 * d))), (1, .null)] := hl
            refine lv_goto (tgt := 4) hx hb zd_D_findBelieved_47 (by decide) ?_
            refine ih (k + 1) (by omega) ls ?_
            first | rw [zbestC_n q16_1, qH] | rw [zbestC_f q16_1 h27, qH] | rw [zbestC_0 q16_1 h27 qH] | rw [zbestC_t q16_1 h27 qH c39] | rw [zbestC_k q16_1 qH c39, qH]
            exact lv_sub hl [2, 3, 0] rfl
          · have h27 : 3 ≤ zalkC C A d a16_1 9 := Nat.le_of_not_lt (fun h => h27 (nI_lt (b := 3) h (by decide)))
            refine lv_aload_nN hx hb zd_D_findBelieved_30 rfl (lv_at hl 2 rfl) ?_
            refine lv_ifnullN (tgt := 42) hx hb zd_D_findBelieved_31 (by decide) ?_
            refine lv_aload_n hx hb zd_D_findBelieved_42 rfl (lv_at hl 0 rfl) ?_
            refine lv_astore_n hx hb zd_D_findBelieved_43 rfl hl (by decide) rfl (fun ls hl => ?_)
            have hl : lv_has ls 4 [(1, .ref a16_1), (3, .ref a16_1), (0, .ref (cb + (31 + 3 * d))), (2, .int (nI k))] := hl
            refine lv_iinc (v := nI (k + 1)) (k := 3) hx hb zd_D_findBelieved_44 hl rfl (nI_1 _) (by decide) rfl (fun ls hl => ?_)
            have hl : lv_has ls 4 [(2, .int (nI (k + 1))), (1, .ref a16_1), (3, .ref a16_1), (0, .ref (cb + (31 + 3 * d)))] := hl
            refine lv_goto (tgt := 4) hx hb zd_D_findBelieved_47 (by decide) ?_
            refine ih (k + 1) (by omega) ls ?_
            first | rw [zbestC_n q16_1, qH] | rw [zbestC_f q16_1 h27, qH] | rw [zbestC_0 q16_1 h27 qH] | rw [zbestC_t q16_1 h27 qH c39] | rw [zbestC_k q16_1 qH c39, qH]
            exact lv_sub hl [3, 1, 0] rfl
      · rw [qH] at hl
        have hl : lv_has ls 4 [(0, .ref (cb + (31 + 3 * d))), (1, .ref aH), (2, .int (nI k))] := hl
        have hp_aH := zbestC_p hto k aH (by omega) qH
        refine lv_iload_n hx hb zd_D_findBelieved_4 rfl (lv_at hl 2 rfl) ?_
        refine lv_bipush (v := 9) hx hb zd_D_findBelieved_5 (by decide) ?_
        refine lv_icmp_ge (tgt := 50) hx hb zd_D_findBelieved_7 (by decide) (fun h7 => absurd h7 (nI_ge (b := 9) (by omega) (by decide))) (fun h7 => ?_)
        refine lv_aload_n hx hb zd_D_findBelieved_10 rfl (lv_at hl 0 rfl) ?_
        refine zr_get hx hb hts zin_D hown hK hP (zCL_in (by omega)) (zCE_rea ka cb C A (d := d) (by omega)) rfl 0 (by decide) (zl_D_11 hts) rfl rfl zd_D_findBelieved_11 ?_
        refine lv_iload_n hx hb zd_D_findBelieved_14 rfl (lv_at hl 2 rfl) ?_
        refine zr_aald (v := va_rf (A 2 d k)) hx hb hK hP (zCL_in (by omega)) 2 (zCE_tol ka cb C A (d := d) (by omega)) rfl (j := k) rfl (show k < 9 from by omega) (by decide) rfl zd_D_findBelieved_15 ?_
        rcases zo_cases (A 2 d k) with q16_1 | ⟨a16_1, q16_1⟩
        · refine z_topr (v := .null) (congrArg va_rf q16_1) ?_
          refine lv_astore_nN hx hb zd_D_findBelieved_16 rfl hl (by decide) rfl (fun ls hl => ?_)
          have hl : lv_has ls 4 [(3, .null), (0, .ref (cb + (31 + 3 * d))), (1, .ref aH), (2, .int (nI k))] := hl
          refine lv_aload_nN hx hb zd_D_findBelieved_17 rfl (lv_at hl 0 rfl) ?_
          refine lv_ifnullN (tgt := 44) hx hb zd_D_findBelieved_18 (by decide) ?_
          refine lv_iinc (v := nI (k + 1)) (k := 3) hx hb zd_D_findBelieved_44 hl rfl (nI_1 _) (by decide) rfl (fun ls hl => ?_)
          have hl : lv_has ls 4 [(2, .int (nI (k + 1))), (3, .null), (0, .ref (cb + (31 + 3 * d))), (1, .ref aH)] := hl
          refine lv_goto (tgt := 4) hx hb zd_D_findBelieved_47 (by decide) ?_
          refine ih (k + 1) (by omega) ls ?_
          first | rw [zbestC_n q16_1, qH] | rw [zbestC_f q16_1 h27, qH] | rw [zbestC_0 q16_1 h27 qH] | rw [zbestC_t q16_1 h27 qH c39] | rw [zbestC_k q16_1 qH c39, qH]
          exact lv_sub hl [2, 3, 0] rfl
        · refine z_topr (v := .ref a16_1) (congrArg va_rf q16_1) ?_
          have hp_a16_1 := hto k a16_1 (by omega) q16_1
          refine lv_astore_n hx hb zd_D_findBelieved_16 rfl hl (by decide) rfl (fun ls hl => ?_)
          have hl : lv_has ls 4 [(3, .ref a16_1), (0, .ref (cb + (31 + 3 * d))), (1, .ref aH), (2, .int (nI k))] := hl
          refine lv_aload_n hx hb zd_D_findBelieved_17 rfl (lv_at hl 0 rfl) ?_
          refine lv_ifnull hx hb zd_D_findBelieved_18 ?_
          refine lv_aload_n hx hb zd_D_findBelieved_21 rfl (lv_at hl 1 rfl) ?_
          refine lv_aload_n hx hb zd_D_findBelieved_22 rfl (lv_at hl 0 rfl) ?_
          refine zK_calls (nA := 1) (As := [.ref a16_1]) (rest := []) zCW_blind (zc_m_D_countAlike l D ka cb P C A d a16_1 (by omega) hp_a16_1 hto) (zg_D_countAlike zk_D_44) (by decide) ⟨rfl, rfl⟩ ⟨Nat.le_of_ble_eq_true rfl, Nat.le_of_ble_eq_true rfl⟩ hx hb hml hts hown (zC_recv hK hP (zCL_in (by omega)) (zCE_rea ka cb C A (d := d) (by omega)) rfl) (zC_U hK hP hQ hz hS) hl.1 rfl rfl (Nat.le_of_ble_eq_true rfl) ⟨Nat.le_of_ble_eq_true rfl, Nat.le_of_ble_eq_true rfl⟩ zd_D_findBelieved_23 ?_
          refine lv_iconst (v := 3) hx hb zd_D_findBelieved_26 (by decide) ?_
          refine lv_icmp_lt (tgt := 44) hx hb zd_D_findBelieved_27 (by decide) (fun h27 => ?_) (fun h27 => ?_)
          · have h27 : ¬ 3 ≤ zalkC C A d a16_1 9 := fun h => absurd h27 (nI_nlt (b := 3) h (by have := zalkC_le C A d a16_1 9; omega))
            refine lv_iinc (v := nI (k + 1)) (k := 3) hx hb zd_D_findBelieved_44 hl rfl (nI_1 _) (by decide) rfl (fun ls hl => ?_)
            have hl : lv_has ls 4 [(2, .int (nI (k + 1))), (3, .ref a16_1), (0, .ref (cb + (31 + 3 * d))), (1, .ref aH)] := hl
            refine lv_goto (tgt := 4) hx hb zd_D_findBelieved_47 (by decide) ?_
            refine ih (k + 1) (by omega) ls ?_
            first | rw [zbestC_n q16_1, qH] | rw [zbestC_f q16_1 h27, qH] | rw [zbestC_0 q16_1 h27 qH] | rw [zbestC_t q16_1 h27 qH c39] | rw [zbestC_k q16_1 qH c39, qH]
            exact lv_sub hl [2, 3, 0] rfl
          · have h27 : 3 ≤ zalkC C A d a16_1 9 := Nat.le_of_not_lt (fun h => h27 (nI_lt (b := 3) h (by decide)))
            refine lv_aload_n hx hb zd_D_findBelieved_30 rfl (lv_at hl 2 rfl) ?_
            refine lv_ifnull hx hb zd_D_findBelieved_31 ?_
            refine lv_aload_n hx hb zd_D_findBelieved_34 rfl (lv_at hl 0 rfl) ?_
            refine lv_aload_n hx hb zd_D_findBelieved_35 rfl (lv_at hl 2 rfl) ?_
            refine zK_calls (nA := 1) (As := [.ref aH]) (rest := []) zCW_blind (zc_m_P_isPreferredTo l D ka cb P C A a16_1 aH hp_a16_1 hp_aH) (zg_P_isPreferredTo zk_D_48) (by decide) ⟨rfl, rfl⟩ ⟨Nat.le_of_ble_eq_true rfl, Nat.le_of_ble_eq_true rfl⟩ hx hb hml hts hown (zC_recv hK hP (zCL_p hp_a16_1) (zCE_pair ka cb C A (zP_adr hQ hp_a16_1)) rfl) (zC_U hK hP hQ hz hS) hl.1 rfl rfl (Nat.le_of_ble_eq_true rfl) ⟨Nat.le_of_ble_eq_true rfl, Nat.le_of_ble_eq_true rfl⟩ zd_D_findBelieved_36 ?_
            refine lv_if_eq (tgt := 44) hx hb zd_D_findBelieved_39 (by decide) (fun h39 => ?_) (fun h39 => ?_)
            · have c39 := zb_0 h39
              refine lv_iinc (v := nI (k + 1)) (k := 3) hx hb zd_D_findBelieved_44 hl rfl (nI_1 _) (by decide) rfl (fun ls hl => ?_)
              have hl : lv_has ls 4 [(2, .int (nI (k + 1))), (3, .ref a16_1), (0, .ref (cb + (31 + 3 * d))), (1, .ref aH)] := hl
              refine lv_goto (tgt := 4) hx hb zd_D_findBelieved_47 (by decide) ?_
              refine ih (k + 1) (by omega) ls ?_
              first | rw [zbestC_n q16_1, qH] | rw [zbestC_f q16_1 h27, qH] | rw [zbestC_0 q16_1 h27 qH] | rw [zbestC_t q16_1 h27 qH c39] | rw [zbestC_k q16_1 qH c39, qH]
              exact lv_sub hl [2, 3, 0] rfl
            · have c39 := zb_1 h39
              refine lv_aload_n hx hb zd_D_findBelieved_42 rfl (lv_at hl 0 rfl) ?_
              refine lv_astore_n hx hb zd_D_findBelieved_43 rfl hl (by decide) rfl (fun ls hl => ?_)
              have hl : lv_has ls 4 [(1, .ref a16_1), (3, .ref a16_1), (0, .ref (cb + (31 + 3 * d))), (2, .int (nI k))] := hl
              refine lv_iinc (v := nI (k + 1)) (k := 3) hx hb zd_D_findBelieved_44 hl rfl (nI_1 _) (by decide) rfl (fun ls hl => ?_)
              have hl : lv_has ls 4 [(2, .int (nI (k + 1))), (1, .ref a16_1), (3, .ref a16_1), (0, .ref (cb + (31 + 3 * d)))] := hl
              refine lv_goto (tgt := 4) hx hb zd_D_findBelieved_47 (by decide) ?_
              refine ih (k + 1) (by omega) ls ?_
              first | rw [zbestC_n q16_1, qH] | rw [zbestC_f q16_1 h27, qH] | rw [zbestC_0 q16_1 h27 qH] | rw [zbestC_t q16_1 h27 qH c39] | rw [zbestC_k q16_1 qH c39, qH]
              exact lv_sub hl [3, 1, 0] rfl
  exact L4 9 0 (by omega) _ (lv_sub hl [2, 1, 0] rfl)
set_option maxRecDepth 100000 in
set_option maxHeartbeats 4000000 in
theorem zc_m_D_settle_a (l : Launch) (D : va_G) (ka : Nat → ClassId) (cb : Nat) (P : List Nat) (C : zC) (A : zA) (d a b p : Nat) (hd : d < 3) (hp : p < 4) (ha : zPa cb P a) (hb0 : zPa cb P b) (hpt : C 11 d 0 = nI p) (hrm : A 3 d p = some b) (hlt : ¬ C 22 a 0 < C 22 b 0) : Met l zy_D_settle (.code zy_D_settle zc_D_settle 3 none :: zAll) ({ frames := 0, cells := 0, slots := 0, locals := 0 }) (va_Pc [.ref (cb + (31 + 3 * d)), .ref a] (zCW D ka cb P C A)) (va_Qv (fun (_ : Unit) => True) (fun _ t => zCW D ka cb P (zs3 (zs3 C 12 d 0 (C 11 d 0)) 8 d 0 2) (zs3 (zs3 A 4 d 0 (some a)) 3 d p (some a)) t) (zCA cb)) 0 0 (zCA cb) := by
  refine z_met (by decide) (Nat.le_of_ble_eq_true rfl) ?_
  intro pg e s m below meth c hx hb hml hr hts hown hlk hnm hB ls hl
  obtain ⟨hP, hQ, hz, hK⟩ := hB
  have hS : va_S (zCA cb) s.heap s.heap [] := va_S.rf
  have hl : lv_has ls 3 [(0, .ref (cb + (31 + 3 * d))), (1, .ref a)] := hl
  refine lv_aload_n hx hb zd_D_settle_0 rfl (lv_at hl 0 rfl) ?_
  refine zr_get hx hb hts zin_D hown hK hP (zCL_in (by omega)) (zCE_rea ka cb C A (d := d) (by omega)) rfl 1 (by decide) (zl_D_17 hts) rfl rfl zd_D_settle_1 ?_
  refine lv_aload_n hx hb zd_D_settle_4 rfl (lv_at hl 0 rfl) ?_
  refine zr_get hx hb hts zin_D hown hK hP (zCL_in (by omega)) (zCE_rea ka cb C A (d := d) (by omega)) rfl 6 (by decide) (zl_D_24 hts) rfl rfl zd_D_settle_5 ?_
  refine zr_aald (v := va_rf (A 3 d p)) hx hb hK hP (zCL_in (by omega)) 2 (zCE_rem ka cb C A (d := d) (by omega)) rfl (j := p) hpt (show p < 4 from by omega) (by decide) rfl zd_D_settle_8 ?_
  refine z_topr (v := .ref b) (congrArg va_rf hrm) ?_
  refine lv_astore_n hx hb zd_D_settle_9 rfl hl (by decide) rfl (fun ls hl => ?_)
  have hl : lv_has ls 3 [(2, .ref b), (0, .ref (cb + (31 + 3 * d))), (1, .ref a)] := hl
  refine lv_aload_n hx hb zd_D_settle_10 rfl (lv_at hl 1 rfl) ?_
  refine lv_aload_n hx hb zd_D_settle_11 rfl (lv_at hl 2 rfl) ?_
  refine zr_get hx hb hts zin_P hown hK hP (zCL_p ha) (zCE_pair ka cb C A (zP_adr hQ ha)) rfl 0 (by decide) (zl_D_55 hts) rfl rfl zd_D_settle_12 ?_
  refine lv_aload_n hx hb zd_D_settle_15 rfl (lv_at hl 0 rfl) ?_
  refine zr_get hx hb hts zin_P hown hK hP (zCL_p hb0) (zCE_pair ka cb C A (zP_adr hQ hb0)) rfl 0 (by decide) (zl_D_55 hts) rfl rfl zd_D_settle_16 ?_
  refine lv_icmp_ge (tgt := 26) hx hb zd_D_settle_19 (by decide) (fun h19 => ?_) (fun h19 => absurd (Int32.not_le.mp h19) hlt)
  refine lv_aload_n hx hb zd_D_settle_26 rfl (lv_at hl 2 rfl) ?_
  refine zr_put (ty := (.object "SpanBoard$Pair")) hx hb hts zin_D zt_D zto_D znm_D hown hK hP (zC_D hQ _) hS (zCL_in (by omega)) (zCE_rea ka cb C A (d := d) (by omega)) rfl 8 (by decide) (zl_D_58 hts) rfl rfl (by decide +kernel) rfl rfl (Nat.le_of_ble_eq_true rfl) zd_D_settle_27 (fun H locs hP hS => ?_)
  have hP : zCP D ka cb P C (zs3 A 4 d 0 (some a)) H := zC_re (zCU_rea8 ka cb C A (d := d) (by omega) (some a)) hP
  refine lv_aload_n hx hb zd_D_settle_30 rfl (lv_at hl 1 rfl) ?_
  refine lv_aload_n hx hb zd_D_settle_31 rfl (lv_at hl 1 rfl) ?_
  refine zr_get hx hb hts zin_D hown hK hP (zCL_in (by omega)) (zCE_rea ka cb C (zs3 A 4 d 0 (some a)) (d := d) (by omega)) rfl 6 (by decide) (zl_D_24 hts) rfl rfl zd_D_settle_32 ?_
  refine zr_put (ty := .int) hx hb hts zin_D zt_D zto_D znm_D hown hK hP (zC_D hQ _) hS (zCL_in (by omega)) (zCE_rea ka cb C (zs3 A 4 d 0 (some a)) (d := d) (by omega)) rfl 7 (by decide) (zl_D_62 hts) rfl rfl (by decide +kernel) rfl rfl (Nat.le_of_ble_eq_true rfl) zd_D_settle_35 (fun H locs hP hS => ?_)
  have hP : zCP D ka cb P (zs3 C 12 d 0 (C 11 d 0)) (zs3 A 4 d 0 (some a)) H := zC_re (zCU_rea7 ka cb C (zs3 A 4 d 0 (some a)) (d := d) (by omega) (C 11 d 0)) hP
  refine lv_aload_n hx hb zd_D_settle_38 rfl (lv_at hl 1 rfl) ?_
  refine zr_get hx hb hts zin_D hown hK hP (zCL_in (by omega)) (zCE_rea ka cb (zs3 C 12 d 0 (C 11 d 0)) (zs3 A 4 d 0 (some a)) (d := d) (by omega)) rfl 1 (by decide) (zl_D_17 hts) rfl rfl zd_D_settle_39 ?_
  refine lv_aload_n hx hb zd_D_settle_42 rfl (lv_at hl 1 rfl) ?_
  refine zr_get hx hb hts zin_D hown hK hP (zCL_in (by omega)) (zCE_rea ka cb (zs3 C 12 d 0 (C 11 d 0)) (zs3 A 4 d 0 (some a)) (d := d) (by omega)) rfl 6 (by decide) (zl_D_24 hts) rfl rfl zd_D_settle_43 ?_
  refine lv_aload_n hx hb zd_D_settle_46 rfl (lv_at hl 1 rfl) ?_
  refine zr_get hx hb hts zin_D hown hK hP (zCL_in (by omega)) (zCE_rea ka cb (zs3 C 12 d 0 (C 11 d 0)) (zs3 A 4 d 0 (some a)) (d := d) (by omega)) rfl 8 (by decide) (zl_D_58 hts) rfl rfl zd_D_settle_47 ?_
  refine z_topr (v := .ref a) (congrArg va_rf (zs3_s A 4 d 0 (some a))) ?_
  refine zr_aast (r := (zN_P, zT_P, 3)) hx hb hK hP (zC_D hQ _) hS (zCL_in (by omega)) 2 zciP (zCE_rem ka cb (zs3 C 12 d 0 (C 11 d 0)) (zs3 A 4 d 0 (some a)) (d := d) (by omega)) rfl (zCL_p ha) (zCE_pair ka cb (zs3 C 12 d 0 (C 11 d 0)) (zs3 A 4 d 0 (some a)) (zP_adr hQ ha)) rfl (j := p) hpt (show p < 4 from by omega) (by decide) zd_D_settle_50 (fun H locs hP hS => ?_)
  have hP : zCP D ka cb P (zs3 C 12 d 0 (C 11 d 0)) (zs3 (zs3 A 4 d 0 (some a)) 3 d p (some a)) H := zC_re (zCU_rem ka cb (zs3 C 12 d 0 (C 11 d 0)) (zs3 A 4 d 0 (some a)) (d := d) (by omega) p (some a)) hP
  refine lv_aload_n hx hb zd_D_settle_51 rfl (lv_at hl 1 rfl) ?_
  refine lv_iconst (v := 2) hx hb zd_D_settle_52 (by decide) ?_
  refine zr_put (ty := .int) hx hb hts zin_D zt_D zto_D znm_D hown hK hP (zC_D hQ _) hS (zCL_in (by omega)) (zCE_rea ka cb (zs3 C 12 d 0 (C 11 d 0)) (zs3 (zs3 A 4 d 0 (some a)) 3 d p (some a)) (d := d) (by omega)) rfl 3 (by decide) (zl_D_20 hts) rfl rfl (by decide +kernel) rfl rfl (Nat.le_of_ble_eq_true rfl) zd_D_settle_53 (fun H locs hP hS => ?_)
  have hP : zCP D ka cb P (zs3 (zs3 C 12 d 0 (C 11 d 0)) 8 d 0 2) (zs3 (zs3 A 4 d 0 (some a)) 3 d p (some a)) H := zC_re (zCU_rea3 ka cb (zs3 C 12 d 0 (C 11 d 0)) (zs3 (zs3 A 4 d 0 (some a)) 3 d p (some a)) (d := d) (by omega) 2) hP
  exact zC_vret hx hb hr hlk hK hP hQ hz hS rfl rfl zd_D_settle_56
set_option maxRecDepth 100000 in
set_option maxHeartbeats 4000000 in
theorem zc_m_D_settle_b (l : Launch) (D : va_G) (ka : Nat → ClassId) (cb : Nat) (P : List Nat) (C : zC) (A : zA) (d a b p : Nat) (hd : d < 3) (hp : p < 4) (ha : zPa cb P a) (hb0 : zPa cb P b) (hpt : C 11 d 0 = nI p) (hrm : A 3 d p = some b) (hlt : C 22 a 0 < C 22 b 0) : Met l zy_D_settle (.code zy_D_settle zc_D_settle 3 none :: zAll) ({ frames := 0, cells := 0, slots := 0, locals := 0 }) (va_Pc [.ref (cb + (31 + 3 * d)), .ref a] (zCW D ka cb P C A)) (va_Qv (fun (_ : Unit) => True) (fun _ t => zCW D ka cb P (zs3 (zs3 C 12 d 0 (C 11 d 0)) 8 d 0 2) (zs3 (zs3 A 4 d 0 (some b)) 3 d p (some b)) t) (zCA cb)) 0 0 (zCA cb) := by
  refine z_met (by decide) (Nat.le_of_ble_eq_true rfl) ?_
  intro pg e s m below meth c hx hb hml hr hts hown hlk hnm hB ls hl
  obtain ⟨hP, hQ, hz, hK⟩ := hB
  have hS : va_S (zCA cb) s.heap s.heap [] := va_S.rf
  have hl : lv_has ls 3 [(0, .ref (cb + (31 + 3 * d))), (1, .ref a)] := hl
  refine lv_aload_n hx hb zd_D_settle_0 rfl (lv_at hl 0 rfl) ?_
  refine zr_get hx hb hts zin_D hown hK hP (zCL_in (by omega)) (zCE_rea ka cb C A (d := d) (by omega)) rfl 1 (by decide) (zl_D_17 hts) rfl rfl zd_D_settle_1 ?_
  refine lv_aload_n hx hb zd_D_settle_4 rfl (lv_at hl 0 rfl) ?_
  refine zr_get hx hb hts zin_D hown hK hP (zCL_in (by omega)) (zCE_rea ka cb C A (d := d) (by omega)) rfl 6 (by decide) (zl_D_24 hts) rfl rfl zd_D_settle_5 ?_
  refine zr_aald (v := va_rf (A 3 d p)) hx hb hK hP (zCL_in (by omega)) 2 (zCE_rem ka cb C A (d := d) (by omega)) rfl (j := p) hpt (show p < 4 from by omega) (by decide) rfl zd_D_settle_8 ?_
  refine z_topr (v := .ref b) (congrArg va_rf hrm) ?_
  refine lv_astore_n hx hb zd_D_settle_9 rfl hl (by decide) rfl (fun ls hl => ?_)
  have hl : lv_has ls 3 [(2, .ref b), (0, .ref (cb + (31 + 3 * d))), (1, .ref a)] := hl
  refine lv_aload_n hx hb zd_D_settle_10 rfl (lv_at hl 1 rfl) ?_
  refine lv_aload_n hx hb zd_D_settle_11 rfl (lv_at hl 2 rfl) ?_
  refine zr_get hx hb hts zin_P hown hK hP (zCL_p ha) (zCE_pair ka cb C A (zP_adr hQ ha)) rfl 0 (by decide) (zl_D_55 hts) rfl rfl zd_D_settle_12 ?_
  refine lv_aload_n hx hb zd_D_settle_15 rfl (lv_at hl 0 rfl) ?_
  refine zr_get hx hb hts zin_P hown hK hP (zCL_p hb0) (zCE_pair ka cb C A (zP_adr hQ hb0)) rfl 0 (by decide) (zl_D_55 hts) rfl rfl zd_D_settle_16 ?_
  refine lv_icmp_ge (tgt := 26) hx hb zd_D_settle_19 (by decide) (fun h19 => absurd hlt (Int32.not_lt.mpr h19)) (fun h19 => ?_)
  refine lv_aload_n hx hb zd_D_settle_22 rfl (lv_at hl 0 rfl) ?_
  refine lv_goto (tgt := 27) hx hb zd_D_settle_23 (by decide) ?_
  refine zr_put (ty := (.object "SpanBoard$Pair")) hx hb hts zin_D zt_D zto_D znm_D hown hK hP (zC_D hQ _) hS (zCL_in (by omega)) (zCE_rea ka cb C A (d := d) (by omega)) rfl 8 (by decide) (zl_D_58 hts) rfl rfl (by decide +kernel) rfl rfl (Nat.le_of_ble_eq_true rfl) zd_D_settle_27 (fun H locs hP hS => ?_)
  have hP : zCP D ka cb P C (zs3 A 4 d 0 (some b)) H := zC_re (zCU_rea8 ka cb C A (d := d) (by omega) (some b)) hP
  refine lv_aload_n hx hb zd_D_settle_30 rfl (lv_at hl 1 rfl) ?_
  refine lv_aload_n hx hb zd_D_settle_31 rfl (lv_at hl 1 rfl) ?_
  refine zr_get hx hb hts zin_D hown hK hP (zCL_in (by omega)) (zCE_rea ka cb C (zs3 A 4 d 0 (some b)) (d := d) (by omega)) rfl 6 (by decide) (zl_D_24 hts) rfl rfl zd_D_settle_32 ?_
  refine zr_put (ty := .int) hx hb hts zin_D zt_D zto_D znm_D hown hK hP (zC_D hQ _) hS (zCL_in (by omega)) (zCE_rea ka cb C (zs3 A 4 d 0 (some b)) (d := d) (by omega)) rfl 7 (by decide) (zl_D_62 hts) rfl rfl (by decide +kernel) rfl rfl (Nat.le_of_ble_eq_true rfl) zd_D_settle_35 (fun H locs hP hS => ?_)
  have hP : zCP D ka cb P (zs3 C 12 d 0 (C 11 d 0)) (zs3 A 4 d 0 (some b)) H := zC_re (zCU_rea7 ka cb C (zs3 A 4 d 0 (some b)) (d := d) (by omega) (C 11 d 0)) hP
  refine lv_aload_n hx hb zd_D_settle_38 rfl (lv_at hl 1 rfl) ?_
  refine zr_get hx hb hts zin_D hown hK hP (zCL_in (by omega)) (zCE_rea ka cb (zs3 C 12 d 0 (C 11 d 0)) (zs3 A 4 d 0 (some b)) (d := d) (by omega)) rfl 1 (by decide) (zl_D_17 hts) rfl rfl zd_D_settle_39 ?_
  refine lv_aload_n hx hb zd_D_settle_42 rfl (lv_at hl 1 rfl) ?_
  refine zr_get hx hb hts zin_D hown hK hP (zCL_in (by omega)) (zCE_rea ka cb (zs3 C 12 d 0 (C 11 d 0)) (zs3 A 4 d 0 (some b)) (d := d) (by omega)) rfl 6 (by decide) (zl_D_24 hts) rfl rfl zd_D_settle_43 ?_
  refine lv_aload_n hx hb zd_D_settle_46 rfl (lv_at hl 1 rfl) ?_
  refine zr_get hx hb hts zin_D hown hK hP (zCL_in (by omega)) (zCE_rea ka cb (zs3 C 12 d 0 (C 11 d 0)) (zs3 A 4 d 0 (some b)) (d := d) (by omega)) rfl 8 (by decide) (zl_D_58 hts) rfl rfl zd_D_settle_47 ?_
  refine z_topr (v := .ref b) (congrArg va_rf (zs3_s A 4 d 0 (some b))) ?_
  refine zr_aast (r := (zN_P, zT_P, 3)) hx hb hK hP (zC_D hQ _) hS (zCL_in (by omega)) 2 zciP (zCE_rem ka cb (zs3 C 12 d 0 (C 11 d 0)) (zs3 A 4 d 0 (some b)) (d := d) (by omega)) rfl (zCL_p hb0) (zCE_pair ka cb (zs3 C 12 d 0 (C 11 d 0)) (zs3 A 4 d 0 (some b)) (zP_adr hQ hb0)) rfl (j := p) hpt (show p < 4 from by omega) (by decide) zd_D_settle_50 (fun H locs hP hS => ?_)
  have hP : zCP D ka cb P (zs3 C 12 d 0 (C 11 d 0)) (zs3 (zs3 A 4 d 0 (some b)) 3 d p (some b)) H := zC_re (zCU_rem ka cb (zs3 C 12 d 0 (C 11 d 0)) (zs3 A 4 d 0 (some b)) (d := d) (by omega) p (some b)) hP
  refine lv_aload_n hx hb zd_D_settle_51 rfl (lv_at hl 1 rfl) ?_
  refine lv_iconst (v := 2) hx hb zd_D_settle_52 (by decide) ?_
  refine zr_put (ty := .int) hx hb hts zin_D zt_D zto_D znm_D hown hK hP (zC_D hQ _) hS (zCL_in (by omega)) (zCE_rea ka cb (zs3 C 12 d 0 (C 11 d 0)) (zs3 (zs3 A 4 d 0 (some b)) 3 d p (some b)) (d := d) (by omega)) rfl 3 (by decide) (zl_D_20 hts) rfl rfl (by decide +kernel) rfl rfl (Nat.le_of_ble_eq_true rfl) zd_D_settle_53 (fun H locs hP hS => ?_)
  have hP : zCP D ka cb P (zs3 (zs3 C 12 d 0 (C 11 d 0)) 8 d 0 2) (zs3 (zs3 A 4 d 0 (some b)) 3 d p (some b)) H := zC_re (zCU_rea3 ka cb (zs3 C 12 d 0 (C 11 d 0)) (zs3 (zs3 A 4 d 0 (some b)) 3 d p (some b)) (d := d) (by omega) 2) hP
  exact zC_vret hx hb hr hlk hK hP hQ hz hS rfl rfl zd_D_settle_56
set_option maxRecDepth 100000 in
set_option maxHeartbeats 4000000 in
theorem zc_m_O_take (l : Launch) (D : va_G) (ka : Nat → ClassId) (cb : Nat) (P : List Nat) (C : zC) (A : zA) (c0 i : Nat) (σ : Nat → Nat) (hc : C 13 0 0 = nI c0) (hc1 : c0 ≤ 300) (hi : i < c0) (hσ : ∀ k, k < 300 → A 5 0 k = some (cb + (42 + σ k)) ∧ σ k < 300) : Met l zy_O_take (.code zy_O_take zc_O_take 4 (some (.object "SpanBoard$Letter")) :: zAll) ({ frames := 0, cells := 0, slots := 0, locals := 0 }) (va_Pc [.ref (cb + 40), .int (nI i)] (zCW D ka cb P C A)) (va_Qr (fun (_ : Unit) => True) (fun _ x t => x = (cb + (42 + σ i)) ∧ zCW D ka cb P (zs3 C 13 0 0 (C 13 0 0 - 1)) (zA5 A (va_up (zrow (A 5 0) i (c0 - 1)) (c0 - 1) (A 5 0 i))) t) (zCA cb)) 0 0 (zCA cb) := by
  refine z_met (by decide) (Nat.le_of_ble_eq_true rfl) ?_
  intro pg e s m below meth c hx hb hml hr hts hown hlk hnm hB ls hl
  obtain ⟨hP, hQ, hz, hK⟩ := hB
  have hS : va_S (zCA cb) s.heap s.heap [] := va_S.rf
  have hl : lv_has ls 4 [(0, .ref (cb + 40)), (1, .int (nI i))] := hl
  refine lv_aload_n hx hb zd_O_take_0 rfl (lv_at hl 0 rfl) ?_
  refine zr_get hx hb hts zin_O hown hK hP (zCL_in (by omega)) (zCE_post ka cb C A) rfl 0 (by decide) (zl_O_11 hts) rfl rfl zd_O_take_1 ?_
  refine lv_iload_n hx hb zd_O_take_4 rfl (lv_at hl 1 rfl) ?_
  refine zr_aald (v := va_rf (A 5 0 i)) hx hb hK hP (zCL_in (by omega)) 3 (zCE_row ka cb C A) rfl (j := i) rfl (show i < 300 from by omega) (by decide) rfl zd_O_take_5 ?_
  have hs_0 := hσ i (by omega)
  have hs2_1 := hs_0.2
  refine z_topr (v := .ref (cb + (42 + σ i))) (congrArg va_rf hs_0.1) ?_
  refine lv_astore_n hx hb zd_O_take_6 rfl hl (by decide) rfl (fun ls hl => ?_)
  have hl : lv_has ls 4 [(2, .ref (cb + (42 + σ i))), (0, .ref (cb + 40)), (1, .int (nI i))] := hl
  refine lv_aload_n hx hb zd_O_take_7 rfl (lv_at hl 1 rfl) ?_
  refine lv_dup hx hb zd_O_take_8 rfl ?_
  refine zr_get hx hb hts zin_O hown hK hP (zCL_in (by omega)) (zCE_post ka cb C A) rfl 1 (by decide) (zl_O_18 hts) rfl rfl zd_O_take_9 ?_
  refine lv_iconst (v := 1) hx hb zd_O_take_12 (by decide) ?_
  refine lv_isub hx hb zd_O_take_13 ?_
  refine zr_put (ty := .int) hx hb hts zin_O zt_O zto_O znm_O hown hK hP (zC_D hQ _) hS (zCL_in (by omega)) (zCE_post ka cb C A) rfl 1 (by decide) (zl_O_18 hts) rfl rfl (by decide +kernel) rfl rfl (Nat.le_of_ble_eq_true rfl) zd_O_take_14 (fun H locs hP hS => ?_)
  have hP : zCP D ka cb P (zs3 C 13 0 0 ((C 13 0 0) - 1)) A H := zC_re (zCU_post1 ka cb C A ((C 13 0 0) - 1)) hP
  refine lv_iload_n hx hb zd_O_take_17 rfl (lv_at hl 2 rfl) ?_
  refine lv_istore_n hx hb zd_O_take_18 rfl hl (by decide) rfl (fun ls hl => ?_)
  have hl : lv_has ls 4 [(3, .int (nI i)), (2, .ref (cb + (42 + σ i))), (0, .ref (cb + 40)), (1, .int (nI i))] := hl
  have L19 : ∀ (j k : Nat), k + j = c0 - 1 → i ≤ k → ∀ (H : Heap) (locs : List Loc) (ls : Array Slot), lv_has ls 4 [(0, .ref (cb + 40)), (1, .int (nI i)), (2, .ref (cb + (42 + σ i))), (3, .int (nI k))] → zCP D ka cb P (zs3 C 13 0 0 (C 13 0 0 - 1)) (zA5 A (zrow (A 5 0) i k)) H → va_S (zCA cb) s.heap H locs → W pg l e ({ frames := 0, cells := 0, slots := 0, locals := 0 }) s m (List.toArray [.ref (cb + 40), .int (nI i)]) below meth c H locs 0 0 (MQ below (va_Qr (fun (_ : Unit) => True) (fun _ x t => x = (cb + (42 + σ i)) ∧ zCW D ka cb P (zs3 C 13 0 0 (C 13 0 0 - 1)) (zA5 A (va_up (zrow (A 5 0) i (c0 - 1)) (c0 - 1) (A 5 0 i))) t) (zCA cb)) (List.toArray [.ref (cb + 40), .int (nI i)]) s 0 0 (zCA cb)) (F0 m 19 ls []) := by
    intro j
    induction j with
    | zero =>
      intro k hk hik H locs ls hl hP hS
      have hk : k = c0 - 1 := by omega
      subst hk
      refine lv_iload_n hx hb zd_O_take_19 rfl (lv_at hl 3 rfl) ?_
      refine lv_aload_n hx hb zd_O_take_20 rfl (lv_at hl 0 rfl) ?_
      refine zr_get hx hb hts zin_O hown hK hP (zCL_in (by omega)) (zCE_post ka cb (zs3 C 13 0 0 (C 13 0 0 - 1)) (zA5 A (zrow (A 5 0) i (c0 - 1)))) rfl 1 (by decide) (zl_O_18 hts) rfl rfl zd_O_take_21 ?_
      refine z_top (y := nI (c0 - 1)) (by rw [zs3_s, hc]; exact zn_sub1 (by omega)) ?_
      refine lv_icmp_ge (tgt := 47) hx hb zd_O_take_24 (by decide) (fun h24 => ?_) (fun h24 => absurd (nI_le (Nat.le_refl _) (by omega)) h24)
      refine lv_aload_n hx hb zd_O_take_47 rfl (lv_at hl 0 rfl) ?_
      refine zr_get hx hb hts zin_O hown hK hP (zCL_in (by omega)) (zCE_post ka cb (zs3 C 13 0 0 (C 13 0 0 - 1)) (zA5 A (zrow (A 5 0) i (c0 - 1)))) rfl 0 (by decide) (zl_O_11 hts) rfl rfl zd_O_take_48 ?_
      refine lv_aload_n hx hb zd_O_take_51 rfl (lv_at hl 0 rfl) ?_
      refine zr_get hx hb hts zin_O hown hK hP (zCL_in (by omega)) (zCE_post ka cb (zs3 C 13 0 0 (C 13 0 0 - 1)) (zA5 A (zrow (A 5 0) i (c0 - 1)))) rfl 1 (by decide) (zl_O_18 hts) rfl rfl zd_O_take_52 ?_
      refine z_top (y := nI (c0 - 1)) (by rw [zs3_s, hc]; exact zn_sub1 (by omega)) ?_
      refine lv_aload_n hx hb zd_O_take_55 rfl (lv_at hl 2 rfl) ?_
      have hsi := (hσ i (by omega)).2
      refine zr_aast (r := (zN_L, zT_L, 6)) hx hb hK hP (zC_D hQ _) hS (zCL_in (by omega)) 3 zciL (zCE_row ka cb (zs3 C 13 0 0 (C 13 0 0 - 1)) (zA5 A (zrow (A 5 0) i (c0 - 1)))) rfl (zCL_in (by omega)) (zCE_let ka cb (zs3 C 13 0 0 (C 13 0 0 - 1)) (zA5 A (zrow (A 5 0) i (c0 - 1))) (j := σ i) (by omega)) rfl (j := (c0 - 1)) rfl (show (c0 - 1) < 300 from by omega) (by decide) zd_O_take_56 (fun H locs hP hS => ?_)
      have hP : zCP D ka cb P (zs3 C 13 0 0 (C 13 0 0 - 1)) (zs3 (zA5 A (zrow (A 5 0) i (c0 - 1))) 5 0 (c0 - 1) (some (cb + (42 + σ i)))) H := zC_re (zCU_row ka cb (zs3 C 13 0 0 (C 13 0 0 - 1)) (zA5 A (zrow (A 5 0) i (c0 - 1))) (c0 - 1) (some (cb + (42 + σ i)))) hP
      refine lv_aload_n hx hb zd_O_take_57 rfl (lv_at hl 2 rfl) ?_
      exact zC_aret hx hb hr hlk hK hP hQ hz hS rfl (by rw [zs3_A5, (hσ i (by omega)).1]) rfl zd_O_take_58
    | succ j ih =>
      intro k hk hik H locs ls hl hP hS
      refine lv_iload_n hx hb zd_O_take_19 rfl (lv_at hl 3 rfl) ?_
      refine lv_aload_n hx hb zd_O_take_20 rfl (lv_at hl 0 rfl) ?_
      refine zr_get hx hb hts zin_O hown hK hP (zCL_in (by omega)) (zCE_post ka cb (zs3 C 13 0 0 (C 13 0 0 - 1)) (zA5 A (zrow (A 5 0) i k))) rfl 1 (by decide) (zl_O_18 hts) rfl rfl zd_O_take_21 ?_
      refine z_top (y := nI (c0 - 1)) (by rw [zs3_s, hc]; exact zn_sub1 (by omega)) ?_
      refine lv_icmp_ge (tgt := 47) hx hb zd_O_take_24 (by decide) (fun h24 => absurd h24 (nI_ge (by omega) (by omega))) (fun h24 => ?_)
      refine lv_aload_n hx hb zd_O_take_27 rfl (lv_at hl 0 rfl) ?_
      refine zr_get hx hb hts zin_O hown hK hP (zCL_in (by omega)) (zCE_post ka cb (zs3 C 13 0 0 (C 13 0 0 - 1)) (zA5 A (zrow (A 5 0) i k))) rfl 0 (by decide) (zl_O_11 hts) rfl rfl zd_O_take_28 ?_
      refine lv_iload_n hx hb zd_O_take_31 rfl (lv_at hl 3 rfl) ?_
      refine lv_aload_n hx hb zd_O_take_32 rfl (lv_at hl 0 rfl) ?_
      refine zr_get hx hb hts zin_O hown hK hP (zCL_in (by omega)) (zCE_post ka cb (zs3 C 13 0 0 (C 13 0 0 - 1)) (zA5 A (zrow (A 5 0) i k))) rfl 0 (by decide) (zl_O_11 hts) rfl rfl zd_O_take_33 ?_
      refine lv_iload_n hx hb zd_O_take_36 rfl (lv_at hl 3 rfl) ?_
      refine lv_iconst (v := 1) hx hb zd_O_take_37 (by decide) ?_
      refine lv_iadd hx hb zd_O_take_38 ?_
      refine z_top (nI_add _ _) ?_
      refine zr_aald (v := va_rf ((zA5 A (zrow (A 5 0) i k)) 5 0 (k + 1))) hx hb hK hP (zCL_in (by omega)) 3 (zCE_row ka cb (zs3 C 13 0 0 (C 13 0 0 - 1)) (zA5 A (zrow (A 5 0) i k))) rfl (j := (k + 1)) rfl (show (k + 1) < 300 from by omega) (by decide) rfl zd_O_take_39 ?_
      have hs_k := hσ (k + 1) (by omega)
      have hs2_k := hs_k.2
      have hs3_k : (zA5 A (zrow (A 5 0) i k)) 5 0 (k + 1) = some (cb + (42 + σ (k + 1))) := by rw [zA5_50, zrow, if_neg (by omega)]; exact hs_k.1
      refine z_topr (v := .ref (cb + (42 + σ (k + 1)))) (congrArg va_rf hs3_k) ?_
      refine zr_aast (r := (zN_L, zT_L, 6)) hx hb hK hP (zC_D hQ _) hS (zCL_in (by omega)) 3 zciL (zCE_row ka cb (zs3 C 13 0 0 (C 13 0 0 - 1)) (zA5 A (zrow (A 5 0) i k))) rfl (zCL_in (by omega)) (zCE_let ka cb (zs3 C 13 0 0 (C 13 0 0 - 1)) (zA5 A (zrow (A 5 0) i k)) (j := σ (k + 1)) (by omega)) rfl (j := k) rfl (show k < 300 from by omega) (by decide) zd_O_take_40 (fun H locs hP hS => ?_)
      have hP : zCP D ka cb P (zs3 C 13 0 0 (C 13 0 0 - 1)) (zs3 (zA5 A (zrow (A 5 0) i k)) 5 0 k (some (cb + (42 + σ (k + 1))))) H := zC_re (zCU_row ka cb (zs3 C 13 0 0 (C 13 0 0 - 1)) (zA5 A (zrow (A 5 0) i k)) k (some (cb + (42 + σ (k + 1))))) hP
      refine lv_iinc (v := nI (k + 1)) (k := 3) hx hb zd_O_take_41 hl rfl (nI_1 _) (by decide) rfl (fun ls hl => ?_)
      have hl : lv_has ls 4 [(3, .int (nI (k + 1))), (0, .ref (cb + 40)), (1, .int (nI i)), (2, .ref (cb + (42 + σ i)))] := hl
      refine lv_goto (tgt := 19) hx hb zd_O_take_44 (by decide) ?_
      exact ih (k + 1) (by omega) (by omega) H locs ls (lv_sub hl [1, 2, 3, 0] rfl) (by rw [zs3_A5, ← hs_k.1, zrow_s _ _ _ hik] at hP; exact hP) hS
  exact L19 (c0 - 1 - i) i (by omega) (Nat.le_refl _) _ _ _ (lv_sub hl [2, 3, 1, 0] rfl) (by rw [zrow_0]; exact hP) hS
set_option maxRecDepth 100000 in
set_option maxHeartbeats 4000000 in
theorem zc_m_P_init (l : Launch) (D : va_G) (ka : Nat → ClassId) (cb : Nat) (P : List Nat) (C : zC) (A : zA) (a : Nat) (ha : zPa cb P a) (n0 lo hi : Int32) : Met l zy_P_init (.code zy_P_init zc_P_init 4 none :: zAll) ({ frames := 1, cells := 0, slots := 0, locals := 32 }) (va_Pc [.ref a, .int n0, .int lo, .int hi] (zCW D ka cb P C A)) (va_Qv (fun (_ : Unit) => True) (fun _ t => zCW D ka cb P (zs3 (zs3 (zs3 C 22 a 0 n0) 23 a 0 lo) 24 a 0 hi) A t) (zCA cb)) 0 0 (zCA cb) := by
  refine z_met (by decide) (Nat.le_of_ble_eq_true rfl) ?_
  intro pg e s m below meth c hx hb hml hr hts hown hlk hnm hB ls hl
  obtain ⟨hP, hQ, hz, hK⟩ := hB
  have hS : va_S (zCA cb) s.heap s.heap [] := va_S.rf
  have hl : lv_has ls 4 [(0, .ref a), (1, .int n0), (2, .int lo), (3, .int hi)] := hl
  refine lv_aload_n hx hb zd_P_init_0 rfl (lv_at hl 0 rfl) ?_
  refine W.objInit hx hb hown (hts _ zk_P_3) (hts _ zobj_i) (hts _ zobj_c) rfl (by rw [hml]; exact hl.1) rfl zd_P_init_1 (Nat.le_of_ble_eq_true rfl) (Nat.le_of_ble_eq_true rfl) ?_
  refine W.eq (g2 := F0 m 4 ls []) rfl ?_
  refine lv_aload_n hx hb zd_P_init_4 rfl (lv_at hl 0 rfl) ?_
  refine lv_iload_n hx hb zd_P_init_5 rfl (lv_at hl 1 rfl) ?_
  refine zr_putF (ty := .int) hx hb hts zin_P zt_P zto_P znm_P hown hK hP (zC_D hQ _) hS (zCL_p ha) (zCE_pair ka cb C A (zP_adr hQ ha)) rfl 0 (by decide) (zl_P_9 hts) rfl rfl hnm rfl (by decide +kernel) rfl rfl (Nat.le_of_ble_eq_true rfl) zd_P_init_6 (fun H locs hP hS => ?_)
  have hP : zCP D ka cb P (zs3 C 22 a 0 n0) A H := zC_re (zCU_pair0 ka cb C A (zP_adr hQ ha) n0) hP
  refine lv_aload_n hx hb zd_P_init_9 rfl (lv_at hl 0 rfl) ?_
  refine lv_iload_n hx hb zd_P_init_10 rfl (lv_at hl 2 rfl) ?_
  refine zr_putF (ty := .int) hx hb hts zin_P zt_P zto_P znm_P hown hK hP (zC_D hQ _) hS (zCL_p ha) (zCE_pair ka cb (zs3 C 22 a 0 n0) A (zP_adr hQ ha)) rfl 1 (by decide) (zl_P_15 hts) rfl rfl hnm rfl (by decide +kernel) rfl rfl (Nat.le_of_ble_eq_true rfl) zd_P_init_11 (fun H locs hP hS => ?_)
  have hP : zCP D ka cb P (zs3 (zs3 C 22 a 0 n0) 23 a 0 lo) A H := zC_re (zCU_pair1 ka cb (zs3 C 22 a 0 n0) A (zP_adr hQ ha) lo) hP
  refine lv_aload_n hx hb zd_P_init_14 rfl (lv_at hl 0 rfl) ?_
  refine lv_iload_n hx hb zd_P_init_15 rfl (lv_at hl 3 rfl) ?_
  refine zr_putF (ty := .int) hx hb hts zin_P zt_P zto_P znm_P hown hK hP (zC_D hQ _) hS (zCL_p ha) (zCE_pair ka cb (zs3 (zs3 C 22 a 0 n0) 23 a 0 lo) A (zP_adr hQ ha)) rfl 2 (by decide) (zl_P_18 hts) rfl rfl hnm rfl (by decide +kernel) rfl rfl (Nat.le_of_ble_eq_true rfl) zd_P_init_16 (fun H locs hP hS => ?_)
  have hP : zCP D ka cb P (zs3 (zs3 (zs3 C 22 a 0 n0) 23 a 0 lo) 24 a 0 hi) A H := zC_re (zCU_pair2 ka cb (zs3 (zs3 C 22 a 0 n0) 23 a 0 lo) A (zP_adr hQ ha) hi) hP
  exact zC_vret hx hb hr hlk hK hP hQ hz hS rfl rfl zd_P_init_19
set_option maxRecDepth 100000 in
set_option maxHeartbeats 4000000 in
theorem zc_m_W_begin (l : Launch) (D : va_G) (ka : Nat → ClassId) (cb : Nat) (P : List Nat) (C : zC) (A : zA) (p a : Nat) (hp : p < 4) (ha : zPa cb P a) (hla : A 1 p 0 = some a) (lo hi : Int32) : Met l zy_W_begin (.code zy_W_begin zc_W_begin 3 none :: zAll) ({ frames := 2, cells := 1, slots := 3, locals := 55 }) (va_Pc [.ref (cb + (22 + 2 * p)), .int lo, .int hi] (zCW D ka cb P C A)) (va_Qv (fun (_ : Unit) => True) (fun _ t => ∃ q, q ∉ zCL cb P ∧ zCW D ka cb (P ++ [q]) (zs3 (zclr (zs3 (zs3 (zs3 (zs3 (zs3 (zs3 (zs3 C 22 q 0 0) 23 q 0 0) 24 q 0 0) 22 q 0 (C 22 a 0 + 1)) 23 q 0 lo) 24 q 0 hi) 5 p 0 1) p 9) 4 p 0 0) (zs3 A 1 p 0 (some q)) t) (zCA cb)) 1 3 (zCA cb) := by
  refine z_met (by decide) (Nat.le_of_ble_eq_true rfl) ?_
  intro pg e s m below meth c hx hb hml hr hts hown hlk hnm hB ls hl
  obtain ⟨hP, hQ, hz, hK⟩ := hB
  have hS : va_S (zCA cb) s.heap s.heap [] := va_S.rf
  have hl : lv_has ls 3 [(0, .ref (cb + (22 + 2 * p))), (1, .int lo), (2, .int hi)] := hl
  refine lv_aload_n hx hb zd_W_begin_0 rfl (lv_at hl 0 rfl) ?_
  refine zC_newP hx hb hts hown (hts _ zcl_W_19) (hts _ zis_P) (hts _ zit_P) hK hP hQ hz hS (Nat.le_of_ble_eq_true rfl) (Nat.le_of_ble_eq_true rfl) zd_W_begin_1 (fun q1 H hnq hQ hP hS => ?_)
  refine lv_dup hx hb zd_W_begin_4 rfl ?_
  refine lv_aload_n hx hb zd_W_begin_5 rfl (lv_at hl 0 rfl) ?_
  refine zr_get hx hb hts zin_W hown hK hP (zCL_in (by omega)) (zCE_wri ka cb (zs3 (zs3 (zs3 C 22 q1 0 0) 23 q1 0 0) 24 q1 0 0) A (p := p) (by omega)) rfl 2 (by decide) (zl_W_15 hts) rfl rfl zd_W_begin_6 ?_
  refine z_topr (v := .ref a) (congrArg va_rf hla) ?_
  refine zr_get hx hb hts zin_P hown hK hP (zCL_p (zPa_l ha)) (zCE_pair ka cb (zs3 (zs3 (zs3 C 22 q1 0 0) 23 q1 0 0) 24 q1 0 0) A (zP_adr hQ (zPa_l ha))) rfl 0 (by decide) (zl_W_21 hts) rfl rfl zd_W_begin_9 ?_
  refine z_top (y := C 22 a 0) (by rw [zs3_k (by decide), zs3_k (by decide), zs3_o (fun h => hnq (by rw [← h]; exact zCL_p ha))]) ?_
  refine lv_iconst (v := 1) hx hb zd_W_begin_12 (by decide) ?_
  refine lv_iadd hx hb zd_W_begin_13 ?_
  refine lv_iload_n hx hb zd_W_begin_14 rfl (lv_at hl 1 rfl) ?_
  refine lv_iload_n hx hb zd_W_begin_15 rfl (lv_at hl 2 rfl) ?_
  refine zK_callI (nA := 3) (As := [.int ((C 22 a 0) + 1), .int lo, .int hi]) (rest := [.ref q1, .ref (cb + (22 + 2 * p))]) zCW_blind (zc_m_P_init l D ka cb (P ++ [q1]) (zs3 (zs3 (zs3 C 22 q1 0 0) 23 q1 0 0) 24 q1 0 0) A q1 zPa_r ((C 22 a 0) + 1) lo hi) zh_P_init zit_P zim_P_init zk_W_25 rfl (by decide) ⟨rfl, rfl⟩ ⟨Nat.le_of_ble_eq_true rfl, Nat.le_of_ble_eq_true rfl⟩ hx hb hml hts hown (zC_U hK hP hQ hz hS) hS (fun _ h => h) hl.1 rfl rfl (Nat.le_of_ble_eq_true rfl) ⟨Nat.le_of_ble_eq_true rfl, Nat.le_of_ble_eq_true rfl⟩ zd_W_begin_16 (fun t locs hvm hB hS _ _ => ?_)
  obtain ⟨hP, -, -, -⟩ := hB
  generalize t.heap = H at hP hS ⊢
  refine zr_put (ty := (.object "SpanBoard$Pair")) hx hb hts zin_W zt_W zto_W znm_W hown hK hP (zC_D hQ _) hS (zCL_in (by omega)) (zCE_wri ka cb (zs3 (zs3 (zs3 (zs3 (zs3 (zs3 C 22 q1 0 0) 23 q1 0 0) 24 q1 0 0) 22 q1 0 ((C 22 a 0) + 1)) 23 q1 0 lo) 24 q1 0 hi) A (p := p) (by omega)) rfl 2 (by decide) (zl_W_15 hts) rfl rfl (by decide +kernel) rfl rfl (Nat.le_of_ble_eq_true rfl) zd_W_begin_19 (fun H locs hP hS => ?_)
  have hP : zCP D ka cb (P ++ [q1]) (zs3 (zs3 (zs3 (zs3 (zs3 (zs3 C 22 q1 0 0) 23 q1 0 0) 24 q1 0 0) 22 q1 0 ((C 22 a 0) + 1)) 23 q1 0 lo) 24 q1 0 hi) (zs3 A 1 p 0 (some q1)) H := zC_re (zCU_wri2 ka cb (zs3 (zs3 (zs3 (zs3 (zs3 (zs3 C 22 q1 0 0) 23 q1 0 0) 24 q1 0 0) 22 q1 0 ((C 22 a 0) + 1)) 23 q1 0 lo) 24 q1 0 hi) A (p := p) (by omega) (some q1)) hP
  refine lv_aload_n hx hb zd_W_begin_22 rfl (lv_at hl 0 rfl) ?_
  refine lv_iconst (v := 1) hx hb zd_W_begin_23 (by decide) ?_
  refine zr_put (ty := .boolean) hx hb hts zin_W zt_W zto_W znm_W hown hK hP (zC_D hQ _) hS (zCL_in (by omega)) (zCE_wri ka cb (zs3 (zs3 (zs3 (zs3 (zs3 (zs3 C 22 q1 0 0) 23 q1 0 0) 24 q1 0 0) 22 q1 0 ((C 22 a 0) + 1)) 23 q1 0 lo) 24 q1 0 hi) (zs3 A 1 p 0 (some q1)) (p := p) (by omega)) rfl 3 (by decide) (zl_W_28 hts) rfl rfl (by decide +kernel) rfl rfl (Nat.le_of_ble_eq_true rfl) zd_W_begin_24 (fun H locs hP hS => ?_)
  have hP : zCP D ka cb (P ++ [q1]) (zs3 (zs3 (zs3 (zs3 (zs3 (zs3 (zs3 C 22 q1 0 0) 23 q1 0 0) 24 q1 0 0) 22 q1 0 ((C 22 a 0) + 1)) 23 q1 0 lo) 24 q1 0 hi) 5 p 0 1) (zs3 A 1 p 0 (some q1)) H := zC_re (zCU_wri3 ka cb (zs3 (zs3 (zs3 (zs3 (zs3 (zs3 C 22 q1 0 0) 23 q1 0 0) 24 q1 0 0) 22 q1 0 ((C 22 a 0) + 1)) 23 q1 0 lo) 24 q1 0 hi) (zs3 A 1 p 0 (some q1)) (p := p) (by omega) 1) hP
  refine lv_aload_n hx hb zd_W_begin_27 rfl (lv_at hl 0 rfl) ?_
  refine zK_callv (nA := 0) (As := []) (rest := []) zCW_blind (zc_m_W_clearReceipts l D ka cb (P ++ [q1]) (zs3 (zs3 (zs3 (zs3 (zs3 (zs3 (zs3 C 22 q1 0 0) 23 q1 0 0) 24 q1 0 0) 22 q1 0 ((C 22 a 0) + 1)) 23 q1 0 lo) 24 q1 0 hi) 5 p 0 1) (zs3 A 1 p 0 (some q1)) p (by omega)) (zg_W_clearReceipts zk_W_32) (by decide) ⟨rfl, rfl⟩ ⟨Nat.le_of_ble_eq_true rfl, Nat.le_of_ble_eq_true rfl⟩ hx hb hml hts hown (zC_recv hK hP (zCL_in (by omega)) (zCE_wri ka cb (zs3 (zs3 (zs3 (zs3 (zs3 (zs3 (zs3 C 22 q1 0 0) 23 q1 0 0) 24 q1 0 0) 22 q1 0 ((C 22 a 0) + 1)) 23 q1 0 lo) 24 q1 0 hi) 5 p 0 1) (zs3 A 1 p 0 (some q1)) (p := p) (by omega)) rfl) (zC_U hK hP hQ hz hS) hS (fun _ h => h) hl.1 rfl rfl (Nat.le_of_ble_eq_true rfl) ⟨Nat.le_of_ble_eq_true rfl, Nat.le_of_ble_eq_true rfl⟩ zd_W_begin_28 (fun t locs hvm hB hS _ _ => ?_)
  obtain ⟨hP, -, -, -⟩ := hB
  generalize t.heap = H at hP hS ⊢
  exact zK_vret hx hb hr hlk hS (fun t ht hW => ⟨q1, hnq, zC_U hK hP hQ hz hS t ht hW⟩) zd_W_begin_31
