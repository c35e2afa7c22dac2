theorem zc_m_O_send (l : Launch) (D : va_G) (ka : Nat → ClassId) (cb : Nat) (P : List Nat) (C : zC) (A : zA) (c0 : Nat) (σ : Nat → Nat) (hc : C 13 0 0 = nI c0) (hc1 : c0 ≤ 300) (hσ : ∀ i, i < 300 → A 5 0 i = some (cb + (42 + σ i)) ∧ σ i < 300) (k0 r0 p0 d0 n0 : Int32) (v : Option Nat) : Met l zy_O_send (.code zy_O_send zc_O_send 8 none :: zAll) ({ frames := 1, cells := 0, slots := 0, locals := 20 }) (va_Pc [.ref (cb + 40), .int k0, .int r0, .int p0, .int d0, .int n0, va_rf v] (zCW D ka cb P C A)) (va_Qv (fun (_ : Unit) => True) (fun _ t => zCW D ka cb P (zsC C (σ c0) k0 r0 p0 d0 n0) (zsA C A (σ c0) v) t) (zCA cb)) 0 0 (zCA cb) := by
  by_cases hf : c0 = 300
  · have hc3 : C 13 0 0 = 300 := by rw [hc, hf]; rfl
    unfold zsC zsA
    rw [if_pos hc3, if_pos hc3]
    cases v with
    | none => exact zc_m_O_sendfn l D ka cb P C A hc3 k0 r0 p0 d0 n0
    | some a => exact zc_m_O_sendfs l D ka cb P C A hc3 k0 r0 p0 d0 n0 a
  · have hc3 : ¬ C 13 0 0 = 300 := by rw [hc, zn_eq300 hc1]; exact hf
    unfold zsC zsA
    rw [if_neg hc3, if_neg hc3]
    cases v with
    | none => exact zc_m_O_sendn l D ka cb P C A c0 (σ c0) hc (by omega) (hσ c0 (by omega)).1 (hσ c0 (by omega)).2 k0 r0 p0 d0 n0
    | some a => exact zc_m_O_sends l D ka cb P C A c0 (σ c0) hc (by omega) (hσ c0 (by omega)).1 (hσ c0 (by omega)).2 k0 r0 p0 d0 n0 a
set_option maxRecDepth 100000 in
set_option maxHeartbeats 4000000 in
theorem zc_m_X_sendStores (l : Launch) (D : va_G) (ka : Nat → ClassId) (cb : Nat) (M : zM) (hL : zLt M) (p : Nat) (hp : p < 4) : Met l zy_X_sendStores (.code zy_X_sendStores zc_X_sendStores 5 (some .int) :: zAll) ({ frames := 2, cells := 0, slots := 0, locals := 47 }) (va_Pc [.ref cb, .int (nI p)] (zCS D ka cb M)) (va_Qi (fun rr (_ : Unit) => rr = (nI (zsal p M 9).2)) (fun _ t => zCS D ka cb (zsal p M 9).1 t) (zCA cb)) 0 0 (zCA cb) := by
  refine z_met (by decide) (Nat.le_of_ble_eq_true rfl) ?_
  intro pg e s m below meth c hx hb hml hr hts hown hlk hnm hB ls hl
  obtain ⟨P, C, A, ⟨hP, hQ, hz, hK⟩, hRep⟩ := hB
  have hS : va_S (zCA cb) s.heap s.heap [] := va_S.rf
  have hl : lv_has ls 5 [(0, .ref cb), (1, .int (nI p))] := hl
  refine lv_aload_n hx hb zd_X_sendStores_0 rfl (lv_at hl 0 rfl) ?_
  refine zr_get hx hb hts zin_X hown hK hP zCL_0 (zCE_x ka cb C A) rfl 2 (by decide) (zl_X_38 hts) rfl rfl zd_X_sendStores_1 ?_
  refine lv_iload_n hx hb zd_X_sendStores_4 rfl (lv_at hl 1 rfl) ?_
  refine zr_aald (v := .ref (cb + (22 + 2 * p))) hx hb hK hP (zCL_in (by omega)) 5 (zCE_wris ka cb C A) rfl (j := p) rfl (show p < 4 from by omega) (by decide) rfl zd_X_sendStores_5 ?_
  refine lv_astore_n hx hb zd_X_sendStores_6 rfl hl (by decide) rfl (fun ls hl => ?_)
  have hl : lv_has ls 5 [(2, .ref (cb + (22 + 2 * p))), (0, .ref cb), (1, .int (nI p))] := hl
  refine lv_iconst (v := 0) hx hb zd_X_sendStores_7 (by decide) ?_
  refine lv_istore_n hx hb zd_X_sendStores_8 rfl hl (by decide) rfl (fun ls hl => ?_)
  have hl : lv_has ls 5 [(3, .int 0), (2, .ref (cb + (22 + 2 * p))), (0, .ref cb), (1, .int (nI p))] := hl
  refine lv_iconst (v := 0) hx hb zd_X_sendStores_9 (by decide) ?_
  refine lv_istore hx hb zd_X_sendStores_10 hl (by decide) rfl (fun ls hl => ?_)
  have hl : lv_has ls 5 [(4, .int 0), (3, .int 0), (2, .ref (cb + (22 + 2 * p))), (0, .ref cb), (1, .int (nI p))] := hl
  have L12 : ∀ (j k : Nat), k + j = 9 → ∀ (P : List Nat) (C : zC) (A : zA), zRep cb P C A (zsal p M k).1 → ∀ (H : Heap) (locs : List Loc) (ls : Array Slot), lv_has ls 5 [(0, .ref cb), (1, .int (nI p)), (2, .ref (cb + (22 + 2 * p))), (3, .int (nI (zsal p M k).2)), (4, .int (nI k))] → zCP D ka cb P C A H → zPok cb P → va_S (zCA cb) s.heap H locs → W pg l e ({ frames := 2, cells := 0, slots := 0, locals := 47 }) s m (List.toArray [.ref cb, .int (nI p)]) below meth c H locs 0 0 (MQ below (va_Qi (fun rr (_ : Unit) => rr = (nI (zsal p M 9).2)) (fun _ t => zCS D ka cb (zsal p M 9).1 t) (zCA cb)) (List.toArray [.ref cb, .int (nI p)]) s 0 0 (zCA cb)) (F0 m 12 ls []) := by
    intro j
    induction j with
    | zero =>
      intro k hk P C A hRep H locs ls hl hP hQ hS
      have hk : k = 9 := by omega
      subst hk
      have hLk := zLt_sal (p := p) hL 9
      obtain ⟨n, hn1, hn⟩ := id hLk
      obtain ⟨σ, hσ, hinj, hLR⟩ := zr_post hRep
      refine lv_iload hx hb zd_X_sendStores_12 (lv_at hl 4 rfl) ?_
      refine lv_bipush (v := 9) hx hb zd_X_sendStores_14 (by decide) ?_
      refine lv_icmp_ge (tgt := 61) hx hb zd_X_sendStores_16 (by decide) (fun h16 => ?_) (fun h16 => absurd (by decide) h16)
      refine lv_iload_n hx hb zd_X_sendStores_61 rfl (lv_at hl 3 rfl) ?_
      exact zK_iret hx hb hr hlk hS (fun t ht hW => ⟨_, _, _, zC_U hK hP hQ hz hS t ht hW, hRep⟩) rfl zd_X_sendStores_62
    | succ j ih =>
      intro k hk P C A hRep H locs ls hl hP hQ hS
      have hLk := zLt_sal (p := p) hL k
      obtain ⟨n, hn1, hn⟩ := id hLk
      obtain ⟨σ, hσ, hinj, hLR⟩ := zr_post hRep
      refine lv_iload hx hb zd_X_sendStores_12 (lv_at hl 4 rfl) ?_
      refine lv_bipush (v := 9) hx hb zd_X_sendStores_14 (by decide) ?_
      refine lv_icmp_ge (tgt := 61) hx hb zd_X_sendStores_16 (by decide) (fun h16 => absurd h16 (nI_ge (b := 9) (by omega) (by decide))) (fun h16 => ?_)
      refine lv_aload_n hx hb zd_X_sendStores_19 rfl (lv_at hl 2 rfl) ?_
      refine zr_get hx hb hts zin_W hown hK hP (zCL_in (by omega)) (zCE_wri ka cb C A (p := p) (by omega)) rfl 0 (by decide) (zl_X_210 hts) rfl rfl zd_X_sendStores_20 ?_
      refine lv_iload hx hb zd_X_sendStores_23 (lv_at hl 4 rfl) ?_
      refine zr_zald hx hb hK hP (zCL_in (by omega)) 1 (zCE_wrc ka cb C A (p := p) (by omega)) rfl (j := k) rfl (show k < 9 from by omega) (by decide) zd_X_sendStores_25 ?_
      refine lv_if_ne (tgt := 55) hx hb zd_X_sendStores_26 (by decide) (fun h26 => ?_) (fun h26 => ?_)
      · rw [zr_rc hRep hp (show k < 9 by omega)] at h26
        refine lv_iinc (v := nI (k + 1)) (k := 4) hx hb zd_X_sendStores_55 hl rfl (nI_1 _) (by decide) rfl (fun ls hl => ?_)
        have hl : lv_has ls 5 [(4, .int (nI (k + 1))), (0, .ref cb), (1, .int (nI p)), (2, .ref (cb + (22 + 2 * p))), (3, .int (nI (zsal p M k).2))] := hl
        refine lv_goto (tgt := 12) hx hb zd_X_sendStores_58 (by decide) ?_
        have eq9 := zsal_n h26
        exact ih (k + 1) (by omega) P C A (by rw [eq9]; exact hRep) H locs ls (by rw [eq9]; exact lv_sub hl [1, 2, 3, 4, 0] rfl) hP hQ hS
      · rw [zr_rc hRep hp (show k < 9 by omega)] at h26
        refine lv_aload_n hx hb zd_X_sendStores_29 rfl (lv_at hl 0 rfl) ?_
        refine zr_get hx hb hts zin_X hown hK hP zCL_0 (zCE_x ka cb C A) rfl 4 (by decide) (zl_X_53 hts) rfl rfl zd_X_sendStores_30 ?_
        refine lv_iconst (v := 1) hx hb zd_X_sendStores_33 (by decide) ?_
        refine lv_iload hx hb zd_X_sendStores_34 (lv_at hl 4 rfl) ?_
        refine lv_iload_n hx hb zd_X_sendStores_36 rfl (lv_at hl 1 rfl) ?_
        refine lv_iconst (v := -1) hx hb zd_X_sendStores_37 (by decide) ?_
        refine lv_aload_n hx hb zd_X_sendStores_38 rfl (lv_at hl 2 rfl) ?_
        refine zr_get hx hb hts zin_W hown hK hP (zCL_in (by omega)) (zCE_wri ka cb C A (p := p) (by omega)) rfl 2 (by decide) (zl_X_91 hts) rfl rfl zd_X_sendStores_39 ?_
        obtain ⟨la, g1, g2, g3, g4, g5⟩ := zr_lat hRep (p := p) (by omega)
        refine z_topr (v := .ref la) (congrArg va_rf g1) ?_
        refine zr_get hx hb hts zin_P hown hK hP (zCL_p g2) (zCE_pair ka cb C A (zP_adr hQ g2)) rfl 0 (by decide) (zl_X_95 hts) rfl rfl zd_X_sendStores_42 ?_
        refine z_top (y := (zsal p M k).1 9 p) g3 ?_
        refine lv_aload_n hx hb zd_X_sendStores_45 rfl (lv_at hl 2 rfl) ?_
        refine zr_get hx hb hts zin_W hown hK hP (zCL_in (by omega)) (zCE_wri ka cb C A (p := p) (by omega)) rfl 2 (by decide) (zl_X_91 hts) rfl rfl zd_X_sendStores_46 ?_
        refine z_topr (v := .ref la) (congrArg va_rf g1) ?_
        refine zK_callv (nA := 6) (As := [.int 1, .int (nI k), .int (nI p), .int (-1), .int ((zsal p M k).1 9 p), .ref la]) (rest := []) zCW_blind (zc_m_O_send l D ka cb P C A n σ (by rw [zr_count hRep]; exact hn) hn1 hσ 1 (nI k) (nI p) (-1) ((zsal p M k).1 9 p) (some la)) (zg_O_send zk_X_153) (by decide) ⟨rfl, rfl⟩ ⟨Nat.le_of_ble_eq_true rfl, Nat.le_of_ble_eq_true rfl⟩ hx hb hml hts hown (zC_recv hK hP (zCL_in (by omega)) (zCE_post ka cb C A) rfl) (zC_U hK hP hQ hz hS) hS (fun _ h => h) hl.1 rfl rfl (Nat.le_of_ble_eq_true rfl) ⟨Nat.le_of_ble_eq_true rfl, Nat.le_of_ble_eq_true rfl⟩ zd_X_sendStores_49 (fun t locs hvm hB hS _ _ => ?_)
        obtain ⟨hP, -, -, -⟩ := hB
        generalize t.heap = H at hP hS ⊢
        refine lv_iinc (v := nI ((zsal p M k).2 + 1)) (k := 3) hx hb zd_X_sendStores_52 hl rfl (nI_1 _) (by decide) rfl (fun ls hl => ?_)
        have hl : lv_has ls 5 [(3, .int (nI ((zsal p M k).2 + 1))), (0, .ref cb), (1, .int (nI p)), (2, .ref (cb + (22 + 2 * p))), (4, .int (nI k))] := hl
        refine lv_iinc (v := nI (k + 1)) (k := 4) hx hb zd_X_sendStores_55 hl rfl (nI_1 _) (by decide) rfl (fun ls hl => ?_)
        have hl : lv_has ls 5 [(4, .int (nI (k + 1))), (3, .int (nI ((zsal p M k).2 + 1))), (0, .ref cb), (1, .int (nI p)), (2, .ref (cb + (22 + 2 * p)))] := hl
        refine lv_goto (tgt := 12) hx hb zd_X_sendStores_58 (by decide) ?_
        have eq9 := zsal_s h26
        exact ih (k + 1) (by omega) P (zsC C (σ n) 1 (nI k) (nI p) (-1) ((zsal p M k).1 9 p)) (zsA C A (σ n) (some la)) (by rw [eq9]; exact zRep_send hRep hn1 hn hσ hinj hLR (pn := (zsal p M k).1 9 p) (lo := (zsal p M k).1 10 p) (hi := (zsal p M k).1 11 p) (fun _ => ⟨la, rfl, g2, g3, g4, g5⟩) (fun q => absurd q (by decide))) H locs ls (by rw [eq9]; exact lv_sub hl [2, 3, 4, 1, 0] rfl) hP hQ hS
  exact L12 9 0 (by omega) P C A hRep _ _ _ (lv_sub hl [3, 4, 2, 1, 0] rfl) hP hQ hS
set_option maxRecDepth 100000 in
set_option maxHeartbeats 4000000 in
theorem zc_m_X_sendAsks (l : Launch) (D : va_G) (ka : Nat → ClassId) (cb : Nat) (M : zM) (hL : zLt M) (d : Nat) (hd : d < 3) : Met l zy_X_sendAsks (.code zy_X_sendAsks zc_X_sendAsks 5 (some .int) :: zAll) ({ frames := 2, cells := 0, slots := 0, locals := 47 }) (va_Pc [.ref cb, .int (nI d)] (zCS D ka cb M)) (va_Qi (fun rr (_ : Unit) => rr = (nI (zaal d M 9).2)) (fun _ t => zCS D ka cb (zaal d M 9).1 t) (zCA cb)) 0 0 (zCA cb) := by
  refine z_met (by decide) (Nat.le_of_ble_eq_true rfl) ?_
  intro pg e s m below meth c hx hb hml hr hts hown hlk hnm hB ls hl
  obtain ⟨P, C, A, ⟨hP, hQ, hz, hK⟩, hRep⟩ := hB
  have hS : va_S (zCA cb) s.heap s.heap [] := va_S.rf
  have hl : lv_has ls 5 [(0, .ref cb), (1, .int (nI d))] := hl
  refine lv_aload_n hx hb zd_X_sendAsks_0 rfl (lv_at hl 0 rfl) ?_
  refine zr_get hx hb hts zin_X hown hK hP zCL_0 (zCE_x ka cb C A) rfl 3 (by decide) (zl_X_45 hts) rfl rfl zd_X_sendAsks_1 ?_
  refine lv_iload_n hx hb zd_X_sendAsks_4 rfl (lv_at hl 1 rfl) ?_
  refine zr_aald (v := .ref (cb + (31 + 3 * d))) hx hb hK hP (zCL_in (by omega)) 6 (zCE_reas ka cb C A) rfl (j := d) rfl (show d < 3 from by omega) (by decide) rfl zd_X_sendAsks_5 ?_
  refine lv_astore_n hx hb zd_X_sendAsks_6 rfl hl (by decide) rfl (fun ls hl => ?_)
  have hl : lv_has ls 5 [(2, .ref (cb + (31 + 3 * d))), (0, .ref cb), (1, .int (nI d))] := hl
  refine lv_iconst (v := 0) hx hb zd_X_sendAsks_7 (by decide) ?_
  refine lv_istore_n hx hb zd_X_sendAsks_8 rfl hl (by decide) rfl (fun ls hl => ?_)
  have hl : lv_has ls 5 [(3, .int 0), (2, .ref (cb + (31 + 3 * d))), (0, .ref cb), (1, .int (nI d))] := hl
  refine lv_iconst (v := 0) hx hb zd_X_sendAsks_9 (by decide) ?_
  refine lv_istore hx hb zd_X_sendAsks_10 hl (by decide) rfl (fun ls hl => ?_)
  have hl : lv_has ls 5 [(4, .int 0), (3, .int 0), (2, .ref (cb + (31 + 3 * d))), (0, .ref cb), (1, .int (nI d))] := hl
  have L12 : ∀ (j k : Nat), k + j = 9 → ∀ (P : List Nat) (C : zC) (A : zA), zRep cb P C A (zaal d M k).1 → ∀ (H : Heap) (locs : List Loc) (ls : Array Slot), lv_has ls 5 [(0, .ref cb), (1, .int (nI d)), (2, .ref (cb + (31 + 3 * d))), (3, .int (nI (zaal d M k).2)), (4, .int (nI k))] → zCP D ka cb P C A H → zPok cb P → va_S (zCA cb) s.heap H locs → W pg l e ({ frames := 2, cells := 0, slots := 0, locals := 47 }) s m (List.toArray [.ref cb, .int (nI d)]) below meth c H locs 0 0 (MQ below (va_Qi (fun rr (_ : Unit) => rr = (nI (zaal d M 9).2)) (fun _ t => zCS D ka cb (zaal d M 9).1 t) (zCA cb)) (List.toArray [.ref cb, .int (nI d)]) s 0 0 (zCA cb)) (F0 m 12 ls []) := by
    intro j
    induction j with
    | zero =>
      intro k hk P C A hRep H locs ls hl hP hQ hS
      have hk : k = 9 := by omega
      subst hk
      have hLk := zLt_aal (d := d) hL 9
      obtain ⟨n, hn1, hn⟩ := id hLk
      obtain ⟨σ, hσ, hinj, hLR⟩ := zr_post hRep
      refine lv_iload hx hb zd_X_sendAsks_12 (lv_at hl 4 rfl) ?_
      refine lv_bipush (v := 9) hx hb zd_X_sendAsks_14 (by decide) ?_
      refine lv_icmp_ge (tgt := 58) hx hb zd_X_sendAsks_16 (by decide) (fun h16 => ?_) (fun h16 => absurd (by decide) h16)
      refine lv_iload_n hx hb zd_X_sendAsks_58 rfl (lv_at hl 3 rfl) ?_
      exact zK_iret hx hb hr hlk hS (fun t ht hW => ⟨_, _, _, zC_U hK hP hQ hz hS t ht hW, hRep⟩) rfl zd_X_sendAsks_59
    | succ j ih =>
      intro k hk P C A hRep H locs ls hl hP hQ hS
      have hLk := zLt_aal (d := d) hL k
      obtain ⟨n, hn1, hn⟩ := id hLk
      obtain ⟨σ, hσ, hinj, hLR⟩ := zr_post hRep
      refine lv_iload hx hb zd_X_sendAsks_12 (lv_at hl 4 rfl) ?_
      refine lv_bipush (v := 9) hx hb zd_X_sendAsks_14 (by decide) ?_
      refine lv_icmp_ge (tgt := 58) hx hb zd_X_sendAsks_16 (by decide) (fun h16 => absurd h16 (nI_ge (b := 9) (by omega) (by decide))) (fun h16 => ?_)
      refine lv_aload_n hx hb zd_X_sendAsks_19 rfl (lv_at hl 2 rfl) ?_
      refine zr_get hx hb hts zin_D hown hK hP (zCL_in (by omega)) (zCE_rea ka cb C A (d := d) (by omega)) rfl 0 (by decide) (zl_X_213 hts) rfl rfl zd_X_sendAsks_20 ?_
      refine lv_iload hx hb zd_X_sendAsks_23 (lv_at hl 4 rfl) ?_
      refine zr_aald (v := va_rf (A 2 d k)) hx hb hK hP (zCL_in (by omega)) 2 (zCE_tol ka cb C A (d := d) (by omega)) rfl (j := k) rfl (show k < 9 from by omega) (by decide) rfl zd_X_sendAsks_25 ?_
      rcases zr_told hRep (d := d) (r := k) (by omega) (by omega) with ⟨q1, q2⟩ | ⟨an, q1, q2, q3, q4, q5, q6⟩
      · refine z_topr (v := .null) (congrArg va_rf q1) ?_
        refine lv_ifnonnullN hx hb zd_X_sendAsks_26 ?_
        refine lv_aload_n hx hb zd_X_sendAsks_29 rfl (lv_at hl 0 rfl) ?_
        refine zr_get hx hb hts zin_X hown hK hP zCL_0 (zCE_x ka cb C A) rfl 4 (by decide) (zl_X_53 hts) rfl rfl zd_X_sendAsks_30 ?_
        refine lv_iconst (v := 3) hx hb zd_X_sendAsks_33 (by decide) ?_
        refine lv_iload hx hb zd_X_sendAsks_34 (lv_at hl 4 rfl) ?_
        refine lv_aload_n hx hb zd_X_sendAsks_36 rfl (lv_at hl 2 rfl) ?_
        refine zr_get hx hb hts zin_D hown hK hP (zCL_in (by omega)) (zCE_rea ka cb C A (d := d) (by omega)) rfl 6 (by decide) (zl_X_170 hts) rfl rfl zd_X_sendAsks_37 ?_
        refine z_top (y := (zaal d M k).1 16 d) (zr_pt hRep hd) ?_
        refine lv_iload_n hx hb zd_X_sendAsks_40 rfl (lv_at hl 1 rfl) ?_
        refine lv_aload_n hx hb zd_X_sendAsks_41 rfl (lv_at hl 2 rfl) ?_
        refine zr_get hx hb hts zin_D hown hK hP (zCL_in (by omega)) (zCE_rea ka cb C A (d := d) (by omega)) rfl 4 (by decide) (zl_X_111 hts) rfl rfl zd_X_sendAsks_42 ?_
        refine z_top (y := (zaal d M k).1 15 d) (zr_q hRep hd) ?_
        refine lv_null hx hb zd_X_sendAsks_45 ?_
        refine zK_callv (nA := 6) (As := [.int 3, .int (nI k), .int ((zaal d M k).1 16 d), .int (nI d), .int ((zaal d M k).1 15 d), .null]) (rest := []) zCW_blind (zc_m_O_send l D ka cb P C A n σ (by rw [zr_count hRep]; exact hn) hn1 hσ 3 (nI k) ((zaal d M k).1 16 d) (nI d) ((zaal d M k).1 15 d) none) (zg_O_send zk_X_153) (by decide) ⟨rfl, rfl⟩ ⟨Nat.le_of_ble_eq_true rfl, Nat.le_of_ble_eq_true rfl⟩ hx hb hml hts hown (zC_recv hK hP (zCL_in (by omega)) (zCE_post ka cb C A) rfl) (zC_U hK hP hQ hz hS) hS (fun _ h => h) hl.1 rfl rfl (Nat.le_of_ble_eq_true rfl) ⟨Nat.le_of_ble_eq_true rfl, Nat.le_of_ble_eq_true rfl⟩ zd_X_sendAsks_46 (fun t locs hvm hB hS _ _ => ?_)
        obtain ⟨hP, -, -, -⟩ := hB
        generalize t.heap = H at hP hS ⊢
        refine lv_iinc (v := nI ((zaal d M k).2 + 1)) (k := 3) hx hb zd_X_sendAsks_49 hl rfl (nI_1 _) (by decide) rfl (fun ls hl => ?_)
        have hl : lv_has ls 5 [(3, .int (nI ((zaal d M k).2 + 1))), (0, .ref cb), (1, .int (nI d)), (2, .ref (cb + (31 + 3 * d))), (4, .int (nI k))] := hl
        refine lv_iinc (v := nI (k + 1)) (k := 4) hx hb zd_X_sendAsks_52 hl rfl (nI_1 _) (by decide) rfl (fun ls hl => ?_)
        have hl : lv_has ls 5 [(4, .int (nI (k + 1))), (3, .int (nI ((zaal d M k).2 + 1))), (0, .ref cb), (1, .int (nI d)), (2, .ref (cb + (31 + 3 * d)))] := hl
        refine lv_goto (tgt := 12) hx hb zd_X_sendAsks_55 (by decide) ?_
        have eq9 := zaal_s q2
        exact ih (k + 1) (by omega) P (zsC C (σ n) 3 (nI k) ((zaal d M k).1 16 d) (nI d) ((zaal d M k).1 15 d)) (zsA C A (σ n) none) (by rw [eq9]; exact zRep_send hRep hn1 hn hσ hinj hLR (pn := (zaal d M k).1 15 d) (lo := 0) (hi := 0) (fun q => absurd q (by decide)) (fun q => absurd q (by decide))) H locs ls (by rw [eq9]; exact lv_sub hl [2, 3, 4, 1, 0] rfl) hP hQ hS
      · refine z_topr (v := .ref an) (congrArg va_rf q1) ?_
        refine lv_ifnonnull (tgt := 52) hx hb zd_X_sendAsks_26 (by decide) ?_
        refine lv_iinc (v := nI (k + 1)) (k := 4) hx hb zd_X_sendAsks_52 hl rfl (nI_1 _) (by decide) rfl (fun ls hl => ?_)
        have hl : lv_has ls 5 [(4, .int (nI (k + 1))), (0, .ref cb), (1, .int (nI d)), (2, .ref (cb + (31 + 3 * d))), (3, .int (nI (zaal d M k).2))] := hl
        refine lv_goto (tgt := 12) hx hb zd_X_sendAsks_55 (by decide) ?_
        have eq9 := zaal_n q2
        exact ih (k + 1) (by omega) P C A (by rw [eq9]; exact hRep) H locs ls (by rw [eq9]; exact lv_sub hl [1, 2, 3, 4, 0] rfl) hP hQ hS
  exact L12 9 0 (by omega) P C A hRep _ _ _ (lv_sub hl [3, 4, 2, 1, 0] rfl) hP hQ hS
