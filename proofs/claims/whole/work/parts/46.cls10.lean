set_option maxRecDepth 100000 in
set_option maxHeartbeats 4000000 in
theorem zc_m_X_deliverAll (l : Launch) (D : va_G) (ka : Nat → ClassId) (cb : Nat) (M : zM) (hO : zOk M) (n0 : Int32) : Met l zy_X_deliverAll (.code zy_X_deliverAll zc_X_deliverAll 3 (some .int) :: zAll) ({ frames := 5, cells := 0, slots := 0, locals := 118 }) (va_Pc [.ref cb, .int n0] (zCS D ka cb M)) (va_Qi (fun rr (_ : Unit) => rr = (zf_deliverAll M n0)) (fun _ t => zCS D ka cb (zg_deliverAll M n0) t) (zCA cb)) 0 0 (zCA cb) := by
  refine z_met (by decide) (Nat.le_of_ble_eq_true rfl) ?_
  intro pg e s m below meth c hx hb hml hr hts hown hlk hnm hB ls hl
  obtain ⟨P, C, A, ⟨hP, hQ, hz, hK⟩, hRep⟩ := hB
  have hS : va_S (zCA cb) s.heap s.heap [] := va_S.rf
  have hl : lv_has ls 3 [(0, .ref cb), (1, .int n0)] := hl
  refine lv_iconst (v := 0) hx hb zd_X_deliverAll_0 (by decide) ?_
  refine lv_istore_n hx hb zd_X_deliverAll_1 rfl hl (by decide) rfl (fun ls hl => ?_)
  have hl : lv_has ls 3 [(2, .int 0), (0, .ref cb), (1, .int n0)] := hl
  have L2 : ∀ (c0 : Nat) (N : zM) (k : Int32), zOk N → zmu N ≤ c0 → zdall c0 N n0 k = zdall (zmu M) M n0 0 → ∀ (P : List Nat) (C : zC) (A : zA), zRep cb P C A N → ∀ (H : Heap) (locs : List Loc) (ls : Array Slot), lv_has ls 3 [(0, .ref cb), (1, .int n0), (2, .int k)] → zCP D ka cb P C A H → zPok cb P → va_S (zCA cb) s.heap H locs → W pg l e ({ frames := 5, cells := 0, slots := 0, locals := 118 }) s m (List.toArray [.ref cb, .int n0]) below meth c H locs 0 0 (MQ below (va_Qi (fun rr (_ : Unit) => rr = (zf_deliverAll M n0)) (fun _ t => zCS D ka cb (zg_deliverAll M n0) t) (zCA cb)) (List.toArray [.ref cb, .int n0]) s 0 0 (zCA cb)) (F0 m 2 ls []) := by
    intro c0
    induction c0 with
    | zero =>
      intro N k hO hmu he P C A hRep H locs ls hl hP hQ hS
      have hL := zOk_lt hO
      obtain ⟨n, hn1, hn, hn2⟩ := hO.1
      have hz0 : zix (N 0 1) = n := by rw [hn]; exact zix_n (by omega)
      obtain ⟨σ, hσ, hinj, hLR⟩ := zr_post hRep
      refine lv_iload_n hx hb zd_X_deliverAll_2 rfl (lv_at hl 2 rfl) ?_
      refine lv_iload_n hx hb zd_X_deliverAll_3 rfl (lv_at hl 1 rfl) ?_
      refine lv_icmp_ge (tgt := 35) hx hb zd_X_deliverAll_4 (by decide) (fun h4 => ?_) (fun h4 => ?_)
      · refine lv_iload_n hx hb zd_X_deliverAll_35 rfl (lv_at hl 2 rfl) ?_
        exact zK_iret hx hb hr hlk hS (fun t ht hW => ⟨_, _, _, zC_U hK hP hQ hz hS t ht hW, (zRep_eq hRep (by rw [zg_deliverAll, ← he, zdall_stop (Or.inl h4)]))⟩) (by rw [zf_deliverAll, ← he, zdall_stop (Or.inl h4)]) zd_X_deliverAll_36
      · refine lv_aload_n hx hb zd_X_deliverAll_7 rfl (lv_at hl 0 rfl) ?_
        refine zr_get hx hb hts zin_X hown hK hP zCL_0 (zCE_x ka cb C A) rfl 4 (by decide) (zl_X_53 hts) rfl rfl zd_X_deliverAll_8 ?_
        refine zr_get hx hb hts zin_O hown hK hP (zCL_in (by omega)) (zCE_post ka cb C A) rfl 1 (by decide) (zl_X_114 hts) rfl rfl zd_X_deliverAll_11 ?_
        refine lv_if_le (tgt := 35) hx hb zd_X_deliverAll_14 (by decide) (fun h14 => ?_) (fun h14 => ?_)
        · have e0 : N 0 1 = 0 := by rw [zr_count hRep, hn] at h14; rw [hn]; rcases Nat.eq_zero_or_pos n with q | q; rw [q]; rfl; exact absurd h14 (nI_nle q (by omega))
          refine lv_iload_n hx hb zd_X_deliverAll_35 rfl (lv_at hl 2 rfl) ?_
          exact zK_iret hx hb hr hlk hS (fun t ht hW => ⟨_, _, _, zC_U hK hP hQ hz hS t ht hW, (zRep_eq hRep (by rw [zg_deliverAll, ← he, zdall_stop (Or.inr e0)]))⟩) (by rw [zf_deliverAll, ← he, zdall_stop (Or.inr e0)]) zd_X_deliverAll_36
        · have h0 : 0 < n := by rcases Nat.eq_zero_or_pos n with q | q; exact absurd (show C 13 0 0 ≤ 0 by rw [zr_count hRep, hn, q]; decide) h14; exact q
          have b0 : zbl 0 (N 0 1) := by rw [hn]; exact zbl_n (j := 0) h0 (by omega)
          obtain ⟨b1, b2, b3, -⟩ := zbl_1 hO b0
          exact absurd hmu (by omega)
    | succ c0 ih =>
      intro N k hO hmu he P C A hRep H locs ls hl hP hQ hS
      have hL := zOk_lt hO
      obtain ⟨n, hn1, hn, hn2⟩ := hO.1
      have hz0 : zix (N 0 1) = n := by rw [hn]; exact zix_n (by omega)
      obtain ⟨σ, hσ, hinj, hLR⟩ := zr_post hRep
      refine lv_iload_n hx hb zd_X_deliverAll_2 rfl (lv_at hl 2 rfl) ?_
      refine lv_iload_n hx hb zd_X_deliverAll_3 rfl (lv_at hl 1 rfl) ?_
      refine lv_icmp_ge (tgt := 35) hx hb zd_X_deliverAll_4 (by decide) (fun h4 => ?_) (fun h4 => ?_)
      · refine lv_iload_n hx hb zd_X_deliverAll_35 rfl (lv_at hl 2 rfl) ?_
        exact zK_iret hx hb hr hlk hS (fun t ht hW => ⟨_, _, _, zC_U hK hP hQ hz hS t ht hW, (zRep_eq hRep (by rw [zg_deliverAll, ← he, zdall_stop (Or.inl h4)]))⟩) (by rw [zf_deliverAll, ← he, zdall_stop (Or.inl h4)]) zd_X_deliverAll_36
      · refine lv_aload_n hx hb zd_X_deliverAll_7 rfl (lv_at hl 0 rfl) ?_
        refine zr_get hx hb hts zin_X hown hK hP zCL_0 (zCE_x ka cb C A) rfl 4 (by decide) (zl_X_53 hts) rfl rfl zd_X_deliverAll_8 ?_
        refine zr_get hx hb hts zin_O hown hK hP (zCL_in (by omega)) (zCE_post ka cb C A) rfl 1 (by decide) (zl_X_114 hts) rfl rfl zd_X_deliverAll_11 ?_
        refine lv_if_le (tgt := 35) hx hb zd_X_deliverAll_14 (by decide) (fun h14 => ?_) (fun h14 => ?_)
        · have e0 : N 0 1 = 0 := by rw [zr_count hRep, hn] at h14; rw [hn]; rcases Nat.eq_zero_or_pos n with q | q; rw [q]; rfl; exact absurd h14 (nI_nle q (by omega))
          refine lv_iload_n hx hb zd_X_deliverAll_35 rfl (lv_at hl 2 rfl) ?_
          exact zK_iret hx hb hr hlk hS (fun t ht hW => ⟨_, _, _, zC_U hK hP hQ hz hS t ht hW, (zRep_eq hRep (by rw [zg_deliverAll, ← he, zdall_stop (Or.inr e0)]))⟩) (by rw [zf_deliverAll, ← he, zdall_stop (Or.inr e0)]) zd_X_deliverAll_36
        · have h0 : 0 < n := by rcases Nat.eq_zero_or_pos n with q | q; exact absurd (show C 13 0 0 ≤ 0 by rw [zr_count hRep, hn, q]; decide) h14; exact q
          have b0 : zbl 0 (N 0 1) := by rw [hn]; exact zbl_n (j := 0) h0 (by omega)
          obtain ⟨b1, b2, b3, -⟩ := zbl_1 hO b0
          refine lv_aload_n hx hb zd_X_deliverAll_17 rfl (lv_at hl 0 rfl) ?_
          refine lv_aload_n hx hb zd_X_deliverAll_18 rfl (lv_at hl 0 rfl) ?_
          refine zr_get hx hb hts zin_X hown hK hP zCL_0 (zCE_x ka cb C A) rfl 4 (by decide) (zl_X_53 hts) rfl rfl zd_X_deliverAll_19 ?_
          refine lv_iconst (v := 0) hx hb zd_X_deliverAll_22 (by decide) ?_
          refine zK_callr (nA := 1) (As := [.int 0]) (rest := [.ref cb]) zCW_blind (zc_m_O_take l D ka cb P C A n 0 σ ((zr_count hRep).trans hn) hn1 h0 hσ) (zg_O_take zk_X_139) (by decide) ⟨rfl, rfl⟩ ⟨Nat.le_of_ble_eq_true rfl, Nat.le_of_ble_eq_true rfl⟩ hx hb hml hts hown (zC_recv hK hP (zCL_in (by omega)) (zCE_post ka cb C A) rfl) (zC_U hK hP hQ hz hS) hS (fun _ h => h) hl.1 rfl rfl (Nat.le_of_ble_eq_true rfl) ⟨Nat.le_of_ble_eq_true rfl, Nat.le_of_ble_eq_true rfl⟩ zd_X_deliverAll_23 (fun t locs hvm hB hS => ?_)
          obtain ⟨hP, -, -, -⟩ := hB
          generalize t.heap = H at hP hS ⊢
          have hsi := (hσ 0 (by omega)).2
          obtain ⟨hRep, hLj⟩ := zRep_take hRep hn1 hn hσ hinj hLR h0
          refine zK_callv (nA := 1) (As := [.ref (cb + (42 + σ 0))]) (rest := []) zCW_blind (zc_m_X_bring l D ka cb P (zs3 C 13 0 0 (C 13 0 0 - 1)) (zAtk A 0 n) (ztake N 0 n) hRep (zOk_take hO hn1 hn h0) (ztake_lok (hn2 0 h0)) (σ 0) hsi hLj) (zg_X_bring zk_X_143) (by decide) ⟨rfl, rfl⟩ ⟨Nat.le_of_ble_eq_true rfl, Nat.le_of_ble_eq_true rfl⟩ hx hb hml hts hown (zC_recv hK hP zCL_0 (zCE_x ka cb (zs3 C 13 0 0 (C 13 0 0 - 1)) (zAtk A 0 n)) rfl) (zC_U hK hP hQ hz hS) hS (fun _ h => h) hl.1 rfl rfl (Nat.le_of_ble_eq_true rfl) ⟨Nat.le_of_ble_eq_true rfl, Nat.le_of_ble_eq_true rfl⟩ zd_X_deliverAll_26 (fun t locs hvm hB hS _ _ => ?_)
          obtain ⟨P, C, A, ⟨hP, hQ, -, -⟩, hRep⟩ := hB
          generalize t.heap = H at hP hS ⊢
          refine lv_iinc (v := k + 1) (k := 2) hx hb zd_X_deliverAll_29 hl rfl rfl (by decide) rfl (fun ls hl => ?_)
          have hl : lv_has ls 3 [(2, .int (k + 1)), (0, .ref cb), (1, .int n0)] := hl
          refine lv_goto (tgt := 2) hx hb zd_X_deliverAll_32 (by decide) ?_
          exact ih (zdeliver N 0) (k + 1) b3 (by omega) (by rw [← he, zdall_go h4 b1]) P C A (zRep_eq hRep (by rw [zdeliver, hz0])) H locs ls (lv_sub hl [1, 2, 0] rfl) hP hQ hS
  exact L2 (zmu M) M 0 hO (Nat.le_refl _) rfl P C A hRep _ _ _ (lv_sub hl [1, 2, 0] rfl) hP hQ hS
