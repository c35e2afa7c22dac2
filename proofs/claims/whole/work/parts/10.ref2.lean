set_option maxRecDepth 100000 in
set_option maxHeartbeats 4000000 in
theorem zm_sendTell (l : Launch) (D : va_G) (ka : Nat → ClassId) (rb : Nat) (M : zM) (hL : zLt M) (r0 p0 d0 q0 n0 lo hi : Int32) : Met l zy_M_sendTell (.code zy_M_sendTell zc_M_sendTell 9 none :: zAll) ({ frames := 1, cells := 0, slots := 0, locals := 27 }) (va_Pc [.ref rb, .int r0, .int p0, .int d0, .int q0, .int n0, .int lo, .int hi] (zRW D ka rb M)) (zRQv D ka rb (zsendTell M r0 p0 d0 q0 n0 lo hi)) 0 0 (zRA rb) := by
  refine z_met (by decide) (Nat.le_of_ble_eq_true rfl) ?_
  intro pg e s m below meth c hx hb hml hr hts hown hlk hnm hB ls hl
  obtain ⟨hP, hK⟩ := hB
  have hS : va_S (zRA rb) s.heap s.heap [] := va_S.rf
  have hl : lv_has ls 9 [(0, .ref rb), (1, .int r0), (2, .int p0), (3, .int d0), (4, .int q0), (5, .int n0), (6, .int lo), (7, .int hi)] := hl
  obtain ⟨n, hn1, hn⟩ := id hL
  have hz : zix (M 0 1) = n := by rw [hn]; exact zix_n (by omega)
  refine lv_aload_n hx hb zd_M_sendTell_0 rfl (lv_at hl 0 rfl) ?_
  refine zR_get 31 (by decide) hx hb hts hown hK hP (zl_M_133 hts) rfl rfl zd_M_sendTell_1 ?_
  refine lv_istore hx hb zd_M_sendTell_4 hl (by decide) rfl (fun ls hl => ?_)
  have hl : lv_has ls 9 [(8, .int (M 0 1)), (0, .ref rb), (1, .int r0), (2, .int p0), (3, .int d0), (4, .int q0), (5, .int n0), (6, .int lo), (7, .int hi)] := hl
  refine lv_aload_n hx hb zd_M_sendTell_6 rfl (lv_at hl 1 rfl) ?_
  refine lv_iconst (v := 4) hx hb zd_M_sendTell_7 (by decide) ?_
  refine lv_iload_n hx hb zd_M_sendTell_8 rfl (lv_at hl 2 rfl) ?_
  refine lv_iload_n hx hb zd_M_sendTell_9 rfl (lv_at hl 3 rfl) ?_
  refine lv_iload_n hx hb zd_M_sendTell_10 rfl (lv_at hl 4 rfl) ?_
  refine lv_iload hx hb zd_M_sendTell_11 (lv_at hl 5 rfl) ?_
  refine lv_iload hx hb zd_M_sendTell_13 (lv_at hl 7 rfl) ?_
  refine lv_iload hx hb zd_M_sendTell_15 (lv_at hl 8 rfl) ?_
  refine zR_callv (nA := 7) (As := [.int 4, .int r0, .int p0, .int d0, .int q0, .int lo, .int hi]) (rest := []) (zm_send l D ka rb M hL 4 r0 p0 d0 q0 lo hi) (zg_M_send zk_M_136) rfl (by decide) ⟨rfl, rfl⟩ ⟨Nat.le_of_ble_eq_true rfl, Nat.le_of_ble_eq_true rfl⟩ hx hb hml hts hown hK hP hS (fun _ h => h) hl.1 rfl rfl (Nat.le_of_ble_eq_true rfl) ⟨Nat.zero_le _, Nat.zero_le _⟩ zd_M_sendTell_17 (fun H locs hP hS => ?_)
  refine lv_aload_n hx hb zd_M_sendTell_20 rfl (lv_at hl 1 rfl) ?_
  refine zR_get 31 (by decide) hx hb hts hown hK hP (zl_M_133 hts) rfl rfl zd_M_sendTell_21 ?_
  refine lv_iload hx hb zd_M_sendTell_24 (lv_at hl 0 rfl) ?_
  refine lv_icmp_le (tgt := 38) hx hb zd_M_sendTell_26 (by decide) (fun h26 => ?_) (fun h26 => ?_)
  · have hf := zsend_le hL h26
    exact zR_vret hx hb hr hlk hK hP hS (by first | (rw [zsendTell, if_pos hf, zsend_full hf]) | (rw [zsendTell, if_neg hf, hz])) zd_M_sendTell_38
  · have hf : ¬ M 0 1 = 300 := fun h => h26 (by rw [zsend_full h]; exact Int32.le_refl _)
    refine lv_aload_n hx hb zd_M_sendTell_29 rfl (lv_at hl 1 rfl) ?_
    refine zR_get 37 (by decide) hx hb hts hown hK hP (zl_M_116 hts) rfl rfl zd_M_sendTell_30 ?_
    refine lv_iload hx hb zd_M_sendTell_33 (lv_at hl 0 rfl) ?_
    refine lv_iload hx hb zd_M_sendTell_35 (lv_at hl 6 rfl) ?_
    refine zR_sto 36 (by decide) (j := n) hx hb hK hP hS hn (show n < 301 from by omega) zd_M_sendTell_37 (fun H locs hP hS => ?_)
    have hP : zRP D ka rb (zst (zsend M 4 r0 p0 d0 q0 lo hi) 36 n n0) H := hP
    exact zR_vret hx hb hr hlk hK hP hS (by first | (rw [zsendTell, if_pos hf, zsend_full hf]) | (rw [zsendTell, if_neg hf, hz])) zd_M_sendTell_38
set_option maxRecDepth 100000 in
set_option maxHeartbeats 4000000 in
theorem zm_takeOut (l : Launch) (D : va_G) (ka : Nat → ClassId) (rb : Nat) (M : zM) (hL : zLt M) (i0 : Int32) : Met l zy_M_takeOut (.code zy_M_takeOut zc_M_takeOut 3 (some .boolean) :: zAll) ({ frames := 1, cells := 0, slots := 0, locals := 22 }) (va_Pc [.ref rb, .int i0] (zRW D ka rb M)) (zRQi D ka rb (zf_deliver M i0) (zg_take M i0)) 0 0 (zRA rb) := by
  refine z_met (by decide) (Nat.le_of_ble_eq_true rfl) ?_
  intro pg e s m below meth c hx hb hml hr hts hown hlk hnm hB ls hl
  obtain ⟨hP, hK⟩ := hB
  have hS : va_S (zRA rb) s.heap s.heap [] := va_S.rf
  have hl : lv_has ls 3 [(0, .ref rb), (1, .int i0)] := hl
  obtain ⟨n, hn1, hn⟩ := id hL
  have hz : zix (M 0 1) = n := by rw [hn]; exact zix_n (by omega)
  refine lv_iload_n hx hb zd_M_takeOut_0 rfl (lv_at hl 1 rfl) ?_
  refine lv_aload_n hx hb zd_M_takeOut_1 rfl (lv_at hl 0 rfl) ?_
  refine zR_get 31 (by decide) hx hb hts hown hK hP (zl_M_133 hts) rfl rfl zd_M_takeOut_2 ?_
  refine z_callst (nA := 2) (As := [.int i0, .int (M 0 1)]) (rest := []) (zm_below l i0 (M 0 1)) (zg_M_below zk_M_129) rfl (by decide) ⟨rfl, rfl⟩ ⟨Nat.le_of_ble_eq_true rfl, Nat.le_of_ble_eq_true rfl⟩ hx hb hml hts hown hl.1 rfl rfl (Nat.le_of_ble_eq_true rfl) ⟨Nat.zero_le _, Nat.zero_le _⟩ zd_M_takeOut_5 ?_
  refine lv_if_ne (tgt := 13) hx hb zd_M_takeOut_8 (by decide) (fun h8 => ?_) (fun h8 => ?_)
  · have c8 := zb_1 h8
    obtain ⟨i, h_i, rfl⟩ := zbl_of (n := n) (by omega) (by rw [← hn]; exact c8)
    have z_i : zix (nI i) = i := zix_n (by omega)
    refine lv_aload_n hx hb zd_M_takeOut_13 rfl (lv_at hl 0 rfl) ?_
    refine lv_iload_n hx hb zd_M_takeOut_14 rfl (lv_at hl 1 rfl) ?_
    refine lv_sipush (v := 300) hx hb zd_M_takeOut_15 (by decide) ?_
    refine zR_callv (nA := 2) (As := [.int (nI i), .int 300]) (rest := []) (zm_copyLetter l D ka rb M i 300 (by omega) (by omega)) (zg_M_copyLetter zk_M_140) rfl (by decide) ⟨rfl, rfl⟩ ⟨Nat.le_of_ble_eq_true rfl, Nat.le_of_ble_eq_true rfl⟩ hx hb hml hts hown hK hP hS (fun _ h => h) hl.1 rfl rfl (Nat.le_of_ble_eq_true rfl) ⟨Nat.zero_le _, Nat.zero_le _⟩ zd_M_takeOut_18 (fun H locs hP hS => ?_)
    refine lv_aload_n hx hb zd_M_takeOut_21 rfl (lv_at hl 0 rfl) ?_
    refine lv_dup hx hb zd_M_takeOut_22 rfl ?_
    refine zR_get 31 (by decide) hx hb hts hown hK hP (zl_M_133 hts) rfl rfl zd_M_takeOut_23 ?_
    refine lv_iconst (v := 1) hx hb zd_M_takeOut_26 (by decide) ?_
    refine lv_isub hx hb zd_M_takeOut_27 ?_
    refine zR_putl hx hb hts hown hK hP hS (zl_M_133 hts) zd_M_takeOut_28 (fun H locs hP hS => ?_)
    have hP : zRP D ka rb (zst (zcopy M i 300) 0 1 (((zcopy M i 300) 0 1) - 1)) H := hP
    refine lv_iload_n hx hb zd_M_takeOut_31 rfl (lv_at hl 1 rfl) ?_
    refine lv_istore_n hx hb zd_M_takeOut_32 rfl hl (by decide) rfl (fun ls hl => ?_)
    have hl : lv_has ls 3 [(2, .int (nI i)), (0, .ref rb), (1, .int (nI i))] := hl
    have L33 : ∀ (j k : Nat), k + j = n - 1 → i ≤ k → ∀ (H : Heap) (locs : List Loc) (ls : Array Slot), lv_has ls 3 [(0, .ref rb), (1, .int (nI i)), (2, .int (nI k))] → zRP D ka rb (zsh M i k n) H → va_S (zRA rb) s.heap H locs → W pg l e ({ frames := 1, cells := 0, slots := 0, locals := 22 }) s m (List.toArray [.ref rb, .int (nI i)]) below meth c H locs 0 0 (MQ below (zRQi D ka rb (zf_deliver M (nI i)) (zg_take M (nI i))) (List.toArray [.ref rb, .int (nI i)]) s 0 0 (zRA rb)) (F0 m 33 ls []) := by
      intro j
      induction j with
      | zero =>
        intro k hk hik H locs ls hl hP hS
        have hk : k = n - 1 := by omega
        subst hk
        refine lv_iload_n hx hb zd_M_takeOut_33 rfl (lv_at hl 2 rfl) ?_
        refine lv_aload_n hx hb zd_M_takeOut_34 rfl (lv_at hl 0 rfl) ?_
        refine zR_get 31 (by decide) hx hb hts hown hK hP (zl_M_133 hts) rfl rfl zd_M_takeOut_35 ?_
        refine z_top rfl ?_
        refine lv_icmp_ge (tgt := 55) hx hb zd_M_takeOut_38 (by decide) (fun h38 => ?_) (fun h38 => absurd (nI_le (Nat.le_refl _) (by omega)) h38)
        refine lv_iconst (v := 1) hx hb zd_M_takeOut_55 (by decide) ?_
        exact zR_zret hx hb hr hlk hK hP hS rfl (by simp [zf_deliver, zb, c8]) (by simp [zg_take, ztake, c8, z_i, hz]) zd_M_takeOut_56
      | succ j ih =>
        intro k hk hik H locs ls hl hP hS
        refine lv_iload_n hx hb zd_M_takeOut_33 rfl (lv_at hl 2 rfl) ?_
        refine lv_aload_n hx hb zd_M_takeOut_34 rfl (lv_at hl 0 rfl) ?_
        refine zR_get 31 (by decide) hx hb hts hown hK hP (zl_M_133 hts) rfl rfl zd_M_takeOut_35 ?_
        refine z_top rfl ?_
        refine lv_icmp_ge (tgt := 55) hx hb zd_M_takeOut_38 (by decide) (fun h38 => absurd h38 (nI_ge (by omega) (by omega))) (fun h38 => ?_)
        refine lv_aload_n hx hb zd_M_takeOut_41 rfl (lv_at hl 0 rfl) ?_
        refine lv_iload_n hx hb zd_M_takeOut_42 rfl (lv_at hl 2 rfl) ?_
        refine lv_iconst (v := 1) hx hb zd_M_takeOut_43 (by decide) ?_
        refine lv_iadd hx hb zd_M_takeOut_44 ?_
        refine z_top (nI_add _ _) ?_
        refine lv_iload_n hx hb zd_M_takeOut_45 rfl (lv_at hl 2 rfl) ?_
        refine zR_callv (nA := 2) (As := [.int (nI (k + 1)), .int (nI k)]) (rest := []) (zm_copyLetter l D ka rb (zsh M i k n) (k + 1) k (by omega) (by omega)) (zg_M_copyLetter zk_M_140) rfl (by decide) ⟨rfl, rfl⟩ ⟨Nat.le_of_ble_eq_true rfl, Nat.le_of_ble_eq_true rfl⟩ hx hb hml hts hown hK hP hS (fun _ h => h) hl.1 rfl rfl (Nat.le_of_ble_eq_true rfl) ⟨Nat.zero_le _, Nat.zero_le _⟩ zd_M_takeOut_46 (fun H locs hP hS => ?_)
        refine lv_iinc (v := nI (k + 1)) (k := 2) hx hb zd_M_takeOut_49 hl rfl (nI_1 _) (by decide) rfl (fun ls hl => ?_)
        have hl : lv_has ls 3 [(2, .int (nI (k + 1))), (0, .ref rb), (1, .int (nI i))] := hl
        refine lv_goto (tgt := 33) hx hb zd_M_takeOut_52 (by decide) ?_
        exact ih (k + 1) (by omega) (by omega) H locs ls (lv_sub hl [1, 2, 0] rfl) (by rw [← zsh_s hn1 hik (by omega)]; exact hP) hS
    exact L33 (n - 1 - i) i (by omega) (Nat.le_refl _) _ _ _ (lv_sub hl [1, 2, 0] rfl) (by rw [← zsh_0 hn hn1 h_i]; exact hP) hS
  · have c8 := zb_0 h8
    refine lv_iconst (v := 0) hx hb zd_M_takeOut_11 (by decide) ?_
    exact zR_zret hx hb hr hlk hK hP hS rfl (by simp [zf_deliver, zg_take, ztake, zb, c8]) (by simp [zf_deliver, zg_take, ztake, zb, c8]) zd_M_takeOut_12
set_option maxRecDepth 100000 in
set_option maxHeartbeats 4000000 in
theorem zm_letter (l : Launch) (D : va_G) (ka : Nat → ClassId) (rb : Nat) (M : zM) (hL : zLt M) (i0 w0 : Int32) : Met l zy_M_letter (.code zy_M_letter zc_M_letter 3 (some .int) :: zAll) ({ frames := 1, cells := 0, slots := 0, locals := 21 }) (va_Pc [.ref rb, .int i0, .int w0] (zRW D ka rb M)) (vp_Si (fun rr => rr = (zf_letter M i0 w0))) 0 0 (fun _ => False) := by
  refine z_met (by decide) (Nat.le_of_ble_eq_true rfl) ?_
  intro pg e s m below meth c hx hb hml hr hts hown hlk hnm hB ls hl
  obtain ⟨hP, hK⟩ := hB
  have hl : lv_has ls 3 [(0, .ref rb), (1, .int i0), (2, .int w0)] := hl
  obtain ⟨n, hn1, hn⟩ := id hL
  have hz : zix (M 0 1) = n := by rw [hn]; exact zix_n (by omega)
  refine lv_iload_n hx hb zd_M_letter_0 rfl (lv_at hl 1 rfl) ?_
  refine lv_aload_n hx hb zd_M_letter_1 rfl (lv_at hl 0 rfl) ?_
  refine zR_get 31 (by decide) hx hb hts hown hK hP (zl_M_133 hts) rfl rfl zd_M_letter_2 ?_
  refine z_callst (nA := 2) (As := [.int i0, .int (M 0 1)]) (rest := []) (zm_below l i0 (M 0 1)) (zg_M_below zk_M_129) rfl (by decide) ⟨rfl, rfl⟩ ⟨Nat.le_of_ble_eq_true rfl, Nat.le_of_ble_eq_true rfl⟩ hx hb hml hts hown hl.1 rfl rfl (Nat.le_of_ble_eq_true rfl) ⟨Nat.zero_le _, Nat.zero_le _⟩ zd_M_letter_5 ?_
  refine lv_if_ne (tgt := 13) hx hb zd_M_letter_8 (by decide) (fun h8 => ?_) (fun h8 => ?_)
  · have c8 := zb_1 h8
    obtain ⟨i, h_i, rfl⟩ := zbl_of (n := n) (by omega) (by rw [← hn]; exact c8)
    have z_i : zix (nI i) = i := zix_n (by omega)
    refine lv_iload_n hx hb zd_M_letter_13 rfl (lv_at hl 2 rfl) ?_
    refine lv_if_ne (tgt := 26) hx hb zd_M_letter_14 (by decide) (fun h14 => ?_) (fun h14 => ?_)
    · refine lv_iload_n hx hb zd_M_letter_26 rfl (lv_at hl 2 rfl) ?_
      refine lv_iconst (v := 1) hx hb zd_M_letter_27 (by decide) ?_
      refine lv_icmp_ne (tgt := 40) hx hb zd_M_letter_28 (by decide) (fun h28 => ?_) (fun h28 => ?_)
      · refine lv_iload_n hx hb zd_M_letter_40 rfl (lv_at hl 2 rfl) ?_
        refine lv_iconst (v := 2) hx hb zd_M_letter_41 (by decide) ?_
        refine lv_icmp_ne (tgt := 54) hx hb zd_M_letter_42 (by decide) (fun h42 => ?_) (fun h42 => ?_)
        · refine lv_iload_n hx hb zd_M_letter_54 rfl (lv_at hl 2 rfl) ?_
          refine lv_iconst (v := 3) hx hb zd_M_letter_55 (by decide) ?_
          refine lv_icmp_ne (tgt := 68) hx hb zd_M_letter_56 (by decide) (fun h56 => ?_) (fun h56 => ?_)
          · refine lv_iload_n hx hb zd_M_letter_68 rfl (lv_at hl 2 rfl) ?_
            refine lv_iconst (v := 4) hx hb zd_M_letter_69 (by decide) ?_
            refine lv_icmp_ne (tgt := 82) hx hb zd_M_letter_70 (by decide) (fun h70 => ?_) (fun h70 => ?_)
            · refine lv_iconst (v := -1) hx hb zd_M_letter_82 (by decide) ?_
              exact zS_iret hx hb hr hlk rfl rfl (by simp [zf_letter, c8, z_i, h14, h28, h42, h56, h70]) zd_M_letter_83
            · refine lv_aload_n hx hb zd_M_letter_73 rfl (lv_at hl 0 rfl) ?_
              refine zR_get 36 (by decide) hx hb hts hown hK hP (zl_M_113 hts) rfl rfl zd_M_letter_74 ?_
              refine lv_iload_n hx hb zd_M_letter_77 rfl (lv_at hl 1 rfl) ?_
              refine zR_ld 35 (by decide) (j := i) hx hb hK hP rfl (show i < 301 from by omega) zd_M_letter_78 ?_
              refine lv_goto (tgt := 83) hx hb zd_M_letter_79 (by decide) ?_
              exact zS_iret hx hb hr hlk rfl rfl (by simp [zf_letter, c8, z_i, h14, h28, h42, h56, h70]) zd_M_letter_83
          · refine lv_aload_n hx hb zd_M_letter_59 rfl (lv_at hl 0 rfl) ?_
            refine zR_get 35 (by decide) hx hb hts hown hK hP (zl_M_110 hts) rfl rfl zd_M_letter_60 ?_
            refine lv_iload_n hx hb zd_M_letter_63 rfl (lv_at hl 1 rfl) ?_
            refine zR_ld 34 (by decide) (j := i) hx hb hK hP rfl (show i < 301 from by omega) zd_M_letter_64 ?_
            refine lv_goto (tgt := 83) hx hb zd_M_letter_65 (by decide) ?_
            exact zS_iret hx hb hr hlk rfl rfl (by simp [zf_letter, c8, z_i, h14, h28, h42, h56]) zd_M_letter_83
        · refine lv_aload_n hx hb zd_M_letter_45 rfl (lv_at hl 0 rfl) ?_
          refine zR_get 34 (by decide) hx hb hts hown hK hP (zl_M_107 hts) rfl rfl zd_M_letter_46 ?_
          refine lv_iload_n hx hb zd_M_letter_49 rfl (lv_at hl 1 rfl) ?_
          refine zR_ld 33 (by decide) (j := i) hx hb hK hP rfl (show i < 301 from by omega) zd_M_letter_50 ?_
          refine lv_goto (tgt := 83) hx hb zd_M_letter_51 (by decide) ?_
          exact zS_iret hx hb hr hlk rfl rfl (by simp [zf_letter, c8, z_i, h14, h28, h42]) zd_M_letter_83
      · refine lv_aload_n hx hb zd_M_letter_31 rfl (lv_at hl 0 rfl) ?_
        refine zR_get 33 (by decide) hx hb hts hown hK hP (zl_M_104 hts) rfl rfl zd_M_letter_32 ?_
        refine lv_iload_n hx hb zd_M_letter_35 rfl (lv_at hl 1 rfl) ?_
        refine zR_ld 32 (by decide) (j := i) hx hb hK hP rfl (show i < 301 from by omega) zd_M_letter_36 ?_
        refine lv_goto (tgt := 83) hx hb zd_M_letter_37 (by decide) ?_
        exact zS_iret hx hb hr hlk rfl rfl (by simp [zf_letter, c8, z_i, h14, h28]) zd_M_letter_83
    · refine lv_aload_n hx hb zd_M_letter_17 rfl (lv_at hl 0 rfl) ?_
      refine zR_get 32 (by decide) hx hb hts hown hK hP (zl_M_101 hts) rfl rfl zd_M_letter_18 ?_
      refine lv_iload_n hx hb zd_M_letter_21 rfl (lv_at hl 1 rfl) ?_
      refine zR_ld 31 (by decide) (j := i) hx hb hK hP rfl (show i < 301 from by omega) zd_M_letter_22 ?_
      refine lv_goto (tgt := 83) hx hb zd_M_letter_23 (by decide) ?_
      exact zS_iret hx hb hr hlk rfl rfl (by simp [zf_letter, c8, z_i, h14]) zd_M_letter_83
  · have c8 := zb_0 h8
    refine lv_iconst (v := -1) hx hb zd_M_letter_11 (by decide) ?_
    exact zS_iret hx hb hr hlk rfl rfl (by simp [zf_letter, c8]) zd_M_letter_12
set_option maxRecDepth 100000 in
set_option maxHeartbeats 4000000 in
theorem zm_lose (l : Launch) (D : va_G) (ka : Nat → ClassId) (rb : Nat) (M : zM) (hL : zLt M) (i0 : Int32) : Met l zy_M_lose (.code zy_M_lose zc_M_lose 2 (some .boolean) :: zAll) ({ frames := 2, cells := 0, slots := 0, locals := 44 }) (va_Pc [.ref rb, .int i0] (zRW D ka rb M)) (zRQi D ka rb (zf_deliver M i0) (zg_take M i0)) 0 0 (zRA rb) := by
  refine z_met (by decide) (Nat.le_of_ble_eq_true rfl) ?_
  intro pg e s m below meth c hx hb hml hr hts hown hlk hnm hB ls hl
  obtain ⟨hP, hK⟩ := hB
  have hS : va_S (zRA rb) s.heap s.heap [] := va_S.rf
  have hl : lv_has ls 2 [(0, .ref rb), (1, .int i0)] := hl
  refine lv_aload_n hx hb zd_M_lose_0 rfl (lv_at hl 0 rfl) ?_
  refine lv_iload_n hx hb zd_M_lose_1 rfl (lv_at hl 1 rfl) ?_
  refine zR_calli (nA := 1) (As := [.int i0]) (rest := []) (zm_takeOut l D ka rb M hL i0) (zg_M_takeOut zk_M_144) rfl (by decide) ⟨rfl, rfl⟩ ⟨Nat.le_of_ble_eq_true rfl, Nat.le_of_ble_eq_true rfl⟩ hx hb hml hts hown hK hP hS (fun _ h => h) hl.1 rfl rfl (Nat.le_of_ble_eq_true rfl) ⟨Nat.zero_le _, Nat.zero_le _⟩ zd_M_lose_2 (fun H locs hP hS _ _ => ?_)
  exact zR_zret hx hb hr hlk hK hP hS (zb_n _) rfl rfl zd_M_lose_5
set_option maxRecDepth 100000 in
set_option maxHeartbeats 4000000 in
theorem zm_twin (l : Launch) (D : va_G) (ka : Nat → ClassId) (rb : Nat) (M : zM) (hL : zLt M) (i0 : Int32) : Met l zy_M_twin (.code zy_M_twin zc_M_twin 2 (some .boolean) :: zAll) ({ frames := 1, cells := 0, slots := 0, locals := 22 }) (va_Pc [.ref rb, .int i0] (zRW D ka rb M)) (zRQi D ka rb (zf_twin M i0) (zg_twin M i0)) 0 0 (zRA rb) := by
  refine z_met (by decide) (Nat.le_of_ble_eq_true rfl) ?_
  intro pg e s m below meth c hx hb hml hr hts hown hlk hnm hB ls hl
  obtain ⟨hP, hK⟩ := hB
  have hS : va_S (zRA rb) s.heap s.heap [] := va_S.rf
  have hl : lv_has ls 2 [(0, .ref rb), (1, .int i0)] := hl
  obtain ⟨n, hn1, hn⟩ := id hL
  have hz : zix (M 0 1) = n := by rw [hn]; exact zix_n (by omega)
  refine lv_iload_n hx hb zd_M_twin_0 rfl (lv_at hl 1 rfl) ?_
  refine lv_aload_n hx hb zd_M_twin_1 rfl (lv_at hl 0 rfl) ?_
  refine zR_get 31 (by decide) hx hb hts hown hK hP (zl_M_133 hts) rfl rfl zd_M_twin_2 ?_
  refine z_callst (nA := 2) (As := [.int i0, .int (M 0 1)]) (rest := []) (zm_below l i0 (M 0 1)) (zg_M_below zk_M_129) rfl (by decide) ⟨rfl, rfl⟩ ⟨Nat.le_of_ble_eq_true rfl, Nat.le_of_ble_eq_true rfl⟩ hx hb hml hts hown hl.1 rfl rfl (Nat.le_of_ble_eq_true rfl) ⟨Nat.zero_le _, Nat.zero_le _⟩ zd_M_twin_5 ?_
  refine lv_if_eq (tgt := 21) hx hb zd_M_twin_8 (by decide) (fun h8 => ?_) (fun h8 => ?_)
  · have c8 := zb_0 h8
    refine lv_iconst (v := 0) hx hb zd_M_twin_21 (by decide) ?_
    exact zR_zret hx hb hr hlk hK hP hS rfl (by simp [zf_twin, zg_twin, zo_twin, zb, c8]) (by simp [zf_twin, zg_twin, zo_twin, zb, c8, hz]) zd_M_twin_22
  · have c8 := zb_1 h8
    obtain ⟨i, h_i, rfl⟩ := zbl_of (n := n) (by omega) (by rw [← hn]; exact c8)
    have z_i : zix (nI i) = i := zix_n (by omega)
    refine lv_aload_n hx hb zd_M_twin_11 rfl (lv_at hl 0 rfl) ?_
    refine zR_get 31 (by decide) hx hb hts hown hK hP (zl_M_133 hts) rfl rfl zd_M_twin_12 ?_
    refine lv_sipush (v := 300) hx hb zd_M_twin_15 (by decide) ?_
    refine lv_icmp_ne (tgt := 23) hx hb zd_M_twin_18 (by decide) (fun h18 => ?_) (fun h18 => ?_)
    · refine lv_aload_n hx hb zd_M_twin_23 rfl (lv_at hl 0 rfl) ?_
      refine lv_iload_n hx hb zd_M_twin_24 rfl (lv_at hl 1 rfl) ?_
      refine lv_aload_n hx hb zd_M_twin_25 rfl (lv_at hl 0 rfl) ?_
      refine zR_get 31 (by decide) hx hb hts hown hK hP (zl_M_133 hts) rfl rfl zd_M_twin_26 ?_
      refine z_top hn ?_
      refine zR_callv (nA := 2) (As := [.int (nI i), .int (nI n)]) (rest := []) (zm_copyLetter l D ka rb M i n (by omega) (by omega)) (zg_M_copyLetter zk_M_140) rfl (by decide) ⟨rfl, rfl⟩ ⟨Nat.le_of_ble_eq_true rfl, Nat.le_of_ble_eq_true rfl⟩ hx hb hml hts hown hK hP hS (fun _ h => h) hl.1 rfl rfl (Nat.le_of_ble_eq_true rfl) ⟨Nat.zero_le _, Nat.zero_le _⟩ zd_M_twin_29 (fun H locs hP hS => ?_)
      refine lv_aload_n hx hb zd_M_twin_32 rfl (lv_at hl 0 rfl) ?_
      refine lv_dup hx hb zd_M_twin_33 rfl ?_
      refine zR_get 31 (by decide) hx hb hts hown hK hP (zl_M_133 hts) rfl rfl zd_M_twin_34 ?_
      refine lv_iconst (v := 1) hx hb zd_M_twin_37 (by decide) ?_
      refine lv_iadd hx hb zd_M_twin_38 ?_
      refine zR_putl hx hb hts hown hK hP hS (zl_M_133 hts) zd_M_twin_39 (fun H locs hP hS => ?_)
      have hP : zRP D ka rb (zst (zcopy M i n) 0 1 (((zcopy M i n) 0 1) + 1)) H := hP
      refine lv_iconst (v := 1) hx hb zd_M_twin_42 (by decide) ?_
      exact zR_zret hx hb hr hlk hK hP hS rfl (zb_t ⟨c8, h18⟩).symm (by rw [zg_twin, if_pos ⟨c8, h18⟩, z_i, hz, zcopy_k (q := 0) (by decide)]) zd_M_twin_43
    · refine lv_iconst (v := 0) hx hb zd_M_twin_21 (by decide) ?_
      exact zR_zret hx hb hr hlk hK hP hS rfl (by simp [zf_twin, zg_twin, zo_twin, zb, c8, z_i, h18]) (by simp [zf_twin, zg_twin, zo_twin, zb, c8, z_i, h18, hz]) zd_M_twin_22
set_option maxRecDepth 100000 in
set_option maxHeartbeats 4000000 in
theorem zm_same (l : Launch) (D : va_G) (ka : Nat → ClassId) (rb : Nat) (M : zM) (a b : Nat) (ha : a < 27) (hb0 : b < 27) : Met l zy_M_same (.code zy_M_same zc_M_same 3 (some .boolean) :: zAll) ({ frames := 0, cells := 0, slots := 0, locals := 0 }) (va_Pc [.ref rb, .int (nI a), .int (nI b)] (zRW D ka rb M)) (vp_Si (fun rr => rr = (zb (zsame M a b)))) 0 0 (fun _ => False) := by
  refine z_met (by decide) (Nat.le_of_ble_eq_true rfl) ?_
  intro pg e s m below meth c hx hb hml hr hts hown hlk hnm hB ls hl
  obtain ⟨hP, hK⟩ := hB
  have hl : lv_has ls 3 [(0, .ref rb), (1, .int (nI a)), (2, .int (nI b))] := hl
  refine lv_aload_n hx hb zd_M_same_0 rfl (lv_at hl 0 rfl) ?_
  refine zR_get 20 (by decide) hx hb hts hown hK hP (zl_M_68 hts) rfl rfl zd_M_same_1 ?_
  refine lv_iload_n hx hb zd_M_same_4 rfl (lv_at hl 1 rfl) ?_
  refine zR_ld 20 (by decide) (j := a) hx hb hK hP rfl (show a < 27 from by omega) zd_M_same_5 ?_
  refine lv_aload_n hx hb zd_M_same_6 rfl (lv_at hl 0 rfl) ?_
  refine zR_get 20 (by decide) hx hb hts hown hK hP (zl_M_68 hts) rfl rfl zd_M_same_7 ?_
  refine lv_iload_n hx hb zd_M_same_10 rfl (lv_at hl 2 rfl) ?_
  refine zR_ld 20 (by decide) (j := b) hx hb hK hP rfl (show b < 27 from by omega) zd_M_same_11 ?_
  refine lv_icmp_ne (tgt := 49) hx hb zd_M_same_12 (by decide) (fun h12 => ?_) (fun h12 => ?_)
  · refine lv_iconst (v := 0) hx hb zd_M_same_49 (by decide) ?_
    exact zS_zret hx hb hr hlk rfl rfl rfl (by simp [zb, zsame, h12]) zd_M_same_50
  · refine lv_aload_n hx hb zd_M_same_15 rfl (lv_at hl 0 rfl) ?_
    refine zR_get 21 (by decide) hx hb hts hown hK hP (zl_M_71 hts) rfl rfl zd_M_same_16 ?_
    refine lv_iload_n hx hb zd_M_same_19 rfl (lv_at hl 1 rfl) ?_
    refine zR_ld 21 (by decide) (j := a) hx hb hK hP rfl (show a < 27 from by omega) zd_M_same_20 ?_
    refine lv_aload_n hx hb zd_M_same_21 rfl (lv_at hl 0 rfl) ?_
    refine zR_get 21 (by decide) hx hb hts hown hK hP (zl_M_71 hts) rfl rfl zd_M_same_22 ?_
    refine lv_iload_n hx hb zd_M_same_25 rfl (lv_at hl 2 rfl) ?_
    refine zR_ld 21 (by decide) (j := b) hx hb hK hP rfl (show b < 27 from by omega) zd_M_same_26 ?_
    refine lv_icmp_ne (tgt := 49) hx hb zd_M_same_27 (by decide) (fun h27 => ?_) (fun h27 => ?_)
    · refine lv_iconst (v := 0) hx hb zd_M_same_49 (by decide) ?_
      exact zS_zret hx hb hr hlk rfl rfl rfl (by simp [zb, zsame, h12, h27]) zd_M_same_50
    · refine lv_aload_n hx hb zd_M_same_30 rfl (lv_at hl 0 rfl) ?_
      refine zR_get 22 (by decide) hx hb hts hown hK hP (zl_M_74 hts) rfl rfl zd_M_same_31 ?_
      refine lv_iload_n hx hb zd_M_same_34 rfl (lv_at hl 1 rfl) ?_
      refine zR_ld 22 (by decide) (j := a) hx hb hK hP rfl (show a < 27 from by omega) zd_M_same_35 ?_
      refine lv_aload_n hx hb zd_M_same_36 rfl (lv_at hl 0 rfl) ?_
      refine zR_get 22 (by decide) hx hb hts hown hK hP (zl_M_74 hts) rfl rfl zd_M_same_37 ?_
      refine lv_iload_n hx hb zd_M_same_40 rfl (lv_at hl 2 rfl) ?_
      refine zR_ld 22 (by decide) (j := b) hx hb hK hP rfl (show b < 27 from by omega) zd_M_same_41 ?_
      refine lv_icmp_ne (tgt := 49) hx hb zd_M_same_42 (by decide) (fun h42 => ?_) (fun h42 => ?_)
      · refine lv_iconst (v := 0) hx hb zd_M_same_49 (by decide) ?_
        exact zS_zret hx hb hr hlk rfl rfl rfl (by simp [zb, zsame, h12, h27, h42]) zd_M_same_50
      · refine lv_iconst (v := 1) hx hb zd_M_same_45 (by decide) ?_
        refine lv_goto (tgt := 50) hx hb zd_M_same_46 (by decide) ?_
        exact zS_zret hx hb hr hlk rfl rfl rfl (by simp [zb, zsame, h12, h27, h42]) zd_M_same_50
set_option maxRecDepth 100000 in
set_option maxHeartbeats 4000000 in
theorem zm_better (l : Launch) (D : va_G) (ka : Nat → ClassId) (rb : Nat) (M : zM) (a b : Nat) (ha : a < 27) (hb0 : b < 27) : Met l zy_M_better (.code zy_M_better zc_M_better 3 (some .boolean) :: zAll) ({ frames := 0, cells := 0, slots := 0, locals := 0 }) (va_Pc [.ref rb, .int (nI a), .int (nI b)] (zRW D ka rb M)) (vp_Si (fun rr => rr = (zb (zbet M a b = true)))) 0 0 (fun _ => False) := by
  refine z_met (by decide) (Nat.le_of_ble_eq_true rfl) ?_
  intro pg e s m below meth c hx hb hml hr hts hown hlk hnm hB ls hl
  obtain ⟨hP, hK⟩ := hB
  have hl : lv_has ls 3 [(0, .ref rb), (1, .int (nI a)), (2, .int (nI b))] := hl
  refine lv_aload_n hx hb zd_M_better_0 rfl (lv_at hl 0 rfl) ?_
  refine zR_get 20 (by decide) hx hb hts hown hK hP (zl_M_68 hts) rfl rfl zd_M_better_1 ?_
  refine lv_iload_n hx hb zd_M_better_4 rfl (lv_at hl 1 rfl) ?_
  refine zR_ld 20 (by decide) (j := a) hx hb hK hP rfl (show a < 27 from by omega) zd_M_better_5 ?_
  refine lv_aload_n hx hb zd_M_better_6 rfl (lv_at hl 0 rfl) ?_
  refine zR_get 20 (by decide) hx hb hts hown hK hP (zl_M_68 hts) rfl rfl zd_M_better_7 ?_
  refine lv_iload_n hx hb zd_M_better_10 rfl (lv_at hl 2 rfl) ?_
  refine zR_ld 20 (by decide) (j := b) hx hb hK hP rfl (show b < 27 from by omega) zd_M_better_11 ?_
  refine lv_icmp_eq (tgt := 36) hx hb zd_M_better_12 (by decide) (fun h12 => ?_) (fun h12 => ?_)
  · refine lv_aload_n hx hb zd_M_better_36 rfl (lv_at hl 0 rfl) ?_
    refine zR_get 21 (by decide) hx hb hts hown hK hP (zl_M_71 hts) rfl rfl zd_M_better_37 ?_
    refine lv_iload_n hx hb zd_M_better_40 rfl (lv_at hl 1 rfl) ?_
    refine zR_ld 21 (by decide) (j := a) hx hb hK hP rfl (show a < 27 from by omega) zd_M_better_41 ?_
    refine lv_aload_n hx hb zd_M_better_42 rfl (lv_at hl 0 rfl) ?_
    refine zR_get 21 (by decide) hx hb hts hown hK hP (zl_M_71 hts) rfl rfl zd_M_better_43 ?_
    refine lv_iload_n hx hb zd_M_better_46 rfl (lv_at hl 2 rfl) ?_
    refine zR_ld 21 (by decide) (j := b) hx hb hK hP rfl (show b < 27 from by omega) zd_M_better_47 ?_
    refine lv_icmp_eq (tgt := 74) hx hb zd_M_better_48 (by decide) (fun h48 => ?_) (fun h48 => ?_)
    · refine lv_aload_n hx hb zd_M_better_74 rfl (lv_at hl 0 rfl) ?_
      refine zR_get 22 (by decide) hx hb hts hown hK hP (zl_M_74 hts) rfl rfl zd_M_better_75 ?_
      refine lv_iload_n hx hb zd_M_better_78 rfl (lv_at hl 1 rfl) ?_
      refine zR_ld 22 (by decide) (j := a) hx hb hK hP rfl (show a < 27 from by omega) zd_M_better_79 ?_
      refine lv_aload_n hx hb zd_M_better_80 rfl (lv_at hl 0 rfl) ?_
      refine zR_get 22 (by decide) hx hb hts hown hK hP (zl_M_74 hts) rfl rfl zd_M_better_81 ?_
      refine lv_iload_n hx hb zd_M_better_84 rfl (lv_at hl 2 rfl) ?_
      refine zR_ld 22 (by decide) (j := b) hx hb hK hP rfl (show b < 27 from by omega) zd_M_better_85 ?_
      refine lv_icmp_ge (tgt := 93) hx hb zd_M_better_86 (by decide) (fun h86 => ?_) (fun h86 => ?_)
      · have h86 := Int32.not_lt.mpr h86
        refine lv_iconst (v := 0) hx hb zd_M_better_93 (by decide) ?_
        exact zS_zret hx hb hr hlk rfl rfl rfl (by simp [zb, zbet, h12, h48, h86]) zd_M_better_94
      · have h86 := Int32.not_le.mp h86
        refine lv_iconst (v := 1) hx hb zd_M_better_89 (by decide) ?_
        refine lv_goto (tgt := 94) hx hb zd_M_better_90 (by decide) ?_
        exact zS_zret hx hb hr hlk rfl rfl rfl (by simp [zb, zbet, h12, h48, h86]) zd_M_better_94
    · refine lv_aload_n hx hb zd_M_better_51 rfl (lv_at hl 0 rfl) ?_
      refine zR_get 21 (by decide) hx hb hts hown hK hP (zl_M_71 hts) rfl rfl zd_M_better_52 ?_
      refine lv_iload_n hx hb zd_M_better_55 rfl (lv_at hl 1 rfl) ?_
      refine zR_ld 21 (by decide) (j := a) hx hb hK hP rfl (show a < 27 from by omega) zd_M_better_56 ?_
      refine lv_aload_n hx hb zd_M_better_57 rfl (lv_at hl 0 rfl) ?_
      refine zR_get 21 (by decide) hx hb hts hown hK hP (zl_M_71 hts) rfl rfl zd_M_better_58 ?_
      refine lv_iload_n hx hb zd_M_better_61 rfl (lv_at hl 2 rfl) ?_
      refine zR_ld 21 (by decide) (j := b) hx hb hK hP rfl (show b < 27 from by omega) zd_M_better_62 ?_
      refine lv_icmp_ge (tgt := 70) hx hb zd_M_better_63 (by decide) (fun h63 => ?_) (fun h63 => ?_)
      · have h63 := Int32.not_lt.mpr h63
        refine lv_iconst (v := 0) hx hb zd_M_better_70 (by decide) ?_
        refine lv_goto (tgt := 94) hx hb zd_M_better_71 (by decide) ?_
        exact zS_zret hx hb hr hlk rfl rfl rfl (by simp [zb, zbet, h12, h48, h63]) zd_M_better_94
      · have h63 := Int32.not_le.mp h63
        refine lv_iconst (v := 1) hx hb zd_M_better_66 (by decide) ?_
        refine lv_goto (tgt := 94) hx hb zd_M_better_67 (by decide) ?_
        exact zS_zret hx hb hr hlk rfl rfl rfl (by simp [zb, zbet, h12, h48, h63]) zd_M_better_94
  · refine lv_aload_n hx hb zd_M_better_15 rfl (lv_at hl 0 rfl) ?_
    refine zR_get 20 (by decide) hx hb hts hown hK hP (zl_M_68 hts) rfl rfl zd_M_better_16 ?_
    refine lv_iload_n hx hb zd_M_better_19 rfl (lv_at hl 1 rfl) ?_
    refine zR_ld 20 (by decide) (j := a) hx hb hK hP rfl (show a < 27 from by omega) zd_M_better_20 ?_
    refine lv_aload_n hx hb zd_M_better_21 rfl (lv_at hl 0 rfl) ?_
    refine zR_get 20 (by decide) hx hb hts hown hK hP (zl_M_68 hts) rfl rfl zd_M_better_22 ?_
    refine lv_iload_n hx hb zd_M_better_25 rfl (lv_at hl 2 rfl) ?_
    refine zR_ld 20 (by decide) (j := b) hx hb hK hP rfl (show b < 27 from by omega) zd_M_better_26 ?_
    refine lv_icmp_le (tgt := 34) hx hb zd_M_better_27 (by decide) (fun h27 => ?_) (fun h27 => ?_)
    · have h27 := Int32.not_lt.mpr h27
      refine lv_iconst (v := 0) hx hb zd_M_better_34 (by decide) ?_
      exact zS_zret hx hb hr hlk rfl rfl rfl (by simp [zb, zbet, h12, h27]) zd_M_better_35
    · have h27 := Int32.not_le.mp h27
      refine lv_iconst (v := 1) hx hb zd_M_better_30 (by decide) ?_
      refine lv_goto (tgt := 35) hx hb zd_M_better_31 (by decide) ?_
      exact zS_zret hx hb hr hlk rfl rfl rfl (by simp [zb, zbet, h12, h27]) zd_M_better_35
set_option maxRecDepth 100000 in
set_option maxHeartbeats 4000000 in
theorem zm_believed (l : Launch) (D : va_G) (ka : Nat → ClassId) (rb : Nat) (M : zM) (d r : Nat) (hd : d < 3) (hr0 : r < 9) : Met l zy_M_believed (.code zy_M_believed zc_M_believed 5 (some .boolean) :: zAll) ({ frames := 1, cells := 0, slots := 0, locals := 22 }) (va_Pc [.ref rb, .int (nI d), .int (nI r)] (zRW D ka rb M)) (vp_Si (fun rr => rr = (zb (zbel M d r)))) 0 0 (fun _ => False) := by
  refine z_met (by decide) (Nat.le_of_ble_eq_true rfl) ?_
  intro pg e s m below meth c hx hb hml hr hts hown hlk hnm hB ls hl
  obtain ⟨hP, hK⟩ := hB
  have hl : lv_has ls 5 [(0, .ref rb), (1, .int (nI d)), (2, .int (nI r))] := hl
  refine lv_iconst (v := 0) hx hb zd_M_believed_0 (by decide) ?_
  refine lv_istore_n hx hb zd_M_believed_1 rfl hl (by decide) rfl (fun ls hl => ?_)
  have hl : lv_has ls 5 [(3, .int 0), (0, .ref rb), (1, .int (nI d)), (2, .int (nI r))] := hl
  refine lv_iconst (v := 0) hx hb zd_M_believed_2 (by decide) ?_
  refine lv_istore hx hb zd_M_believed_3 hl (by decide) rfl (fun ls hl => ?_)
  have hl : lv_has ls 5 [(4, .int 0), (3, .int 0), (0, .ref rb), (1, .int (nI d)), (2, .int (nI r))] := hl
  have L5 : ∀ (j k : Nat), k + j = 9 → ∀ (ls : Array Slot), lv_has ls 5 [(0, .ref rb), (1, .int (nI d)), (2, .int (nI r)), (3, .int (nI (zalk M d r k))), (4, .int (nI k))] → W pg l e ({ frames := 1, cells := 0, slots := 0, locals := 22 }) s m (List.toArray [.ref rb, .int (nI d), .int (nI r)]) below meth c s.heap [] 0 0 (MQ below (vp_Si (fun rr => rr = (zb (zbel M d r)))) (List.toArray [.ref rb, .int (nI d), .int (nI r)]) s 0 0 (fun _ => False)) (F0 m 5 ls []) := by
    intro j
    induction j with
    | zero =>
      intro k hk ls hl
      have hk : k = 9 := by omega
      subst hk
      refine lv_iload hx hb zd_M_believed_5 (lv_at hl 4 rfl) ?_
      refine lv_bipush (v := 9) hx hb zd_M_believed_7 (by decide) ?_
      refine lv_icmp_ge (tgt := 56) hx hb zd_M_believed_9 (by decide) (fun h9 => ?_) (fun h9 => absurd (by decide) h9)
      refine lv_aload_n hx hb zd_M_believed_56 rfl (lv_at hl 0 rfl) ?_
      refine zR_get 19 (by decide) hx hb hts hown hK hP (zl_M_65 hts) rfl rfl zd_M_believed_57 ?_
      refine lv_bipush (v := 9) hx hb zd_M_believed_60 (by decide) ?_
      refine lv_iload_n hx hb zd_M_believed_62 rfl (lv_at hl 1 rfl) ?_
      refine lv_imul hx hb zd_M_believed_63 ?_
      refine z_top (zn_m9 _) ?_
      refine lv_iload_n hx hb zd_M_believed_64 rfl (lv_at hl 2 rfl) ?_
      refine lv_iadd hx hb zd_M_believed_65 ?_
      refine z_top (nI_add _ _) ?_
      refine zR_zld 19 (by decide) (j := (9 * d + r)) hx hb hK hP rfl (show (9 * d + r) < 27 from by omega) zd_M_believed_66 ?_
      refine lv_if_eq (tgt := 79) hx hb zd_M_believed_67 (by decide) (fun h67 => ?_) (fun h67 => ?_)
      · refine lv_iconst (v := 0) hx hb zd_M_believed_79 (by decide) ?_
        exact zS_zret hx hb hr hlk rfl rfl rfl (by simp [zb, h9, h67]) zd_M_believed_80
      · refine lv_iload_n hx hb zd_M_believed_70 rfl (lv_at hl 3 rfl) ?_
        refine lv_iconst (v := 3) hx hb zd_M_believed_71 (by decide) ?_
        refine lv_icmp_lt (tgt := 79) hx hb zd_M_believed_72 (by decide) (fun h72 => ?_) (fun h72 => ?_)
        · have h72 := (nI_ltI (b := 3) (by have := zalk_le M d r 9; omega) (by decide)).mp h72
          have h72 : ¬ 3 ≤ zalk M d r 9 := by omega
          refine lv_iconst (v := 0) hx hb zd_M_believed_79 (by decide) ?_
          exact zS_zret hx hb hr hlk rfl rfl rfl (by simp [zb, h9, h67, h72]) zd_M_believed_80
        · have h72 : 3 ≤ zalk M d r 9 := Nat.le_of_not_lt (fun q => h72 ((nI_ltI (b := 3) (by have := zalk_le M d r 9; omega) (by decide)).mpr q))
          refine lv_iconst (v := 1) hx hb zd_M_believed_75 (by decide) ?_
          refine lv_goto (tgt := 80) hx hb zd_M_believed_76 (by decide) ?_
          exact zS_zret hx hb hr hlk rfl rfl rfl (by simp [zb, h9, h67, h72]) zd_M_believed_80
    | succ j ih =>
      intro k hk ls hl
      refine lv_iload hx hb zd_M_believed_5 (lv_at hl 4 rfl) ?_
      refine lv_bipush (v := 9) hx hb zd_M_believed_7 (by decide) ?_
      refine lv_icmp_ge (tgt := 56) hx hb zd_M_believed_9 (by decide) (fun h9 => absurd h9 (nI_ge (b := 9) (by omega) (by decide))) (fun h9 => ?_)
      refine lv_aload_n hx hb zd_M_believed_12 rfl (lv_at hl 0 rfl) ?_
      refine zR_get 19 (by decide) hx hb hts hown hK hP (zl_M_65 hts) rfl rfl zd_M_believed_13 ?_
      refine lv_bipush (v := 9) hx hb zd_M_believed_16 (by decide) ?_
      refine lv_iload_n hx hb zd_M_believed_18 rfl (lv_at hl 1 rfl) ?_
      refine lv_imul hx hb zd_M_believed_19 ?_
      refine z_top (zn_m9 _) ?_
      refine lv_iload hx hb zd_M_believed_20 (lv_at hl 4 rfl) ?_
      refine lv_iadd hx hb zd_M_believed_22 ?_
      refine z_top (nI_add _ _) ?_
      refine zR_zld 19 (by decide) (j := (9 * d + k)) hx hb hK hP rfl (show (9 * d + k) < 27 from by omega) zd_M_believed_23 ?_
      refine lv_if_eq (tgt := 50) hx hb zd_M_believed_24 (by decide) (fun h24 => ?_) (fun h24 => ?_)
      · refine lv_iinc (v := nI (k + 1)) (k := 4) hx hb zd_M_believed_50 hl rfl (nI_1 _) (by decide) rfl (fun ls hl => ?_)
        have hl : lv_has ls 5 [(4, .int (nI (k + 1))), (0, .ref rb), (1, .int (nI d)), (2, .int (nI r)), (3, .int (nI (zalk M d r k)))] := hl
        refine lv_goto (tgt := 5) hx hb zd_M_believed_53 (by decide) ?_
        refine ih (k + 1) (by omega) ls ?_
        · first | rw [zalk_s ⟨h24, c44⟩] | rw [zalk_f (fun hh => c44 hh.2)] | rw [zalk_f (fun hh => hh.1 h24)]
          exact lv_sub hl [1, 2, 3, 4, 0] rfl
      · refine lv_aload_n hx hb zd_M_believed_27 rfl (lv_at hl 0 rfl) ?_
        refine lv_bipush (v := 9) hx hb zd_M_believed_28 (by decide) ?_
        refine lv_iload_n hx hb zd_M_believed_30 rfl (lv_at hl 1 rfl) ?_
        refine lv_imul hx hb zd_M_believed_31 ?_
        refine z_top (zn_m9 _) ?_
        refine lv_iload_n hx hb zd_M_believed_32 rfl (lv_at hl 2 rfl) ?_
        refine lv_iadd hx hb zd_M_believed_33 ?_
        refine z_top (nI_add _ _) ?_
        refine lv_bipush (v := 9) hx hb zd_M_believed_34 (by decide) ?_
        refine lv_iload_n hx hb zd_M_believed_36 rfl (lv_at hl 1 rfl) ?_
        refine lv_imul hx hb zd_M_believed_37 ?_
        refine z_top (zn_m9 _) ?_
        refine lv_iload hx hb zd_M_believed_38 (lv_at hl 4 rfl) ?_
        refine lv_iadd hx hb zd_M_believed_40 ?_
        refine z_top (nI_add _ _) ?_
        refine zR_calls (nA := 2) (As := [.int (nI (9 * d + r)), .int (nI (9 * d + k))]) (rest := []) (zm_same l D ka rb M (9 * d + r) (9 * d + k) (by omega) (by omega)) (zg_M_same zk_M_159) rfl (by decide) ⟨rfl, rfl⟩ ⟨Nat.le_of_ble_eq_true rfl, Nat.le_of_ble_eq_true rfl⟩ hx hb hml hts hown hK hP hl.1 rfl rfl (Nat.le_of_ble_eq_true rfl) ⟨Nat.zero_le _, Nat.zero_le _⟩ zd_M_believed_41 ?_
        refine lv_if_eq (tgt := 50) hx hb zd_M_believed_44 (by decide) (fun h44 => ?_) (fun h44 => ?_)
        · have c44 := zb_0 h44
          refine lv_iinc (v := nI (k + 1)) (k := 4) hx hb zd_M_believed_50 hl rfl (nI_1 _) (by decide) rfl (fun ls hl => ?_)
          have hl : lv_has ls 5 [(4, .int (nI (k + 1))), (0, .ref rb), (1, .int (nI d)), (2, .int (nI r)), (3, .int (nI (zalk M d r k)))] := hl
          refine lv_goto (tgt := 5) hx hb zd_M_believed_53 (by decide) ?_
          refine ih (k + 1) (by omega) ls ?_
          · first | rw [zalk_s ⟨h24, c44⟩] | rw [zalk_f (fun hh => c44 hh.2)] | rw [zalk_f (fun hh => hh.1 h24)]
            exact lv_sub hl [1, 2, 3, 4, 0] rfl
        · have c44 := zb_1 h44
          refine lv_iinc (v := nI ((zalk M d r k) + 1)) (k := 3) hx hb zd_M_believed_47 hl rfl (nI_1 _) (by decide) rfl (fun ls hl => ?_)
          have hl : lv_has ls 5 [(3, .int (nI ((zalk M d r k) + 1))), (0, .ref rb), (1, .int (nI d)), (2, .int (nI r)), (4, .int (nI k))] := hl
          refine lv_iinc (v := nI (k + 1)) (k := 4) hx hb zd_M_believed_50 hl rfl (nI_1 _) (by decide) rfl (fun ls hl => ?_)
          have hl : lv_has ls 5 [(4, .int (nI (k + 1))), (3, .int (nI ((zalk M d r k) + 1))), (0, .ref rb), (1, .int (nI d)), (2, .int (nI r))] := hl
          refine lv_goto (tgt := 5) hx hb zd_M_believed_53 (by decide) ?_
          refine ih (k + 1) (by omega) ls ?_
          · first | rw [zalk_s ⟨h24, c44⟩] | rw [zalk_f (fun hh => c44 hh.2)] | rw [zalk_f (fun hh => hh.1 h24)]
            exact lv_sub hl [2, 3, 4, 1, 0] rfl
  exact L5 9 0 (by omega) _ (lv_sub hl [2, 3, 4, 1, 0] rfl)
set_option maxRecDepth 100000 in
set_option maxHeartbeats 4000000 in
theorem zm_answer (l : Launch) (D : va_G) (ka : Nat → ClassId) (rb : Nat) (M : zM) (d p b : Nat) (hd : d < 3) (hp : p < 4) (hb0 : b < 27) (ha : M 16 d = nI p) : Met l zy_M_answer (.code zy_M_answer zc_M_answer 5 none :: zAll) ({ frames := 0, cells := 0, slots := 0, locals := 0 }) (va_Pc [.ref rb, .int (nI d), .int (nI b)] (zRW D ka rb M)) (zRQv D ka rb (zanswer M d p b)) 0 0 (zRA rb) := by
  refine z_met (by decide) (Nat.le_of_ble_eq_true rfl) ?_
  intro pg e s m below meth c hx hb hml hr hts hown hlk hnm hB ls hl
  obtain ⟨hP, hK⟩ := hB
  have hS : va_S (zRA rb) s.heap s.heap [] := va_S.rf
  have hl : lv_has ls 5 [(0, .ref rb), (1, .int (nI d)), (2, .int (nI b))] := hl
  refine lv_aload_n hx hb zd_M_answer_0 rfl (lv_at hl 0 rfl) ?_
  refine zR_get 16 (by decide) hx hb hts hown hK hP (zl_M_56 hts) rfl rfl zd_M_answer_1 ?_
  refine lv_iload_n hx hb zd_M_answer_4 rfl (lv_at hl 1 rfl) ?_
  refine zR_ld 16 (by decide) (j := d) hx hb hK hP rfl (show d < 3 from by omega) zd_M_answer_5 ?_
  refine z_top ha ?_
  refine lv_istore_n hx hb zd_M_answer_6 rfl hl (by decide) rfl (fun ls hl => ?_)
  have hl : lv_has ls 5 [(3, .int (nI p)), (0, .ref rb), (1, .int (nI d)), (2, .int (nI b))] := hl
  refine lv_iconst (v := 4) hx hb zd_M_answer_7 (by decide) ?_
  refine lv_iload_n hx hb zd_M_answer_8 rfl (lv_at hl 2 rfl) ?_
  refine lv_imul hx hb zd_M_answer_9 ?_
  refine z_top (zn_m4 _) ?_
  refine lv_iload_n hx hb zd_M_answer_10 rfl (lv_at hl 0 rfl) ?_
  refine lv_iadd hx hb zd_M_answer_11 ?_
  refine z_top (nI_add _ _) ?_
  refine lv_istore hx hb zd_M_answer_12 hl (by decide) rfl (fun ls hl => ?_)
  have hl : lv_has ls 5 [(4, .int (nI (4 * d + p))), (3, .int (nI p)), (0, .ref rb), (1, .int (nI d)), (2, .int (nI b))] := hl
  refine lv_aload_n hx hb zd_M_answer_14 rfl (lv_at hl 2 rfl) ?_
  refine zR_get 20 (by decide) hx hb hts hown hK hP (zl_M_68 hts) rfl rfl zd_M_answer_15 ?_
  refine lv_iload_n hx hb zd_M_answer_18 rfl (lv_at hl 4 rfl) ?_
  refine zR_ld 20 (by decide) (j := b) hx hb hK hP rfl (show b < 27 from by omega) zd_M_answer_19 ?_
  refine lv_aload_n hx hb zd_M_answer_20 rfl (lv_at hl 2 rfl) ?_
  refine zR_get 23 (by decide) hx hb hts hown hK hP (zl_M_77 hts) rfl rfl zd_M_answer_21 ?_
  refine lv_iload hx hb zd_M_answer_24 (lv_at hl 0 rfl) ?_
  refine zR_ld 23 (by decide) (j := (4 * d + p)) hx hb hK hP rfl (show (4 * d + p) < 12 from by omega) zd_M_answer_26 ?_
  refine lv_icmp_lt (tgt := 69) hx hb zd_M_answer_27 (by decide) (fun h27 => ?_) (fun h27 => ?_)
  · refine lv_aload_n hx hb zd_M_answer_69 rfl (lv_at hl 2 rfl) ?_
    refine zR_get 18 (by decide) hx hb hts hown hK hP (zl_M_62 hts) rfl rfl zd_M_answer_70 ?_
    refine lv_iload_n hx hb zd_M_answer_73 rfl (lv_at hl 3 rfl) ?_
    refine lv_iconst (v := 2) hx hb zd_M_answer_74 (by decide) ?_
    refine zR_sto 18 (by decide) (j := d) hx hb hK hP hS rfl (show d < 3 from by omega) zd_M_answer_75 (fun H locs hP hS => ?_)
    have hP : zRP D ka rb (zst M 18 d 2) H := hP
    refine lv_aload_n hx hb zd_M_answer_76 rfl (lv_at hl 2 rfl) ?_
    refine zR_get 26 (by decide) hx hb hts hown hK hP (zl_M_86 hts) rfl rfl zd_M_answer_77 ?_
    refine lv_iload_n hx hb zd_M_answer_80 rfl (lv_at hl 3 rfl) ?_
    refine lv_iconst (v := 1) hx hb zd_M_answer_81 (by decide) ?_
    refine zR_zsto 26 (by decide) (j := d) hx hb hK hP hS rfl (show d < 3 from by omega) (by decide) zd_M_answer_82 (fun H locs hP hS => ?_)
    have hP : zRP D ka rb (zst (zst M 18 d 2) 26 d 1) H := hP
    refine lv_aload_n hx hb zd_M_answer_83 rfl (lv_at hl 2 rfl) ?_
    refine zR_get 27 (by decide) hx hb hts hown hK hP (zl_M_89 hts) rfl rfl zd_M_answer_84 ?_
    refine lv_iconst (v := 4) hx hb zd_M_answer_87 (by decide) ?_
    refine lv_iload_n hx hb zd_M_answer_88 rfl (lv_at hl 3 rfl) ?_
    refine lv_imul hx hb zd_M_answer_89 ?_
    refine z_top (zn_m4 _) ?_
    refine lv_iload_n hx hb zd_M_answer_90 rfl (lv_at hl 1 rfl) ?_
    refine zR_sto 27 (by decide) (j := (4 * d)) hx hb hK hP hS rfl (show (4 * d) < 12 from by omega) zd_M_answer_91 (fun H locs hP hS => ?_)
    have hP : zRP D ka rb (zst (zst (zst M 18 d 2) 26 d 1) 27 (4 * d) (nI p)) H := hP
    refine lv_aload_n hx hb zd_M_answer_92 rfl (lv_at hl 2 rfl) ?_
    refine zR_get 27 (by decide) hx hb hts hown hK hP (zl_M_89 hts) rfl rfl zd_M_answer_93 ?_
    refine lv_iconst (v := 4) hx hb zd_M_answer_96 (by decide) ?_
    refine lv_iload_n hx hb zd_M_answer_97 rfl (lv_at hl 3 rfl) ?_
    refine lv_imul hx hb zd_M_answer_98 ?_
    refine z_top (zn_m4 _) ?_
    refine lv_iconst (v := 1) hx hb zd_M_answer_99 (by decide) ?_
    refine lv_iadd hx hb zd_M_answer_100 ?_
    refine z_top (nI_add _ _) ?_
    refine lv_aload_n hx hb zd_M_answer_101 rfl (lv_at hl 2 rfl) ?_
    refine zR_get 23 (by decide) hx hb hts hown hK hP (zl_M_77 hts) rfl rfl zd_M_answer_102 ?_
    refine lv_iload hx hb zd_M_answer_105 (lv_at hl 0 rfl) ?_
    refine zR_ld 23 (by decide) (j := (4 * d + p)) hx hb hK hP rfl (show (4 * d + p) < 12 from by omega) zd_M_answer_107 ?_
    refine zR_sto 27 (by decide) (j := (4 * d + 1)) hx hb hK hP hS rfl (show (4 * d + 1) < 12 from by omega) zd_M_answer_108 (fun H locs hP hS => ?_)
    have hP : zRP D ka rb (zst (zst (zst (zst M 18 d 2) 26 d 1) 27 (4 * d) (nI p)) 27 (4 * d + 1) (M 23 (4 * d + p))) H := hP
    refine lv_aload_n hx hb zd_M_answer_109 rfl (lv_at hl 2 rfl) ?_
    refine zR_get 27 (by decide) hx hb hts hown hK hP (zl_M_89 hts) rfl rfl zd_M_answer_110 ?_
    refine lv_iconst (v := 4) hx hb zd_M_answer_113 (by decide) ?_
    refine lv_iload_n hx hb zd_M_answer_114 rfl (lv_at hl 3 rfl) ?_
    refine lv_imul hx hb zd_M_answer_115 ?_
    refine z_top (zn_m4 _) ?_
    refine lv_iconst (v := 2) hx hb zd_M_answer_116 (by decide) ?_
    refine lv_iadd hx hb zd_M_answer_117 ?_
    refine z_top (nI_add _ _) ?_
    refine lv_aload_n hx hb zd_M_answer_118 rfl (lv_at hl 2 rfl) ?_
    refine zR_get 24 (by decide) hx hb hts hown hK hP (zl_M_80 hts) rfl rfl zd_M_answer_119 ?_
    refine lv_iload hx hb zd_M_answer_122 (lv_at hl 0 rfl) ?_
    refine zR_ld 24 (by decide) (j := (4 * d + p)) hx hb hK hP rfl (show (4 * d + p) < 12 from by omega) zd_M_answer_124 ?_
    refine zR_sto 27 (by decide) (j := (4 * d + 2)) hx hb hK hP hS rfl (show (4 * d + 2) < 12 from by omega) zd_M_answer_125 (fun H locs hP hS => ?_)
    have hP : zRP D ka rb (zst (zst (zst (zst (zst M 18 d 2) 26 d 1) 27 (4 * d) (nI p)) 27 (4 * d + 1) (M 23 (4 * d + p))) 27 (4 * d + 2) (M 24 (4 * d + p))) H := hP
    refine lv_aload_n hx hb zd_M_answer_126 rfl (lv_at hl 2 rfl) ?_
    refine zR_get 27 (by decide) hx hb hts hown hK hP (zl_M_89 hts) rfl rfl zd_M_answer_127 ?_
    refine lv_iconst (v := 4) hx hb zd_M_answer_130 (by decide) ?_
    refine lv_iload_n hx hb zd_M_answer_131 rfl (lv_at hl 3 rfl) ?_
    refine lv_imul hx hb zd_M_answer_132 ?_
    refine z_top (zn_m4 _) ?_
    refine lv_iconst (v := 3) hx hb zd_M_answer_133 (by decide) ?_
    refine lv_iadd hx hb zd_M_answer_134 ?_
    refine z_top (nI_add _ _) ?_
    refine lv_aload_n hx hb zd_M_answer_135 rfl (lv_at hl 2 rfl) ?_
    refine zR_get 25 (by decide) hx hb hts hown hK hP (zl_M_83 hts) rfl rfl zd_M_answer_136 ?_
    refine lv_iload hx hb zd_M_answer_139 (lv_at hl 0 rfl) ?_
    refine zR_ld 25 (by decide) (j := (4 * d + p)) hx hb hK hP rfl (show (4 * d + p) < 12 from by omega) zd_M_answer_141 ?_
    refine zR_sto 27 (by decide) (j := (4 * d + 3)) hx hb hK hP hS rfl (show (4 * d + 3) < 12 from by omega) zd_M_answer_142 (fun H locs hP hS => ?_)
    have hP : zRP D ka rb (zst (zst (zst (zst (zst (zst M 18 d 2) 26 d 1) 27 (4 * d) (nI p)) 27 (4 * d + 1) (M 23 (4 * d + p))) 27 (4 * d + 2) (M 24 (4 * d + p))) 27 (4 * d + 3) (M 25 (4 * d + p))) H := hP
    refine lv_aload_n hx hb zd_M_answer_143 rfl (lv_at hl 2 rfl) ?_
    refine zR_get 28 (by decide) hx hb hts hown hK hP (zl_M_92 hts) rfl rfl zd_M_answer_144 ?_
    refine lv_iload_n hx hb zd_M_answer_147 rfl (lv_at hl 1 rfl) ?_
    refine lv_iconst (v := 1) hx hb zd_M_answer_148 (by decide) ?_
    refine zR_zsto 28 (by decide) (j := p) hx hb hK hP hS rfl (show p < 4 from by omega) (by decide) zd_M_answer_149 (fun H locs hP hS => ?_)
    have hP : zRP D ka rb (zst (zst (zst (zst (zst (zst (zst M 18 d 2) 26 d 1) 27 (4 * d) (nI p)) 27 (4 * d + 1) (M 23 (4 * d + p))) 27 (4 * d + 2) (M 24 (4 * d + p))) 27 (4 * d + 3) (M 25 (4 * d + p))) 28 p 1) H := hP
    refine lv_aload_n hx hb zd_M_answer_150 rfl (lv_at hl 2 rfl) ?_
    refine zR_get 29 (by decide) hx hb hts hown hK hP (zl_M_95 hts) rfl rfl zd_M_answer_151 ?_
    refine lv_iload_n hx hb zd_M_answer_154 rfl (lv_at hl 1 rfl) ?_
    refine lv_aload_n hx hb zd_M_answer_155 rfl (lv_at hl 2 rfl) ?_
    refine zR_get 24 (by decide) hx hb hts hown hK hP (zl_M_80 hts) rfl rfl zd_M_answer_156 ?_
    refine lv_iload hx hb zd_M_answer_159 (lv_at hl 0 rfl) ?_
    refine zR_ld 24 (by decide) (j := (4 * d + p)) hx hb hK hP rfl (show (4 * d + p) < 12 from by omega) zd_M_answer_161 ?_
    refine zR_sto 29 (by decide) (j := p) hx hb hK hP hS rfl (show p < 4 from by omega) zd_M_answer_162 (fun H locs hP hS => ?_)
    have hP : zRP D ka rb (zst (zst (zst (zst (zst (zst (zst (zst M 18 d 2) 26 d 1) 27 (4 * d) (nI p)) 27 (4 * d + 1) (M 23 (4 * d + p))) 27 (4 * d + 2) (M 24 (4 * d + p))) 27 (4 * d + 3) (M 25 (4 * d + p))) 28 p 1) 29 p (M 24 (4 * d + p))) H := hP
    refine lv_aload_n hx hb zd_M_answer_163 rfl (lv_at hl 2 rfl) ?_
    refine zR_get 30 (by decide) hx hb hts hown hK hP (zl_M_98 hts) rfl rfl zd_M_answer_164 ?_
    refine lv_iload_n hx hb zd_M_answer_167 rfl (lv_at hl 1 rfl) ?_
    refine lv_aload_n hx hb zd_M_answer_168 rfl (lv_at hl 2 rfl) ?_
    refine zR_get 25 (by decide) hx hb hts hown hK hP (zl_M_83 hts) rfl rfl zd_M_answer_169 ?_
    refine lv_iload hx hb zd_M_answer_172 (lv_at hl 0 rfl) ?_
    refine zR_ld 25 (by decide) (j := (4 * d + p)) hx hb hK hP rfl (show (4 * d + p) < 12 from by omega) zd_M_answer_174 ?_
    refine zR_sto 30 (by decide) (j := p) hx hb hK hP hS rfl (show p < 4 from by omega) zd_M_answer_175 (fun H locs hP hS => ?_)
    have hP : zRP D ka rb (zst (zst (zst (zst (zst (zst (zst (zst (zst M 18 d 2) 26 d 1) 27 (4 * d) (nI p)) 27 (4 * d + 1) (M 23 (4 * d + p))) 27 (4 * d + 2) (M 24 (4 * d + p))) 27 (4 * d + 3) (M 25 (4 * d + p))) 28 p 1) 29 p (M 24 (4 * d + p))) 30 p (M 25 (4 * d + p))) H := hP
    exact zR_vret hx hb hr hlk hK hP hS (zanswer_t h27) zd_M_answer_176
  · refine lv_aload_n hx hb zd_M_answer_30 rfl (lv_at hl 2 rfl) ?_
    refine zR_get 23 (by decide) hx hb hts hown hK hP (zl_M_77 hts) rfl rfl zd_M_answer_31 ?_
    refine lv_iload hx hb zd_M_answer_34 (lv_at hl 0 rfl) ?_
    refine lv_aload_n hx hb zd_M_answer_36 rfl (lv_at hl 2 rfl) ?_
    refine zR_get 20 (by decide) hx hb hts hown hK hP (zl_M_68 hts) rfl rfl zd_M_answer_37 ?_
    refine lv_iload_n hx hb zd_M_answer_40 rfl (lv_at hl 4 rfl) ?_
    refine zR_ld 20 (by decide) (j := b) hx hb hK hP rfl (show b < 27 from by omega) zd_M_answer_41 ?_
    refine zR_sto 23 (by decide) (j := (4 * d + p)) hx hb hK hP hS rfl (show (4 * d + p) < 12 from by omega) zd_M_answer_42 (fun H locs hP hS => ?_)
    have hP : zRP D ka rb (zst M 23 (4 * d + p) (M 20 b)) H := hP
    refine lv_aload_n hx hb zd_M_answer_43 rfl (lv_at hl 2 rfl) ?_
    refine zR_get 24 (by decide) hx hb hts hown hK hP (zl_M_80 hts) rfl rfl zd_M_answer_44 ?_
    refine lv_iload hx hb zd_M_answer_47 (lv_at hl 0 rfl) ?_
    refine lv_aload_n hx hb zd_M_answer_49 rfl (lv_at hl 2 rfl) ?_
    refine zR_get 21 (by decide) hx hb hts hown hK hP (zl_M_71 hts) rfl rfl zd_M_answer_50 ?_
    refine lv_iload_n hx hb zd_M_answer_53 rfl (lv_at hl 4 rfl) ?_
    refine zR_ld 21 (by decide) (j := b) hx hb hK hP rfl (show b < 27 from by omega) zd_M_answer_54 ?_
    refine zR_sto 24 (by decide) (j := (4 * d + p)) hx hb hK hP hS rfl (show (4 * d + p) < 12 from by omega) zd_M_answer_55 (fun H locs hP hS => ?_)
    have hP : zRP D ka rb (zst (zst M 23 (4 * d + p) (M 20 b)) 24 (4 * d + p) (M 21 b)) H := hP
    refine lv_aload_n hx hb zd_M_answer_56 rfl (lv_at hl 2 rfl) ?_
    refine zR_get 25 (by decide) hx hb hts hown hK hP (zl_M_83 hts) rfl rfl zd_M_answer_57 ?_
    refine lv_iload hx hb zd_M_answer_60 (lv_at hl 0 rfl) ?_
    refine lv_aload_n hx hb zd_M_answer_62 rfl (lv_at hl 2 rfl) ?_
    refine zR_get 22 (by decide) hx hb hts hown hK hP (zl_M_74 hts) rfl rfl zd_M_answer_63 ?_
    refine lv_iload_n hx hb zd_M_answer_66 rfl (lv_at hl 4 rfl) ?_
    refine zR_ld 22 (by decide) (j := b) hx hb hK hP rfl (show b < 27 from by omega) zd_M_answer_67 ?_
    refine zR_sto 25 (by decide) (j := (4 * d + p)) hx hb hK hP hS rfl (show (4 * d + p) < 12 from by omega) zd_M_answer_68 (fun H locs hP hS => ?_)
    have hP : zRP D ka rb (zst (zst (zst M 23 (4 * d + p) (M 20 b)) 24 (4 * d + p) (M 21 b)) 25 (4 * d + p) (M 22 b)) H := hP
    refine lv_aload_n hx hb zd_M_answer_69 rfl (lv_at hl 2 rfl) ?_
    refine zR_get 18 (by decide) hx hb hts hown hK hP (zl_M_62 hts) rfl rfl zd_M_answer_70 ?_
    refine lv_iload_n hx hb zd_M_answer_73 rfl (lv_at hl 3 rfl) ?_
    refine lv_iconst (v := 2) hx hb zd_M_answer_74 (by decide) ?_
    refine zR_sto 18 (by decide) (j := d) hx hb hK hP hS rfl (show d < 3 from by omega) zd_M_answer_75 (fun H locs hP hS => ?_)
    have hP : zRP D ka rb (zst (zst (zst (zst M 23 (4 * d + p) (M 20 b)) 24 (4 * d + p) (M 21 b)) 25 (4 * d + p) (M 22 b)) 18 d 2) H := hP
    refine lv_aload_n hx hb zd_M_answer_76 rfl (lv_at hl 2 rfl) ?_
    refine zR_get 26 (by decide) hx hb hts hown hK hP (zl_M_86 hts) rfl rfl zd_M_answer_77 ?_
    refine lv_iload_n hx hb zd_M_answer_80 rfl (lv_at hl 3 rfl) ?_
    refine lv_iconst (v := 1) hx hb zd_M_answer_81 (by decide) ?_
    refine zR_zsto 26 (by decide) (j := d) hx hb hK hP hS rfl (show d < 3 from by omega) (by decide) zd_M_answer_82 (fun H locs hP hS => ?_)
    have hP : zRP D ka rb (zst (zst (zst (zst (zst M 23 (4 * d + p) (M 20 b)) 24 (4 * d + p) (M 21 b)) 25 (4 * d + p) (M 22 b)) 18 d 2) 26 d 1) H := hP
    refine lv_aload_n hx hb zd_M_answer_83 rfl (lv_at hl 2 rfl) ?_
    refine zR_get 27 (by decide) hx hb hts hown hK hP (zl_M_89 hts) rfl rfl zd_M_answer_84 ?_
    refine lv_iconst (v := 4) hx hb zd_M_answer_87 (by decide) ?_
    refine lv_iload_n hx hb zd_M_answer_88 rfl (lv_at hl 3 rfl) ?_
    refine lv_imul hx hb zd_M_answer_89 ?_
    refine z_top (zn_m4 _) ?_
    refine lv_iload_n hx hb zd_M_answer_90 rfl (lv_at hl 1 rfl) ?_
    refine zR_sto 27 (by decide) (j := (4 * d)) hx hb hK hP hS rfl (show (4 * d) < 12 from by omega) zd_M_answer_91 (fun H locs hP hS => ?_)
    have hP : zRP D ka rb (zst (zst (zst (zst (zst (zst M 23 (4 * d + p) (M 20 b)) 24 (4 * d + p) (M 21 b)) 25 (4 * d + p) (M 22 b)) 18 d 2) 26 d 1) 27 (4 * d) (nI p)) H := hP
    refine lv_aload_n hx hb zd_M_answer_92 rfl (lv_at hl 2 rfl) ?_
    refine zR_get 27 (by decide) hx hb hts hown hK hP (zl_M_89 hts) rfl rfl zd_M_answer_93 ?_
    refine lv_iconst (v := 4) hx hb zd_M_answer_96 (by decide) ?_
    refine lv_iload_n hx hb zd_M_answer_97 rfl (lv_at hl 3 rfl) ?_
    refine lv_imul hx hb zd_M_answer_98 ?_
    refine z_top (zn_m4 _) ?_
    refine lv_iconst (v := 1) hx hb zd_M_answer_99 (by decide) ?_
    refine lv_iadd hx hb zd_M_answer_100 ?_
    refine z_top (nI_add _ _) ?_
    refine lv_aload_n hx hb zd_M_answer_101 rfl (lv_at hl 2 rfl) ?_
    refine zR_get 23 (by decide) hx hb hts hown hK hP (zl_M_77 hts) rfl rfl zd_M_answer_102 ?_
    refine lv_iload hx hb zd_M_answer_105 (lv_at hl 0 rfl) ?_
    refine zR_ld 23 (by decide) (j := (4 * d + p)) hx hb hK hP rfl (show (4 * d + p) < 12 from by omega) zd_M_answer_107 ?_
    refine zR_sto 27 (by decide) (j := (4 * d + 1)) hx hb hK hP hS rfl (show (4 * d + 1) < 12 from by omega) zd_M_answer_108 (fun H locs hP hS => ?_)
    have hP : zRP D ka rb (zst (zst (zst (zst (zst (zst (zst M 23 (4 * d + p) (M 20 b)) 24 (4 * d + p) (M 21 b)) 25 (4 * d + p) (M 22 b)) 18 d 2) 26 d 1) 27 (4 * d) (nI p)) 27 (4 * d + 1) ((zst M 23 (4 * d + p) (M 20 b)) 23 (4 * d + p))) H := hP
    refine lv_aload_n hx hb zd_M_answer_109 rfl (lv_at hl 2 rfl) ?_
    refine zR_get 27 (by decide) hx hb hts hown hK hP (zl_M_89 hts) rfl rfl zd_M_answer_110 ?_
    refine lv_iconst (v := 4) hx hb zd_M_answer_113 (by decide) ?_
    refine lv_iload_n hx hb zd_M_answer_114 rfl (lv_at hl 3 rfl) ?_
    refine lv_imul hx hb zd_M_answer_115 ?_
    refine z_top (zn_m4 _) ?_
    refine lv_iconst (v := 2) hx hb zd_M_answer_116 (by decide) ?_
    refine lv_iadd hx hb zd_M_answer_117 ?_
    refine z_top (nI_add _ _) ?_
    refine lv_aload_n hx hb zd_M_answer_118 rfl (lv_at hl 2 rfl) ?_
    refine zR_get 24 (by decide) hx hb hts hown hK hP (zl_M_80 hts) rfl rfl zd_M_answer_119 ?_
    refine lv_iload hx hb zd_M_answer_122 (lv_at hl 0 rfl) ?_
    refine zR_ld 24 (by decide) (j := (4 * d + p)) hx hb hK hP rfl (show (4 * d + p) < 12 from by omega) zd_M_answer_124 ?_
    refine zR_sto 27 (by decide) (j := (4 * d + 2)) hx hb hK hP hS rfl (show (4 * d + 2) < 12 from by omega) zd_M_answer_125 (fun H locs hP hS => ?_)
    have hP : zRP D ka rb (zst (zst (zst (zst (zst (zst (zst (zst M 23 (4 * d + p) (M 20 b)) 24 (4 * d + p) (M 21 b)) 25 (4 * d + p) (M 22 b)) 18 d 2) 26 d 1) 27 (4 * d) (nI p)) 27 (4 * d + 1) ((zst M 23 (4 * d + p) (M 20 b)) 23 (4 * d + p))) 27 (4 * d + 2) ((zst (zst M 23 (4 * d + p) (M 20 b)) 24 (4 * d + p) (M 21 b)) 24 (4 * d + p))) H := hP
    refine lv_aload_n hx hb zd_M_answer_126 rfl (lv_at hl 2 rfl) ?_
    refine zR_get 27 (by decide) hx hb hts hown hK hP (zl_M_89 hts) rfl rfl zd_M_answer_127 ?_
    refine lv_iconst (v := 4) hx hb zd_M_answer_130 (by decide) ?_
    refine lv_iload_n hx hb zd_M_answer_131 rfl (lv_at hl 3 rfl) ?_
    refine lv_imul hx hb zd_M_answer_132 ?_
    refine z_top (zn_m4 _) ?_
    refine lv_iconst (v := 3) hx hb zd_M_answer_133 (by decide) ?_
    refine lv_iadd hx hb zd_M_answer_134 ?_
    refine z_top (nI_add _ _) ?_
    refine lv_aload_n hx hb zd_M_answer_135 rfl (lv_at hl 2 rfl) ?_
    refine zR_get 25 (by decide) hx hb hts hown hK hP (zl_M_83 hts) rfl rfl zd_M_answer_136 ?_
    refine lv_iload hx hb zd_M_answer_139 (lv_at hl 0 rfl) ?_
    refine zR_ld 25 (by decide) (j := (4 * d + p)) hx hb hK hP rfl (show (4 * d + p) < 12 from by omega) zd_M_answer_141 ?_
    refine zR_sto 27 (by decide) (j := (4 * d + 3)) hx hb hK hP hS rfl (show (4 * d + 3) < 12 from by omega) zd_M_answer_142 (fun H locs hP hS => ?_)
    have hP : zRP D ka rb (zst (zst (zst (zst (zst (zst (zst (zst (zst M 23 (4 * d + p) (M 20 b)) 24 (4 * d + p) (M 21 b)) 25 (4 * d + p) (M 22 b)) 18 d 2) 26 d 1) 27 (4 * d) (nI p)) 27 (4 * d + 1) ((zst M 23 (4 * d + p) (M 20 b)) 23 (4 * d + p))) 27 (4 * d + 2) ((zst (zst M 23 (4 * d + p) (M 20 b)) 24 (4 * d + p) (M 21 b)) 24 (4 * d + p))) 27 (4 * d + 3) ((zst (zst (zst M 23 (4 * d + p) (M 20 b)) 24 (4 * d + p) (M 21 b)) 25 (4 * d + p) (M 22 b)) 25 (4 * d + p))) H := hP
    refine lv_aload_n hx hb zd_M_answer_143 rfl (lv_at hl 2 rfl) ?_
    refine zR_get 28 (by decide) hx hb hts hown hK hP (zl_M_92 hts) rfl rfl zd_M_answer_144 ?_
    refine lv_iload_n hx hb zd_M_answer_147 rfl (lv_at hl 1 rfl) ?_
    refine lv_iconst (v := 1) hx hb zd_M_answer_148 (by decide) ?_
    refine zR_zsto 28 (by decide) (j := p) hx hb hK hP hS rfl (show p < 4 from by omega) (by decide) zd_M_answer_149 (fun H locs hP hS => ?_)
    have hP : zRP D ka rb (zst (zst (zst (zst (zst (zst (zst (zst (zst (zst M 23 (4 * d + p) (M 20 b)) 24 (4 * d + p) (M 21 b)) 25 (4 * d + p) (M 22 b)) 18 d 2) 26 d 1) 27 (4 * d) (nI p)) 27 (4 * d + 1) ((zst M 23 (4 * d + p) (M 20 b)) 23 (4 * d + p))) 27 (4 * d + 2) ((zst (zst M 23 (4 * d + p) (M 20 b)) 24 (4 * d + p) (M 21 b)) 24 (4 * d + p))) 27 (4 * d + 3) ((zst (zst (zst M 23 (4 * d + p) (M 20 b)) 24 (4 * d + p) (M 21 b)) 25 (4 * d + p) (M 22 b)) 25 (4 * d + p))) 28 p 1) H := hP
    refine lv_aload_n hx hb zd_M_answer_150 rfl (lv_at hl 2 rfl) ?_
    refine zR_get 29 (by decide) hx hb hts hown hK hP (zl_M_95 hts) rfl rfl zd_M_answer_151 ?_
    refine lv_iload_n hx hb zd_M_answer_154 rfl (lv_at hl 1 rfl) ?_
    refine lv_aload_n hx hb zd_M_answer_155 rfl (lv_at hl 2 rfl) ?_
    refine zR_get 24 (by decide) hx hb hts hown hK hP (zl_M_80 hts) rfl rfl zd_M_answer_156 ?_
    refine lv_iload hx hb zd_M_answer_159 (lv_at hl 0 rfl) ?_
    refine zR_ld 24 (by decide) (j := (4 * d + p)) hx hb hK hP rfl (show (4 * d + p) < 12 from by omega) zd_M_answer_161 ?_
    refine zR_sto 29 (by decide) (j := p) hx hb hK hP hS rfl (show p < 4 from by omega) zd_M_answer_162 (fun H locs hP hS => ?_)
    have hP : zRP D ka rb (zst (zst (zst (zst (zst (zst (zst (zst (zst (zst (zst M 23 (4 * d + p) (M 20 b)) 24 (4 * d + p) (M 21 b)) 25 (4 * d + p) (M 22 b)) 18 d 2) 26 d 1) 27 (4 * d) (nI p)) 27 (4 * d + 1) ((zst M 23 (4 * d + p) (M 20 b)) 23 (4 * d + p))) 27 (4 * d + 2) ((zst (zst M 23 (4 * d + p) (M 20 b)) 24 (4 * d + p) (M 21 b)) 24 (4 * d + p))) 27 (4 * d + 3) ((zst (zst (zst M 23 (4 * d + p) (M 20 b)) 24 (4 * d + p) (M 21 b)) 25 (4 * d + p) (M 22 b)) 25 (4 * d + p))) 28 p 1) 29 p ((zst (zst M 23 (4 * d + p) (M 20 b)) 24 (4 * d + p) (M 21 b)) 24 (4 * d + p))) H := hP
    refine lv_aload_n hx hb zd_M_answer_163 rfl (lv_at hl 2 rfl) ?_
    refine zR_get 30 (by decide) hx hb hts hown hK hP (zl_M_98 hts) rfl rfl zd_M_answer_164 ?_
    refine lv_iload_n hx hb zd_M_answer_167 rfl (lv_at hl 1 rfl) ?_
    refine lv_aload_n hx hb zd_M_answer_168 rfl (lv_at hl 2 rfl) ?_
    refine zR_get 25 (by decide) hx hb hts hown hK hP (zl_M_83 hts) rfl rfl zd_M_answer_169 ?_
    refine lv_iload hx hb zd_M_answer_172 (lv_at hl 0 rfl) ?_
    refine zR_ld 25 (by decide) (j := (4 * d + p)) hx hb hK hP rfl (show (4 * d + p) < 12 from by omega) zd_M_answer_174 ?_
    refine zR_sto 30 (by decide) (j := p) hx hb hK hP hS rfl (show p < 4 from by omega) zd_M_answer_175 (fun H locs hP hS => ?_)
    have hP : zRP D ka rb (zst (zst (zst (zst (zst (zst (zst (zst (zst (zst (zst (zst M 23 (4 * d + p) (M 20 b)) 24 (4 * d + p) (M 21 b)) 25 (4 * d + p) (M 22 b)) 18 d 2) 26 d 1) 27 (4 * d) (nI p)) 27 (4 * d + 1) ((zst M 23 (4 * d + p) (M 20 b)) 23 (4 * d + p))) 27 (4 * d + 2) ((zst (zst M 23 (4 * d + p) (M 20 b)) 24 (4 * d + p) (M 21 b)) 24 (4 * d + p))) 27 (4 * d + 3) ((zst (zst (zst M 23 (4 * d + p) (M 20 b)) 24 (4 * d + p) (M 21 b)) 25 (4 * d + p) (M 22 b)) 25 (4 * d + p))) 28 p 1) 29 p ((zst (zst M 23 (4 * d + p) (M 20 b)) 24 (4 * d + p) (M 21 b)) 24 (4 * d + p))) 30 p ((zst (zst (zst M 23 (4 * d + p) (M 20 b)) 24 (4 * d + p) (M 21 b)) 25 (4 * d + p) (M 22 b)) 25 (4 * d + p))) H := hP
    exact zR_vret hx hb hr hlk hK hP hS (zanswer_f h27) zd_M_answer_176
set_option maxRecDepth 100000 in
set_option maxHeartbeats 4000000 in
theorem zm_looks (l : Launch) (D : va_G) (ka : Nat → ClassId) (rb : Nat) (M : zM) (hL : zLt M) (d p : Nat) (hd : d < 3) (hp : p < 4) (ha : M 16 d = nI p) : Met l zy_M_looks (.code zy_M_looks zc_M_looks 4 none :: zAll) ({ frames := 2, cells := 0, slots := 0, locals := 49 }) (va_Pc [.ref rb, .int (nI d)] (zRW D ka rb M)) (zRQv D ka rb (zlooks M d)) 0 0 (zRA rb) := by
  refine z_met (by decide) (Nat.le_of_ble_eq_true rfl) ?_
  intro pg e s m below meth c hx hb hml hr hts hown hlk hnm hB ls hl
  obtain ⟨hP, hK⟩ := hB
  have hS : va_S (zRA rb) s.heap s.heap [] := va_S.rf
  have hl : lv_has ls 4 [(0, .ref rb), (1, .int (nI d))] := hl
  refine lv_iconst (v := -1) hx hb zd_M_looks_0 (by decide) ?_
  refine lv_istore_n hx hb zd_M_looks_1 rfl hl (by decide) rfl (fun ls hl => ?_)
  have hl : lv_has ls 4 [(2, .int (-1)), (0, .ref rb), (1, .int (nI d))] := hl
  refine lv_iconst (v := 0) hx hb zd_M_looks_2 (by decide) ?_
  refine lv_istore_n hx hb zd_M_looks_3 rfl hl (by decide) rfl (fun ls hl => ?_)
  have hl : lv_has ls 4 [(3, .int 0), (2, .int (-1)), (0, .ref rb), (1, .int (nI d))] := hl
  have L4 : ∀ (j k : Nat), k + j = 9 → ∀ (H : Heap) (locs : List Loc) (ls : Array Slot), lv_has ls 4 [(0, .ref rb), (1, .int (nI d)), (2, .int (zoi d (zbest M d k))), (3, .int (nI k))] → zRP D ka rb M H → va_S (zRA rb) s.heap H locs → W pg l e ({ frames := 2, cells := 0, slots := 0, locals := 49 }) s m (List.toArray [.ref rb, .int (nI d)]) below meth c H locs 0 0 (MQ below (zRQv D ka rb (zlooks M d)) (List.toArray [.ref rb, .int (nI d)]) s 0 0 (zRA rb)) (F0 m 4 ls []) := by
    intro j
    induction j with
    | zero =>
      intro k hk H locs ls hl hP hS
      have hk : k = 9 := by omega
      subst hk
      refine lv_iload_n hx hb zd_M_looks_4 rfl (lv_at hl 3 rfl) ?_
      refine lv_bipush (v := 9) hx hb zd_M_looks_5 (by decide) ?_
      refine lv_icmp_ge (tgt := 51) hx hb zd_M_looks_7 (by decide) (fun h7 => ?_) (fun h7 => absurd (by decide) h7)
      refine lv_iload_n hx hb zd_M_looks_51 rfl (lv_at hl 2 rfl) ?_
      refine lv_iconst (v := -1) hx hb zd_M_looks_52 (by decide) ?_
      refine lv_icmp_eq (tgt := 65) hx hb zd_M_looks_53 (by decide) (fun h53 => ?_) (fun h53 => ?_)
      · have hb1 := zoi_none hd (zbest_lt 9) h53
        refine lv_aload_n hx hb zd_M_looks_65 rfl (lv_at hl 0 rfl) ?_
        refine zR_get 17 (by decide) hx hb hts hown hK hP (zl_M_59 hts) rfl rfl zd_M_looks_66 ?_
        refine lv_iload_n hx hb zd_M_looks_69 rfl (lv_at hl 1 rfl) ?_
        refine zR_ld 17 (by decide) (j := d) hx hb hK hP rfl (show d < 3 from by omega) zd_M_looks_70 ?_
        refine lv_aload_n hx hb zd_M_looks_71 rfl (lv_at hl 0 rfl) ?_
        refine zR_get 0 (by decide) hx hb hts hown hK hP (zl_M_125 hts) rfl rfl zd_M_looks_72 ?_
        refine lv_icmp_ne (tgt := 88) hx hb zd_M_looks_75 (by decide) (fun h75 => ?_) (fun h75 => ?_)
        · refine lv_aload_n hx hb zd_M_looks_88 rfl (lv_at hl 0 rfl) ?_
          refine zR_get 17 (by decide) hx hb hts hown hK hP (zl_M_59 hts) rfl rfl zd_M_looks_89 ?_
          refine lv_iload_n hx hb zd_M_looks_92 rfl (lv_at hl 1 rfl) ?_
          refine lv_dup2_11 hx hb zd_M_looks_93 rfl rfl ?_
          refine zR_ld 17 (by decide) (j := d) hx hb hK hP rfl (show d < 3 from by omega) zd_M_looks_94 ?_
          refine lv_iconst (v := 1) hx hb zd_M_looks_95 (by decide) ?_
          refine lv_iadd hx hb zd_M_looks_96 ?_
          refine zR_sto 17 (by decide) (j := d) hx hb hK hP hS rfl (show d < 3 from by omega) zd_M_looks_97 (fun H locs hP hS => ?_)
          have hP : zRP D ka rb (zst M 17 d ((M 17 d) + 1)) H := hP
          refine lv_aload_n hx hb zd_M_looks_98 rfl (lv_at hl 0 rfl) ?_
          refine lv_iload_n hx hb zd_M_looks_99 rfl (lv_at hl 1 rfl) ?_
          refine zR_callv (nA := 1) (As := [.int (nI d)]) (rest := []) (zm_askAll l D ka rb (zst M 17 d ((M 17 d) + 1)) (zLt_st hL (by decide)) d (by omega)) (zg_M_askAll zk_M_155) rfl (by decide) ⟨rfl, rfl⟩ ⟨Nat.le_of_ble_eq_true rfl, Nat.le_of_ble_eq_true rfl⟩ hx hb hml hts hown hK hP hS (fun _ h => h) hl.1 rfl rfl (Nat.le_of_ble_eq_true rfl) ⟨Nat.zero_le _, Nat.zero_le _⟩ zd_M_looks_100 (fun H locs hP hS => ?_)
          exact zR_vret hx hb hr hlk hK hP hS (zlooks_n hb1 h75).symm zd_M_looks_103
        · refine lv_aload_n hx hb zd_M_looks_78 rfl (lv_at hl 0 rfl) ?_
          refine zR_get 18 (by decide) hx hb hts hown hK hP (zl_M_62 hts) rfl rfl zd_M_looks_79 ?_
          refine lv_iload_n hx hb zd_M_looks_82 rfl (lv_at hl 1 rfl) ?_
          refine lv_iconst (v := 3) hx hb zd_M_looks_83 (by decide) ?_
          refine zR_sto 18 (by decide) (j := d) hx hb hK hP hS rfl (show d < 3 from by omega) zd_M_looks_84 (fun H locs hP hS => ?_)
          have hP : zRP D ka rb (zst M 18 d 3) H := hP
          refine lv_goto (tgt := 103) hx hb zd_M_looks_85 (by decide) ?_
          exact zR_vret hx hb hr hlk hK hP hS (zlooks_b hb1 h75).symm zd_M_looks_103
      · obtain ⟨b, hb1⟩ := zoi_some h53
        have hb2 := zbest_lt 9 b hb1
        refine lv_aload_n hx hb zd_M_looks_56 rfl (lv_at hl 0 rfl) ?_
        refine lv_iload_n hx hb zd_M_looks_57 rfl (lv_at hl 1 rfl) ?_
        refine lv_iload_n hx hb zd_M_looks_58 rfl (lv_at hl 2 rfl) ?_
        refine z_top (congrArg (zoi d) hb1) ?_
        refine zR_callv (nA := 2) (As := [.int (nI d), .int (nI (9 * d + b))]) (rest := []) (zm_answer l D ka rb M d p (9 * d + b) (by omega) (by omega) (by omega) ha) (zg_M_answer zk_M_168) rfl (by decide) ⟨rfl, rfl⟩ ⟨Nat.le_of_ble_eq_true rfl, Nat.le_of_ble_eq_true rfl⟩ hx hb hml hts hown hK hP hS (fun _ h => h) hl.1 rfl rfl (Nat.le_of_ble_eq_true rfl) ⟨Nat.zero_le _, Nat.zero_le _⟩ zd_M_looks_59 (fun H locs hP hS => ?_)
        refine lv_goto (tgt := 103) hx hb zd_M_looks_62 (by decide) ?_
        exact zR_vret hx hb hr hlk hK hP hS (zlooks_s hb1 ha hp).symm zd_M_looks_103
    | succ j ih =>
      intro k hk H locs ls hl hP hS
      refine lv_iload_n hx hb zd_M_looks_4 rfl (lv_at hl 3 rfl) ?_
      refine lv_bipush (v := 9) hx hb zd_M_looks_5 (by decide) ?_
      refine lv_icmp_ge (tgt := 51) hx hb zd_M_looks_7 (by decide) (fun h7 => absurd h7 (nI_ge (b := 9) (by omega) (by decide))) (fun h7 => ?_)
      refine lv_aload_n hx hb zd_M_looks_10 rfl (lv_at hl 0 rfl) ?_
      refine lv_iload_n hx hb zd_M_looks_11 rfl (lv_at hl 1 rfl) ?_
      refine lv_iload_n hx hb zd_M_looks_12 rfl (lv_at hl 3 rfl) ?_
      refine zR_calls (nA := 2) (As := [.int (nI d), .int (nI k)]) (rest := []) (zm_believed l D ka rb M d k (by omega) (by omega)) (zg_M_believed zk_M_162) rfl (by decide) ⟨rfl, rfl⟩ ⟨Nat.le_of_ble_eq_true rfl, Nat.le_of_ble_eq_true rfl⟩ hx hb hml hts hown hK hP hl.1 rfl rfl (Nat.le_of_ble_eq_true rfl) ⟨Nat.zero_le _, Nat.zero_le _⟩ zd_M_looks_13 ?_
      refine lv_if_eq (tgt := 45) hx hb zd_M_looks_16 (by decide) (fun h16 => ?_) (fun h16 => ?_)
      · have c16 := zb_0 h16
        refine lv_iinc (v := nI (k + 1)) (k := 3) hx hb zd_M_looks_45 hl rfl (nI_1 _) (by decide) rfl (fun ls hl => ?_)
        have hl : lv_has ls 4 [(3, .int (nI (k + 1))), (0, .ref rb), (1, .int (nI d)), (2, .int (zoi d (zbest M d k)))] := hl
        refine lv_goto (tgt := 4) hx hb zd_M_looks_48 (by decide) ?_
        refine ih (k + 1) (by omega) H locs ls ?_ ?_ hS
        · first | rw [zbest_1 c16] | rw [zbest_2 hd (by omega) c16 h21] | rw [zbest_3 hb1 c35] | rw [zbest_4 c16 hb1 c35]
          exact lv_sub hl [1, 2, 3, 0] rfl
        · skip
          exact hP
      · have c16 := zb_1 h16
        refine lv_iload_n hx hb zd_M_looks_19 rfl (lv_at hl 2 rfl) ?_
        refine lv_iconst (v := -1) hx hb zd_M_looks_20 (by decide) ?_
        refine lv_icmp_eq (tgt := 38) hx hb zd_M_looks_21 (by decide) (fun h21 => ?_) (fun h21 => ?_)
        · refine lv_bipush (v := 9) hx hb zd_M_looks_38 (by decide) ?_
          refine lv_iload_n hx hb zd_M_looks_40 rfl (lv_at hl 1 rfl) ?_
          refine lv_imul hx hb zd_M_looks_41 ?_
          refine z_top (zn_m9 _) ?_
          refine lv_iload_n hx hb zd_M_looks_42 rfl (lv_at hl 3 rfl) ?_
          refine lv_iadd hx hb zd_M_looks_43 ?_
          refine z_top (nI_add _ _) ?_
          refine lv_istore_n hx hb zd_M_looks_44 rfl hl (by decide) rfl (fun ls hl => ?_)
          have hl : lv_has ls 4 [(2, .int (nI (9 * d + k))), (0, .ref rb), (1, .int (nI d)), (3, .int (nI k))] := hl
          refine lv_iinc (v := nI (k + 1)) (k := 3) hx hb zd_M_looks_45 hl rfl (nI_1 _) (by decide) rfl (fun ls hl => ?_)
          have hl : lv_has ls 4 [(3, .int (nI (k + 1))), (2, .int (nI (9 * d + k))), (0, .ref rb), (1, .int (nI d))] := hl
          refine lv_goto (tgt := 4) hx hb zd_M_looks_48 (by decide) ?_
          refine ih (k + 1) (by omega) H locs ls ?_ ?_ hS
          · first | rw [zbest_1 c16] | rw [zbest_2 hd (by omega) c16 h21] | rw [zbest_3 hb1 c35] | rw [zbest_4 c16 hb1 c35]
            exact lv_sub hl [2, 3, 1, 0] rfl
          · skip
            exact hP
        · obtain ⟨b, hb1⟩ := zoi_some h21
          have hb2 := zbest_lt k b hb1
          refine lv_aload_n hx hb zd_M_looks_24 rfl (lv_at hl 0 rfl) ?_
          refine lv_bipush (v := 9) hx hb zd_M_looks_25 (by decide) ?_
          refine lv_iload_n hx hb zd_M_looks_27 rfl (lv_at hl 1 rfl) ?_
          refine lv_imul hx hb zd_M_looks_28 ?_
          refine z_top (zn_m9 _) ?_
          refine lv_iload_n hx hb zd_M_looks_29 rfl (lv_at hl 3 rfl) ?_
          refine lv_iadd hx hb zd_M_looks_30 ?_
          refine z_top (nI_add _ _) ?_
          refine lv_iload_n hx hb zd_M_looks_31 rfl (lv_at hl 2 rfl) ?_
          refine z_top (congrArg (zoi d) hb1) ?_
          refine zR_calls (nA := 2) (As := [.int (nI (9 * d + k)), .int (nI (9 * d + b))]) (rest := []) (zm_better l D ka rb M (9 * d + k) (9 * d + b) (by omega) (by omega)) (zg_M_better zk_M_165) rfl (by decide) ⟨rfl, rfl⟩ ⟨Nat.le_of_ble_eq_true rfl, Nat.le_of_ble_eq_true rfl⟩ hx hb hml hts hown hK hP hl.1 rfl rfl (Nat.le_of_ble_eq_true rfl) ⟨Nat.zero_le _, Nat.zero_le _⟩ zd_M_looks_32 ?_
          refine lv_if_eq (tgt := 45) hx hb zd_M_looks_35 (by decide) (fun h35 => ?_) (fun h35 => ?_)
          · have c35 := zb_0 h35
            refine lv_iinc (v := nI (k + 1)) (k := 3) hx hb zd_M_looks_45 hl rfl (nI_1 _) (by decide) rfl (fun ls hl => ?_)
            have hl : lv_has ls 4 [(3, .int (nI (k + 1))), (0, .ref rb), (1, .int (nI d)), (2, .int (zoi d (zbest M d k)))] := hl
            refine lv_goto (tgt := 4) hx hb zd_M_looks_48 (by decide) ?_
            refine ih (k + 1) (by omega) H locs ls ?_ ?_ hS
            · first | rw [zbest_1 c16] | rw [zbest_2 hd (by omega) c16 h21] | rw [zbest_3 hb1 c35] | rw [zbest_4 c16 hb1 c35]
              exact lv_sub hl [1, 2, 3, 0] rfl
            · skip
              exact hP
          · have c35 := zb_1 h35
            refine lv_bipush (v := 9) hx hb zd_M_looks_38 (by decide) ?_
            refine lv_iload_n hx hb zd_M_looks_40 rfl (lv_at hl 1 rfl) ?_
            refine lv_imul hx hb zd_M_looks_41 ?_
            refine z_top (zn_m9 _) ?_
            refine lv_iload_n hx hb zd_M_looks_42 rfl (lv_at hl 3 rfl) ?_
            refine lv_iadd hx hb zd_M_looks_43 ?_
            refine z_top (nI_add _ _) ?_
            refine lv_istore_n hx hb zd_M_looks_44 rfl hl (by decide) rfl (fun ls hl => ?_)
            have hl : lv_has ls 4 [(2, .int (nI (9 * d + k))), (0, .ref rb), (1, .int (nI d)), (3, .int (nI k))] := hl
            refine lv_iinc (v := nI (k + 1)) (k := 3) hx hb zd_M_looks_45 hl rfl (nI_1 _) (by decide) rfl (fun ls hl => ?_)
            have hl : lv_has ls 4 [(3, .int (nI (k + 1))), (2, .int (nI (9 * d + k))), (0, .ref rb), (1, .int (nI d))] := hl
            refine lv_goto (tgt := 4) hx hb zd_M_looks_48 (by decide) ?_
            refine ih (k + 1) (by omega) H locs ls ?_ ?_ hS
            · first | rw [zbest_1 c16] | rw [zbest_2 hd (by omega) c16 h21] | rw [zbest_3 hb1 c35] | rw [zbest_4 c16 hb1 c35]
              exact lv_sub hl [2, 3, 1, 0] rfl
            · skip
              exact hP
  exact L4 9 0 (by omega) _ _ _ (lv_sub hl [2, 3, 1, 0] rfl) hP hS
set_option maxRecDepth 100000 in
set_option maxHeartbeats 4000000 in
theorem zm_tellComes (l : Launch) (D : va_G) (ka : Nat → ClassId) (rb : Nat) (M : zM) (hL : zLt M) (d r p : Nat) (hd : d < 3) (hr0 : r < 9) (hp : p < 4) (ha : M 16 d = nI p) (h34 : M 34 300 = nI d) (h32 : M 32 300 = nI r) : Met l zy_M_tellComes (.code zy_M_tellComes zc_M_tellComes 3 none :: zAll) ({ frames := 3, cells := 0, slots := 0, locals := 72 }) (va_Pc [.ref rb] (zRW D ka rb M)) (zRQv D ka rb (ztellComes M d r)) 0 0 (zRA rb) := by
  refine z_met (by decide) (Nat.le_of_ble_eq_true rfl) ?_
  intro pg e s m below meth c hx hb hml hr hts hown hlk hnm hB ls hl
  obtain ⟨hP, hK⟩ := hB
  have hS : va_S (zRA rb) s.heap s.heap [] := va_S.rf
  have hl : lv_has ls 3 [(0, .ref rb)] := hl
  refine lv_aload_n hx hb zd_M_tellComes_0 rfl (lv_at hl 0 rfl) ?_
  refine zR_get 35 (by decide) hx hb hts hown hK hP (zl_M_110 hts) rfl rfl zd_M_tellComes_1 ?_
  refine lv_sipush (v := 300) hx hb zd_M_tellComes_4 (by decide) ?_
  refine zR_ld 34 (by decide) (j := 300) hx hb hK hP (by decide) (show 300 < 301 from by omega) zd_M_tellComes_7 ?_
  refine z_top h34 ?_
  refine lv_istore_n hx hb zd_M_tellComes_8 rfl hl (by decide) rfl (fun ls hl => ?_)
  have hl : lv_has ls 3 [(1, .int (nI d)), (0, .ref rb)] := hl
  refine lv_bipush (v := 9) hx hb zd_M_tellComes_9 (by decide) ?_
  refine lv_iload_n hx hb zd_M_tellComes_11 rfl (lv_at hl 0 rfl) ?_
  refine lv_imul hx hb zd_M_tellComes_12 ?_
  refine z_top (zn_m9 _) ?_
  refine lv_aload_n hx hb zd_M_tellComes_13 rfl (lv_at hl 1 rfl) ?_
  refine zR_get 33 (by decide) hx hb hts hown hK hP (zl_M_104 hts) rfl rfl zd_M_tellComes_14 ?_
  refine lv_sipush (v := 300) hx hb zd_M_tellComes_17 (by decide) ?_
  refine zR_ld 32 (by decide) (j := 300) hx hb hK hP (by decide) (show 300 < 301 from by omega) zd_M_tellComes_20 ?_
  refine z_top h32 ?_
  refine lv_iadd hx hb zd_M_tellComes_21 ?_
  refine z_top (nI_add _ _) ?_
  refine lv_istore_n hx hb zd_M_tellComes_22 rfl hl (by decide) rfl (fun ls hl => ?_)
  have hl : lv_has ls 3 [(2, .int (nI (9 * d + r))), (1, .int (nI d)), (0, .ref rb)] := hl
  refine lv_aload_n hx hb zd_M_tellComes_23 rfl (lv_at hl 2 rfl) ?_
  refine zR_get 18 (by decide) hx hb hts hown hK hP (zl_M_62 hts) rfl rfl zd_M_tellComes_24 ?_
  refine lv_iload_n hx hb zd_M_tellComes_27 rfl (lv_at hl 1 rfl) ?_
  refine zR_ld 18 (by decide) (j := d) hx hb hK hP rfl (show d < 3 from by omega) zd_M_tellComes_28 ?_
  refine lv_iconst (v := 1) hx hb zd_M_tellComes_29 (by decide) ?_
  refine lv_icmp_ne (tgt := 59) hx hb zd_M_tellComes_30 (by decide) (fun h30 => ?_) (fun h30 => ?_)
  · exact zR_vret hx hb hr hlk hK hP hS (by simp [ztellComes, h30]) zd_M_tellComes_59
  · refine lv_aload_n hx hb zd_M_tellComes_33 rfl (lv_at hl 2 rfl) ?_
    refine zR_get 36 (by decide) hx hb hts hown hK hP (zl_M_113 hts) rfl rfl zd_M_tellComes_34 ?_
    refine lv_sipush (v := 300) hx hb zd_M_tellComes_37 (by decide) ?_
    refine zR_ld 35 (by decide) (j := 300) hx hb hK hP (by decide) (show 300 < 301 from by omega) zd_M_tellComes_40 ?_
    refine lv_aload_n hx hb zd_M_tellComes_41 rfl (lv_at hl 2 rfl) ?_
    refine zR_get 15 (by decide) hx hb hts hown hK hP (zl_M_53 hts) rfl rfl zd_M_tellComes_42 ?_
    refine lv_iload_n hx hb zd_M_tellComes_45 rfl (lv_at hl 1 rfl) ?_
    refine zR_ld 15 (by decide) (j := d) hx hb hK hP rfl (show d < 3 from by omega) zd_M_tellComes_46 ?_
    refine lv_icmp_ne (tgt := 59) hx hb zd_M_tellComes_47 (by decide) (fun h47 => ?_) (fun h47 => ?_)
    · exact zR_vret hx hb hr hlk hK hP hS (by simp [ztellComes, h30, h47]) zd_M_tellComes_59
    · refine lv_aload_n hx hb zd_M_tellComes_50 rfl (lv_at hl 2 rfl) ?_
      refine zR_get 19 (by decide) hx hb hts hown hK hP (zl_M_65 hts) rfl rfl zd_M_tellComes_51 ?_
      refine lv_iload_n hx hb zd_M_tellComes_54 rfl (lv_at hl 0 rfl) ?_
      refine zR_zld 19 (by decide) (j := (9 * d + r)) hx hb hK hP rfl (show (9 * d + r) < 27 from by omega) zd_M_tellComes_55 ?_
      refine lv_if_eq (tgt := 60) hx hb zd_M_tellComes_56 (by decide) (fun h56 => ?_) (fun h56 => ?_)
      · refine lv_aload_n hx hb zd_M_tellComes_60 rfl (lv_at hl 2 rfl) ?_
        refine zR_get 19 (by decide) hx hb hts hown hK hP (zl_M_65 hts) rfl rfl zd_M_tellComes_61 ?_
        refine lv_iload_n hx hb zd_M_tellComes_64 rfl (lv_at hl 0 rfl) ?_
        refine lv_iconst (v := 1) hx hb zd_M_tellComes_65 (by decide) ?_
        refine zR_zsto 19 (by decide) (j := (9 * d + r)) hx hb hK hP hS rfl (show (9 * d + r) < 27 from by omega) (by decide) zd_M_tellComes_66 (fun H locs hP hS => ?_)
        have hP : zRP D ka rb (zst M 19 (9 * d + r) 1) H := hP
        refine lv_aload_n hx hb zd_M_tellComes_67 rfl (lv_at hl 2 rfl) ?_
        refine zR_get 20 (by decide) hx hb hts hown hK hP (zl_M_68 hts) rfl rfl zd_M_tellComes_68 ?_
        refine lv_iload_n hx hb zd_M_tellComes_71 rfl (lv_at hl 0 rfl) ?_
        refine lv_aload_n hx hb zd_M_tellComes_72 rfl (lv_at hl 2 rfl) ?_
        refine zR_get 37 (by decide) hx hb hts hown hK hP (zl_M_116 hts) rfl rfl zd_M_tellComes_73 ?_
        refine lv_sipush (v := 300) hx hb zd_M_tellComes_76 (by decide) ?_
        refine zR_ld 36 (by decide) (j := 300) hx hb hK hP (by decide) (show 300 < 301 from by omega) zd_M_tellComes_79 ?_
        refine zR_sto 20 (by decide) (j := (9 * d + r)) hx hb hK hP hS rfl (show (9 * d + r) < 27 from by omega) zd_M_tellComes_80 (fun H locs hP hS => ?_)
        have hP : zRP D ka rb (zst (zst M 19 (9 * d + r) 1) 20 (9 * d + r) (M 36 300)) H := hP
        refine lv_aload_n hx hb zd_M_tellComes_81 rfl (lv_at hl 2 rfl) ?_
        refine zR_get 21 (by decide) hx hb hts hown hK hP (zl_M_71 hts) rfl rfl zd_M_tellComes_82 ?_
        refine lv_iload_n hx hb zd_M_tellComes_85 rfl (lv_at hl 0 rfl) ?_
        refine lv_aload_n hx hb zd_M_tellComes_86 rfl (lv_at hl 2 rfl) ?_
        refine zR_get 38 (by decide) hx hb hts hown hK hP (zl_M_119 hts) rfl rfl zd_M_tellComes_87 ?_
        refine lv_sipush (v := 300) hx hb zd_M_tellComes_90 (by decide) ?_
        refine zR_ld 37 (by decide) (j := 300) hx hb hK hP (by decide) (show 300 < 301 from by omega) zd_M_tellComes_93 ?_
        refine zR_sto 21 (by decide) (j := (9 * d + r)) hx hb hK hP hS rfl (show (9 * d + r) < 27 from by omega) zd_M_tellComes_94 (fun H locs hP hS => ?_)
        have hP : zRP D ka rb (zst (zst (zst M 19 (9 * d + r) 1) 20 (9 * d + r) (M 36 300)) 21 (9 * d + r) (M 37 300)) H := hP
        refine lv_aload_n hx hb zd_M_tellComes_95 rfl (lv_at hl 2 rfl) ?_
        refine zR_get 22 (by decide) hx hb hts hown hK hP (zl_M_74 hts) rfl rfl zd_M_tellComes_96 ?_
        refine lv_iload_n hx hb zd_M_tellComes_99 rfl (lv_at hl 0 rfl) ?_
        refine lv_aload_n hx hb zd_M_tellComes_100 rfl (lv_at hl 2 rfl) ?_
        refine zR_get 39 (by decide) hx hb hts hown hK hP (zl_M_122 hts) rfl rfl zd_M_tellComes_101 ?_
        refine lv_sipush (v := 300) hx hb zd_M_tellComes_104 (by decide) ?_
        refine zR_ld 38 (by decide) (j := 300) hx hb hK hP (by decide) (show 300 < 301 from by omega) zd_M_tellComes_107 ?_
        refine zR_sto 22 (by decide) (j := (9 * d + r)) hx hb hK hP hS rfl (show (9 * d + r) < 27 from by omega) zd_M_tellComes_108 (fun H locs hP hS => ?_)
        have hP : zRP D ka rb (zst (zst (zst (zst M 19 (9 * d + r) 1) 20 (9 * d + r) (M 36 300)) 21 (9 * d + r) (M 37 300)) 22 (9 * d + r) (M 38 300)) H := hP
        refine lv_aload_n hx hb zd_M_tellComes_109 rfl (lv_at hl 2 rfl) ?_
        refine lv_iload_n hx hb zd_M_tellComes_110 rfl (lv_at hl 1 rfl) ?_
        refine zR_calls (nA := 1) (As := [.int (nI d)]) (rest := []) (zm_answers l D ka rb (zst (zst (zst (zst M 19 (9 * d + r) 1) 20 (9 * d + r) (M 36 300)) 21 (9 * d + r) (M 37 300)) 22 (9 * d + r) (M 38 300)) d (by omega)) (zg_M_answers zk_M_171) rfl (by decide) ⟨rfl, rfl⟩ ⟨Nat.le_of_ble_eq_true rfl, Nat.le_of_ble_eq_true rfl⟩ hx hb hml hts hown hK hP hl.1 rfl rfl (Nat.le_of_ble_eq_true rfl) ⟨Nat.zero_le _, Nat.zero_le _⟩ zd_M_tellComes_111 ?_
        refine lv_bipush (v := 7) hx hb zd_M_tellComes_114 (by decide) ?_
        refine lv_icmp_ne (tgt := 124) hx hb zd_M_tellComes_116 (by decide) (fun h116 => ?_) (fun h116 => ?_)
        · have h116 : ¬ zans (zst (zst (zst (zst M 19 (9 * d + r) 1) 20 (9 * d + r) (M 36 300)) 21 (9 * d + r) (M 37 300)) 22 (9 * d + r) (M 38 300)) d = 7 := fun q => h116 (by show nI (zans (zst (zst (zst (zst M 19 (9 * d + r) 1) 20 (9 * d + r) (M 36 300)) 21 (9 * d + r) (M 37 300)) 22 (9 * d + r) (M 38 300)) d) = 7; rw [q]; rfl)
          exact zR_vret hx hb hr hlk hK hP hS (by simp [ztellComes, h30, h47, h56, h116]) zd_M_tellComes_124
        · have h116 : zans (zst (zst (zst (zst M 19 (9 * d + r) 1) 20 (9 * d + r) (M 36 300)) 21 (9 * d + r) (M 37 300)) 22 (9 * d + r) (M 38 300)) d = 7 := (nI_eq (b := 7) (by have := zans_le (zst (zst (zst (zst M 19 (9 * d + r) 1) 20 (9 * d + r) (M 36 300)) 21 (9 * d + r) (M 37 300)) 22 (9 * d + r) (M 38 300)) d; omega) (by decide)).mp h116
          refine lv_aload_n hx hb zd_M_tellComes_119 rfl (lv_at hl 2 rfl) ?_
          refine lv_iload_n hx hb zd_M_tellComes_120 rfl (lv_at hl 1 rfl) ?_
          refine zR_callv (nA := 1) (As := [.int (nI d)]) (rest := []) (zm_looks l D ka rb (zst (zst (zst (zst M 19 (9 * d + r) 1) 20 (9 * d + r) (M 36 300)) 21 (9 * d + r) (M 37 300)) 22 (9 * d + r) (M 38 300)) (zLt_st (zLt_st (zLt_st (zLt_st hL (by decide)) (by decide)) (by decide)) (by decide)) d p (by omega) (by omega) ha) (zg_M_looks zk_M_174) rfl (by decide) ⟨rfl, rfl⟩ ⟨Nat.le_of_ble_eq_true rfl, Nat.le_of_ble_eq_true rfl⟩ hx hb hml hts hown hK hP hS (fun _ h => h) hl.1 rfl rfl (Nat.le_of_ble_eq_true rfl) ⟨Nat.zero_le _, Nat.zero_le _⟩ zd_M_tellComes_121 (fun H locs hP hS => ?_)
          exact zR_vret hx hb hr hlk hK hP hS (by simp [ztellComes, h30, h47, h56, h116]) zd_M_tellComes_124
      · exact zR_vret hx hb hr hlk hK hP hS (by simp [ztellComes, h30, h47, h56]) zd_M_tellComes_59
set_option maxRecDepth 100000 in
set_option maxHeartbeats 4000000 in
theorem zm_storeComes (l : Launch) (D : va_G) (ka : Nat → ClassId) (rb : Nat) (M : zM) (hL : zLt M) (k : Nat) (hk : k < 36) : Met l zy_M_storeComes (.code zy_M_storeComes zc_M_storeComes 2 none :: zAll) ({ frames := 1, cells := 0, slots := 0, locals := 27 }) (va_Pc [.ref rb, .int (nI k)] (zRW D ka rb M)) (zRQv D ka rb (zstoreComes M k)) 0 0 (zRA rb) := by
  refine z_met (by decide) (Nat.le_of_ble_eq_true rfl) ?_
  intro pg e s m below meth c hx hb hml hr hts hown hlk hnm hB ls hl
  obtain ⟨hP, hK⟩ := hB
  have hS : va_S (zRA rb) s.heap s.heap [] := va_S.rf
  have hl : lv_has ls 2 [(0, .ref rb), (1, .int (nI k))] := hl
  refine lv_aload_n hx hb zd_M_storeComes_0 rfl (lv_at hl 0 rfl) ?_
  refine zR_get 36 (by decide) hx hb hts hown hK hP (zl_M_113 hts) rfl rfl zd_M_storeComes_1 ?_
  refine lv_sipush (v := 300) hx hb zd_M_storeComes_4 (by decide) ?_
  refine zR_ld 35 (by decide) (j := 300) hx hb hK hP (by decide) (show 300 < 301 from by omega) zd_M_storeComes_7 ?_
  refine lv_aload_n hx hb zd_M_storeComes_8 rfl (lv_at hl 0 rfl) ?_
  refine zR_get 6 (by decide) hx hb hts hown hK hP (zl_M_26 hts) rfl rfl zd_M_storeComes_9 ?_
  refine lv_iload_n hx hb zd_M_storeComes_12 rfl (lv_at hl 1 rfl) ?_
  refine zR_ld 6 (by decide) (j := k) hx hb hK hP rfl (show k < 36 from by omega) zd_M_storeComes_13 ?_
  refine lv_icmp_le (tgt := 59) hx hb zd_M_storeComes_14 (by decide) (fun h14 => ?_) (fun h14 => ?_)
  · have h14 := Int32.not_lt.mpr h14
    refine lv_aload_n hx hb zd_M_storeComes_59 rfl (lv_at hl 0 rfl) ?_
    refine lv_iconst (v := 2) hx hb zd_M_storeComes_60 (by decide) ?_
    refine lv_aload_n hx hb zd_M_storeComes_61 rfl (lv_at hl 0 rfl) ?_
    refine zR_get 33 (by decide) hx hb hts hown hK hP (zl_M_104 hts) rfl rfl zd_M_storeComes_62 ?_
    refine lv_sipush (v := 300) hx hb zd_M_storeComes_65 (by decide) ?_
    refine zR_ld 32 (by decide) (j := 300) hx hb hK hP (by decide) (show 300 < 301 from by omega) zd_M_storeComes_68 ?_
    refine lv_aload_n hx hb zd_M_storeComes_69 rfl (lv_at hl 0 rfl) ?_
    refine zR_get 34 (by decide) hx hb hts hown hK hP (zl_M_107 hts) rfl rfl zd_M_storeComes_70 ?_
    refine lv_sipush (v := 300) hx hb zd_M_storeComes_73 (by decide) ?_
    refine zR_ld 33 (by decide) (j := 300) hx hb hK hP (by decide) (show 300 < 301 from by omega) zd_M_storeComes_76 ?_
    refine lv_iconst (v := -1) hx hb zd_M_storeComes_77 (by decide) ?_
    refine lv_aload_n hx hb zd_M_storeComes_78 rfl (lv_at hl 0 rfl) ?_
    refine zR_get 36 (by decide) hx hb hts hown hK hP (zl_M_113 hts) rfl rfl zd_M_storeComes_79 ?_
    refine lv_sipush (v := 300) hx hb zd_M_storeComes_82 (by decide) ?_
    refine zR_ld 35 (by decide) (j := 300) hx hb hK hP (by decide) (show 300 < 301 from by omega) zd_M_storeComes_85 ?_
    refine lv_iconst (v := 0) hx hb zd_M_storeComes_86 (by decide) ?_
    refine lv_iconst (v := 0) hx hb zd_M_storeComes_87 (by decide) ?_
    refine zR_callv (nA := 7) (As := [.int 2, .int (M 32 300), .int (M 33 300), .int (-1), .int (M 35 300), .int 0, .int 0]) (rest := []) (zm_send l D ka rb M hL 2 (M 32 300) (M 33 300) (-1) (M 35 300) 0 0) (zg_M_send zk_M_136) rfl (by decide) ⟨rfl, rfl⟩ ⟨Nat.le_of_ble_eq_true rfl, Nat.le_of_ble_eq_true rfl⟩ hx hb hml hts hown hK hP hS (fun _ h => h) hl.1 rfl rfl (Nat.le_of_ble_eq_true rfl) ⟨Nat.zero_le _, Nat.zero_le _⟩ zd_M_storeComes_88 (fun H locs hP hS => ?_)
    exact zR_vret hx hb hr hlk hK hP hS (by simp [zstoreComes, h14]) zd_M_storeComes_91
  · have h14 := Int32.not_le.mp h14
    refine lv_aload_n hx hb zd_M_storeComes_17 rfl (lv_at hl 0 rfl) ?_
    refine zR_get 6 (by decide) hx hb hts hown hK hP (zl_M_26 hts) rfl rfl zd_M_storeComes_18 ?_
    refine lv_iload_n hx hb zd_M_storeComes_21 rfl (lv_at hl 1 rfl) ?_
    refine lv_aload_n hx hb zd_M_storeComes_22 rfl (lv_at hl 0 rfl) ?_
    refine zR_get 36 (by decide) hx hb hts hown hK hP (zl_M_113 hts) rfl rfl zd_M_storeComes_23 ?_
    refine lv_sipush (v := 300) hx hb zd_M_storeComes_26 (by decide) ?_
    refine zR_ld 35 (by decide) (j := 300) hx hb hK hP (by decide) (show 300 < 301 from by omega) zd_M_storeComes_29 ?_
    refine zR_sto 6 (by decide) (j := k) hx hb hK hP hS rfl (show k < 36 from by omega) zd_M_storeComes_30 (fun H locs hP hS => ?_)
    have hP : zRP D ka rb (zst M 6 k (M 35 300)) H := hP
    refine lv_aload_n hx hb zd_M_storeComes_31 rfl (lv_at hl 0 rfl) ?_
    refine zR_get 7 (by decide) hx hb hts hown hK hP (zl_M_29 hts) rfl rfl zd_M_storeComes_32 ?_
    refine lv_iload_n hx hb zd_M_storeComes_35 rfl (lv_at hl 1 rfl) ?_
    refine lv_aload_n hx hb zd_M_storeComes_36 rfl (lv_at hl 0 rfl) ?_
    refine zR_get 38 (by decide) hx hb hts hown hK hP (zl_M_119 hts) rfl rfl zd_M_storeComes_37 ?_
    refine lv_sipush (v := 300) hx hb zd_M_storeComes_40 (by decide) ?_
    refine zR_ld 37 (by decide) (j := 300) hx hb hK hP (by decide) (show 300 < 301 from by omega) zd_M_storeComes_43 ?_
    refine zR_sto 7 (by decide) (j := k) hx hb hK hP hS rfl (show k < 36 from by omega) zd_M_storeComes_44 (fun H locs hP hS => ?_)
    have hP : zRP D ka rb (zst (zst M 6 k (M 35 300)) 7 k (M 37 300)) H := hP
    refine lv_aload_n hx hb zd_M_storeComes_45 rfl (lv_at hl 0 rfl) ?_
    refine zR_get 8 (by decide) hx hb hts hown hK hP (zl_M_32 hts) rfl rfl zd_M_storeComes_46 ?_
    refine lv_iload_n hx hb zd_M_storeComes_49 rfl (lv_at hl 1 rfl) ?_
    refine lv_aload_n hx hb zd_M_storeComes_50 rfl (lv_at hl 0 rfl) ?_
    refine zR_get 39 (by decide) hx hb hts hown hK hP (zl_M_122 hts) rfl rfl zd_M_storeComes_51 ?_
    refine lv_sipush (v := 300) hx hb zd_M_storeComes_54 (by decide) ?_
    refine zR_ld 38 (by decide) (j := 300) hx hb hK hP (by decide) (show 300 < 301 from by omega) zd_M_storeComes_57 ?_
    refine zR_sto 8 (by decide) (j := k) hx hb hK hP hS rfl (show k < 36 from by omega) zd_M_storeComes_58 (fun H locs hP hS => ?_)
    have hP : zRP D ka rb (zst (zst (zst M 6 k (M 35 300)) 7 k (M 37 300)) 8 k (M 38 300)) H := hP
    refine lv_aload_n hx hb zd_M_storeComes_59 rfl (lv_at hl 0 rfl) ?_
    refine lv_iconst (v := 2) hx hb zd_M_storeComes_60 (by decide) ?_
    refine lv_aload_n hx hb zd_M_storeComes_61 rfl (lv_at hl 0 rfl) ?_
    refine zR_get 33 (by decide) hx hb hts hown hK hP (zl_M_104 hts) rfl rfl zd_M_storeComes_62 ?_
    refine lv_sipush (v := 300) hx hb zd_M_storeComes_65 (by decide) ?_
    refine zR_ld 32 (by decide) (j := 300) hx hb hK hP (by decide) (show 300 < 301 from by omega) zd_M_storeComes_68 ?_
    refine lv_aload_n hx hb zd_M_storeComes_69 rfl (lv_at hl 0 rfl) ?_
    refine zR_get 34 (by decide) hx hb hts hown hK hP (zl_M_107 hts) rfl rfl zd_M_storeComes_70 ?_
    refine lv_sipush (v := 300) hx hb zd_M_storeComes_73 (by decide) ?_
    refine zR_ld 33 (by decide) (j := 300) hx hb hK hP (by decide) (show 300 < 301 from by omega) zd_M_storeComes_76 ?_
    refine lv_iconst (v := -1) hx hb zd_M_storeComes_77 (by decide) ?_
    refine lv_aload_n hx hb zd_M_storeComes_78 rfl (lv_at hl 0 rfl) ?_
    refine zR_get 36 (by decide) hx hb hts hown hK hP (zl_M_113 hts) rfl rfl zd_M_storeComes_79 ?_
    refine lv_sipush (v := 300) hx hb zd_M_storeComes_82 (by decide) ?_
    refine zR_ld 35 (by decide) (j := 300) hx hb hK hP (by decide) (show 300 < 301 from by omega) zd_M_storeComes_85 ?_
    refine lv_iconst (v := 0) hx hb zd_M_storeComes_86 (by decide) ?_
    refine lv_iconst (v := 0) hx hb zd_M_storeComes_87 (by decide) ?_
    refine zR_callv (nA := 7) (As := [.int 2, .int (M 32 300), .int (M 33 300), .int (-1), .int (M 35 300), .int 0, .int 0]) (rest := []) (zm_send l D ka rb (zst (zst (zst M 6 k (M 35 300)) 7 k (M 37 300)) 8 k (M 38 300)) (zLt_st (zLt_st (zLt_st hL (by decide)) (by decide)) (by decide)) 2 (M 32 300) (M 33 300) (-1) (M 35 300) 0 0) (zg_M_send zk_M_136) rfl (by decide) ⟨rfl, rfl⟩ ⟨Nat.le_of_ble_eq_true rfl, Nat.le_of_ble_eq_true rfl⟩ hx hb hml hts hown hK hP hS (fun _ h => h) hl.1 rfl rfl (Nat.le_of_ble_eq_true rfl) ⟨Nat.zero_le _, Nat.zero_le _⟩ zd_M_storeComes_88 (fun H locs hP hS => ?_)
    exact zR_vret hx hb hr hlk hK hP hS (by simp [zstoreComes, h14]) zd_M_storeComes_91
set_option maxRecDepth 100000 in
set_option maxHeartbeats 4000000 in
theorem zm_lies (l : Launch) (D : va_G) (ka : Nat → ClassId) (rb : Nat) (M : zM) (r0 : Int32) : Met l zy_M_lies (.code zy_M_lies zc_M_lies 2 (some .boolean) :: zAll) ({ frames := 1, cells := 0, slots := 0, locals := 21 }) (va_Pc [.ref rb, .int r0] (zRW D ka rb M)) (vp_Si (fun rr => rr = (zb (zlies M r0)))) 0 0 (fun _ => False) := by
  refine z_met (by decide) (Nat.le_of_ble_eq_true rfl) ?_
  intro pg e s m below meth c hx hb hml hr hts hown hlk hnm hB ls hl
  obtain ⟨hP, hK⟩ := hB
  have hl : lv_has ls 2 [(0, .ref rb), (1, .int r0)] := hl
  refine lv_iload_n hx hb zd_M_lies_0 rfl (lv_at hl 1 rfl) ?_
  refine lv_bipush (v := 9) hx hb zd_M_lies_1 (by decide) ?_
  refine z_callst (nA := 2) (As := [.int r0, .int 9]) (rest := []) (zm_below l r0 9) (zg_M_below zk_M_129) rfl (by decide) ⟨rfl, rfl⟩ ⟨Nat.le_of_ble_eq_true rfl, Nat.le_of_ble_eq_true rfl⟩ hx hb hml hts hown hl.1 rfl rfl (Nat.le_of_ble_eq_true rfl) ⟨Nat.zero_le _, Nat.zero_le _⟩ zd_M_lies_3 ?_
  refine lv_if_eq (tgt := 31) hx hb zd_M_lies_6 (by decide) (fun h6 => ?_) (fun h6 => ?_)
  · have c6 := zb_0 h6
    refine lv_iconst (v := 0) hx hb zd_M_lies_31 (by decide) ?_
    exact zS_zret hx hb hr hlk rfl rfl rfl (by simp [zb, c6]) zd_M_lies_32
  · have c6 := zb_1 h6
    obtain ⟨r, h_r, rfl⟩ := zbl_of (n := 9) (by decide) c6
    have z_r : zix (nI r) = r := zix_n (by omega)
    refine lv_aload_n hx hb zd_M_lies_9 rfl (lv_at hl 0 rfl) ?_
    refine zR_get 5 (by decide) hx hb hts hown hK hP (zl_M_23 hts) rfl rfl zd_M_lies_10 ?_
    refine lv_iload_n hx hb zd_M_lies_13 rfl (lv_at hl 1 rfl) ?_
    refine zR_zld 5 (by decide) (j := r) hx hb hK hP rfl (show r < 9 from by omega) zd_M_lies_14 ?_
    refine lv_if_eq (tgt := 31) hx hb zd_M_lies_15 (by decide) (fun h15 => ?_) (fun h15 => ?_)
    · refine lv_iconst (v := 0) hx hb zd_M_lies_31 (by decide) ?_
      exact zS_zret hx hb hr hlk rfl rfl rfl (by simp [zb, c6, z_r, h15]) zd_M_lies_32
    · refine lv_aload_n hx hb zd_M_lies_18 rfl (lv_at hl 0 rfl) ?_
      refine zR_get 4 (by decide) hx hb hts hown hK hP (zl_M_20 hts) rfl rfl zd_M_lies_19 ?_
      refine lv_iload_n hx hb zd_M_lies_22 rfl (lv_at hl 1 rfl) ?_
      refine zR_zld 4 (by decide) (j := r) hx hb hK hP rfl (show r < 9 from by omega) zd_M_lies_23 ?_
      refine lv_if_ne (tgt := 31) hx hb zd_M_lies_24 (by decide) (fun h24 => ?_) (fun h24 => ?_)
      · refine lv_iconst (v := 0) hx hb zd_M_lies_31 (by decide) ?_
        exact zS_zret hx hb hr hlk rfl rfl rfl (by simp [zb, c6, z_r, h15, h24]) zd_M_lies_32
      · refine lv_iconst (v := 1) hx hb zd_M_lies_27 (by decide) ?_
        refine lv_goto (tgt := 32) hx hb zd_M_lies_28 (by decide) ?_
        exact zS_zret hx hb hr hlk rfl rfl rfl (by simp [zb, c6, z_r, h15, h24]) zd_M_lies_32
set_option maxRecDepth 100000 in
set_option maxHeartbeats 4000000 in
theorem zm_lie (l : Launch) (D : va_G) (ka : Nat → ClassId) (rb : Nat) (M : zM) (r0 : Int32) : Met l zy_M_lie (.code zy_M_lie zc_M_lie 4 (some .boolean) :: zAll) ({ frames := 1, cells := 0, slots := 0, locals := 21 }) (va_Pc [.ref rb, .int r0] (zRW D ka rb M)) (zRQi D ka rb (zf_lie M r0) (zg_lie M r0)) 0 0 (zRA rb) := by
  refine z_met (by decide) (Nat.le_of_ble_eq_true rfl) ?_
  intro pg e s m below meth c hx hb hml hr hts hown hlk hnm hB ls hl
  obtain ⟨hP, hK⟩ := hB
  have hS : va_S (zRA rb) s.heap s.heap [] := va_S.rf
  have hl : lv_has ls 4 [(0, .ref rb), (1, .int r0)] := hl
  refine lv_iconst (v := 0) hx hb zd_M_lie_0 (by decide) ?_
  refine lv_istore_n hx hb zd_M_lie_1 rfl hl (by decide) rfl (fun ls hl => ?_)
  have hl : lv_has ls 4 [(2, .int 0), (0, .ref rb), (1, .int r0)] := hl
  refine lv_iconst (v := 0) hx hb zd_M_lie_2 (by decide) ?_
  refine lv_istore_n hx hb zd_M_lie_3 rfl hl (by decide) rfl (fun ls hl => ?_)
  have hl : lv_has ls 4 [(3, .int 0), (2, .int 0), (0, .ref rb), (1, .int r0)] := hl
  have L4 : ∀ (j k : Nat), k + j = 9 → ∀ (H : Heap) (locs : List Loc) (ls : Array Slot), lv_has ls 4 [(0, .ref rb), (1, .int r0), (2, .int (nI (zcn (fun r => decide (¬ M 5 r = 0)) k))), (3, .int (nI k))] → zRP D ka rb M H → va_S (zRA rb) s.heap H locs → W pg l e ({ frames := 1, cells := 0, slots := 0, locals := 21 }) s m (List.toArray [.ref rb, .int r0]) below meth c H locs 0 0 (MQ below (zRQi D ka rb (zf_lie M r0) (zg_lie M r0)) (List.toArray [.ref rb, .int r0]) s 0 0 (zRA rb)) (F0 m 4 ls []) := by
    intro j
    induction j with
    | zero =>
      intro k hk H locs ls hl hP hS
      have hk : k = 9 := by omega
      subst hk
      refine lv_iload_n hx hb zd_M_lie_4 rfl (lv_at hl 3 rfl) ?_
      refine lv_bipush (v := 9) hx hb zd_M_lie_5 (by decide) ?_
      refine lv_icmp_ge (tgt := 28) hx hb zd_M_lie_7 (by decide) (fun h7 => ?_) (fun h7 => absurd (by decide) h7)
      refine lv_iload_n hx hb zd_M_lie_28 rfl (lv_at hl 1 rfl) ?_
      refine lv_bipush (v := 9) hx hb zd_M_lie_29 (by decide) ?_
      refine z_callst (nA := 2) (As := [.int r0, .int 9]) (rest := []) (zm_below l r0 9) (zg_M_below zk_M_129) rfl (by decide) ⟨rfl, rfl⟩ ⟨Nat.le_of_ble_eq_true rfl, Nat.le_of_ble_eq_true rfl⟩ hx hb hml hts hown hl.1 rfl rfl (Nat.le_of_ble_eq_true rfl) ⟨Nat.zero_le _, Nat.zero_le _⟩ zd_M_lie_31 ?_
      refine lv_if_eq (tgt := 51) hx hb zd_M_lie_34 (by decide) (fun h34 => ?_) (fun h34 => ?_)
      · have c34 := zb_0 h34
        refine lv_iconst (v := 0) hx hb zd_M_lie_51 (by decide) ?_
        exact zR_zret hx hb hr hlk hK hP hS rfl (by simp [zf_lie, zg_lie, zo_lie, zb, h7, c34]) (by simp [zf_lie, zg_lie, zo_lie, zb, h7, c34]) zd_M_lie_52
      · have c34 := zb_1 h34
        obtain ⟨r, h_r, rfl⟩ := zbl_of (n := 9) (by decide) c34
        have z_r : zix (nI r) = r := zix_n (by omega)
        refine lv_aload_n hx hb zd_M_lie_37 rfl (lv_at hl 0 rfl) ?_
        refine zR_get 5 (by decide) hx hb hts hown hK hP (zl_M_23 hts) rfl rfl zd_M_lie_38 ?_
        refine lv_iload_n hx hb zd_M_lie_41 rfl (lv_at hl 1 rfl) ?_
        refine zR_zld 5 (by decide) (j := r) hx hb hK hP rfl (show r < 9 from by omega) zd_M_lie_42 ?_
        refine lv_if_ne (tgt := 51) hx hb zd_M_lie_43 (by decide) (fun h43 => ?_) (fun h43 => ?_)
        · refine lv_iconst (v := 0) hx hb zd_M_lie_51 (by decide) ?_
          exact zR_zret hx hb hr hlk hK hP hS rfl (by simp [zf_lie, zg_lie, zo_lie, zb, h7, c34, z_r, h43]) (by simp [zf_lie, zg_lie, zo_lie, zb, h7, c34, z_r, h43]) zd_M_lie_52
        · refine lv_iload_n hx hb zd_M_lie_46 rfl (lv_at hl 2 rfl) ?_
          refine lv_iconst (v := 2) hx hb zd_M_lie_47 (by decide) ?_
          refine lv_icmp_ne (tgt := 53) hx hb zd_M_lie_48 (by decide) (fun h48 => ?_) (fun h48 => ?_)
          · have h48 : ¬ zliars M = 2 := fun q => h48 (by show nI (zliars M) = 2; rw [q]; rfl)
            refine lv_aload_n hx hb zd_M_lie_53 rfl (lv_at hl 0 rfl) ?_
            refine zR_get 5 (by decide) hx hb hts hown hK hP (zl_M_23 hts) rfl rfl zd_M_lie_54 ?_
            refine lv_iload_n hx hb zd_M_lie_57 rfl (lv_at hl 1 rfl) ?_
            refine lv_iconst (v := 1) hx hb zd_M_lie_58 (by decide) ?_
            refine zR_zsto 5 (by decide) (j := r) hx hb hK hP hS rfl (show r < 9 from by omega) (by decide) zd_M_lie_59 (fun H locs hP hS => ?_)
            have hP : zRP D ka rb (zst M 5 r 1) H := hP
            refine lv_iconst (v := 1) hx hb zd_M_lie_60 (by decide) ?_
            exact zR_zret hx hb hr hlk hK hP hS rfl (by simp [zf_lie, zg_lie, zo_lie, zb, h7, c34, z_r, h43, h48]) (by simp [zf_lie, zg_lie, zo_lie, zb, h7, c34, z_r, h43, h48]) zd_M_lie_61
          · have h48 : zliars M = 2 := (nI_eq (b := 2) (by have : zliars M ≤ 9 := zcn_le _ 9; omega) (by decide)).mp h48
            refine lv_iconst (v := 0) hx hb zd_M_lie_51 (by decide) ?_
            exact zR_zret hx hb hr hlk hK hP hS rfl (by simp [zf_lie, zg_lie, zo_lie, zb, h7, c34, z_r, h43, h48]) (by simp [zf_lie, zg_lie, zo_lie, zb, h7, c34, z_r, h43, h48]) zd_M_lie_52
    | succ j ih =>
      intro k hk H locs ls hl hP hS
      refine lv_iload_n hx hb zd_M_lie_4 rfl (lv_at hl 3 rfl) ?_
      refine lv_bipush (v := 9) hx hb zd_M_lie_5 (by decide) ?_
      refine lv_icmp_ge (tgt := 28) hx hb zd_M_lie_7 (by decide) (fun h7 => absurd h7 (nI_ge (b := 9) (by omega) (by decide))) (fun h7 => ?_)
      refine lv_aload_n hx hb zd_M_lie_10 rfl (lv_at hl 0 rfl) ?_
      refine zR_get 5 (by decide) hx hb hts hown hK hP (zl_M_23 hts) rfl rfl zd_M_lie_11 ?_
      refine lv_iload_n hx hb zd_M_lie_14 rfl (lv_at hl 3 rfl) ?_
      refine zR_zld 5 (by decide) (j := k) hx hb hK hP rfl (show k < 9 from by omega) zd_M_lie_15 ?_
      refine lv_if_eq (tgt := 22) hx hb zd_M_lie_16 (by decide) (fun h16 => ?_) (fun h16 => ?_)
      · refine lv_iinc (v := nI (k + 1)) (k := 3) hx hb zd_M_lie_22 hl rfl (nI_1 _) (by decide) rfl (fun ls hl => ?_)
        have hl : lv_has ls 4 [(3, .int (nI (k + 1))), (0, .ref rb), (1, .int r0), (2, .int (nI (zcn (fun r => decide (¬ M 5 r = 0)) k)))] := hl
        refine lv_goto (tgt := 4) hx hb zd_M_lie_25 (by decide) ?_
        refine ih (k + 1) (by omega) H locs ls ?_ ?_ hS
        · first | rw [zcn_s (f := fun r => decide (¬ M 5 r = 0)) (decide_eq_true h16)] | rw [zcn_f (f := fun r => decide (¬ M 5 r = 0)) (decide_eq_false (fun hh => hh h16))]
          exact lv_sub hl [1, 2, 3, 0] rfl
        · skip
          exact hP
      · refine lv_iinc (v := nI ((zcn (fun r => decide (¬ M 5 r = 0)) k) + 1)) (k := 2) hx hb zd_M_lie_19 hl rfl (nI_1 _) (by decide) rfl (fun ls hl => ?_)
        have hl : lv_has ls 4 [(2, .int (nI ((zcn (fun r => decide (¬ M 5 r = 0)) k) + 1))), (0, .ref rb), (1, .int r0), (3, .int (nI k))] := hl
        refine lv_iinc (v := nI (k + 1)) (k := 3) hx hb zd_M_lie_22 hl rfl (nI_1 _) (by decide) rfl (fun ls hl => ?_)
        have hl : lv_has ls 4 [(3, .int (nI (k + 1))), (2, .int (nI ((zcn (fun r => decide (¬ M 5 r = 0)) k) + 1))), (0, .ref rb), (1, .int r0)] := hl
        refine lv_goto (tgt := 4) hx hb zd_M_lie_25 (by decide) ?_
        refine ih (k + 1) (by omega) H locs ls ?_ ?_ hS
        · first | rw [zcn_s (f := fun r => decide (¬ M 5 r = 0)) (decide_eq_true h16)] | rw [zcn_f (f := fun r => decide (¬ M 5 r = 0)) (decide_eq_false (fun hh => hh h16))]
          exact lv_sub hl [2, 3, 1, 0] rfl
        · skip
          exact hP
  exact L4 9 0 (by omega) _ _ _ (lv_sub hl [2, 3, 1, 0] rfl) hP hS
set_option maxRecDepth 100000 in
set_option maxHeartbeats 4000000 in
theorem zm_tell (l : Launch) (D : va_G) (ka : Nat → ClassId) (rb : Nat) (M : zM) (hL : zLt M) (r0 d0 n0 lo hi : Int32) : Met l zy_M_tell (.code zy_M_tell zc_M_tell 6 (some .boolean) :: zAll) ({ frames := 2, cells := 0, slots := 0, locals := 55 }) (va_Pc [.ref rb, .int r0, .int d0, .int n0, .int lo, .int hi] (zRW D ka rb M)) (zRQi D ka rb (zf_tell M r0 d0 n0 lo hi) (zg_tell M r0 d0 n0 lo hi)) 0 0 (zRA rb) := by
  refine z_met (by decide) (Nat.le_of_ble_eq_true rfl) ?_
  intro pg e s m below meth c hx hb hml hr hts hown hlk hnm hB ls hl
  obtain ⟨hP, hK⟩ := hB
  have hS : va_S (zRA rb) s.heap s.heap [] := va_S.rf
  have hl : lv_has ls 6 [(0, .ref rb), (1, .int r0), (2, .int d0), (3, .int n0), (4, .int lo), (5, .int hi)] := hl
  refine lv_aload_n hx hb zd_M_tell_0 rfl (lv_at hl 0 rfl) ?_
  refine lv_iload_n hx hb zd_M_tell_1 rfl (lv_at hl 1 rfl) ?_
  refine zR_calls (nA := 1) (As := [.int r0]) (rest := []) (zm_lies l D ka rb M r0) (zg_M_lies zk_M_196) rfl (by decide) ⟨rfl, rfl⟩ ⟨Nat.le_of_ble_eq_true rfl, Nat.le_of_ble_eq_true rfl⟩ hx hb hml hts hown hK hP hl.1 rfl rfl (Nat.le_of_ble_eq_true rfl) ⟨Nat.zero_le _, Nat.zero_le _⟩ zd_M_tell_2 ?_
  refine lv_if_eq (tgt := 37) hx hb zd_M_tell_5 (by decide) (fun h5 => ?_) (fun h5 => ?_)
  · have c5 := zb_0 h5
    refine lv_iconst (v := 0) hx hb zd_M_tell_37 (by decide) ?_
    exact zR_zret hx hb hr hlk hK hP hS rfl (by simp [zf_tell, zg_tell, zb, c5]) (by simp [zf_tell, zg_tell, zb, c5]) zd_M_tell_38
  · have c5 := zb_1 h5
    refine lv_iload_n hx hb zd_M_tell_8 rfl (lv_at hl 2 rfl) ?_
    refine lv_iconst (v := 3) hx hb zd_M_tell_9 (by decide) ?_
    refine z_callst (nA := 2) (As := [.int d0, .int 3]) (rest := []) (zm_below l d0 3) (zg_M_below zk_M_129) rfl (by decide) ⟨rfl, rfl⟩ ⟨Nat.le_of_ble_eq_true rfl, Nat.le_of_ble_eq_true rfl⟩ hx hb hml hts hown hl.1 rfl rfl (Nat.le_of_ble_eq_true rfl) ⟨Nat.zero_le _, Nat.zero_le _⟩ zd_M_tell_10 ?_
    refine lv_if_eq (tgt := 37) hx hb zd_M_tell_13 (by decide) (fun h13 => ?_) (fun h13 => ?_)
    · have c13 := zb_0 h13
      refine lv_iconst (v := 0) hx hb zd_M_tell_37 (by decide) ?_
      exact zR_zret hx hb hr hlk hK hP hS rfl (by simp [zf_tell, zg_tell, zb, c5, c13]) (by simp [zf_tell, zg_tell, zb, c5, c13]) zd_M_tell_38
    · have c13 := zb_1 h13
      obtain ⟨d, h_d, rfl⟩ := zbl_of (n := 3) (by decide) c13
      have z_d : zix (nI d) = d := zix_n (by omega)
      refine lv_aload_n hx hb zd_M_tell_16 rfl (lv_at hl 0 rfl) ?_
      refine zR_get 18 (by decide) hx hb hts hown hK hP (zl_M_62 hts) rfl rfl zd_M_tell_17 ?_
      refine lv_iload_n hx hb zd_M_tell_20 rfl (lv_at hl 2 rfl) ?_
      refine zR_ld 18 (by decide) (j := d) hx hb hK hP rfl (show d < 3 from by omega) zd_M_tell_21 ?_
      refine lv_iconst (v := 1) hx hb zd_M_tell_22 (by decide) ?_
      refine lv_icmp_ne (tgt := 37) hx hb zd_M_tell_23 (by decide) (fun h23 => ?_) (fun h23 => ?_)
      · refine lv_iconst (v := 0) hx hb zd_M_tell_37 (by decide) ?_
        exact zR_zret hx hb hr hlk hK hP hS rfl (by simp [zf_tell, zg_tell, zb, c5, c13, z_d, h23]) (by simp [zf_tell, zg_tell, zb, c5, c13, z_d, h23]) zd_M_tell_38
      · refine lv_iload_n hx hb zd_M_tell_26 rfl (lv_at hl 3 rfl) ?_
        refine lv_if_lt (tgt := 37) hx hb zd_M_tell_27 (by decide) (fun h27 => ?_) (fun h27 => ?_)
        · refine lv_iconst (v := 0) hx hb zd_M_tell_37 (by decide) ?_
          exact zR_zret hx hb hr hlk hK hP hS rfl (by simp [zf_tell, zg_tell, zb, c5, c13, z_d, h23, h27]) (by simp [zf_tell, zg_tell, zb, c5, c13, z_d, h23, h27]) zd_M_tell_38
        · refine lv_iload hx hb zd_M_tell_30 (lv_at hl 4 rfl) ?_
          refine lv_iload hx hb zd_M_tell_32 (lv_at hl 5 rfl) ?_
          refine lv_icmp_le (tgt := 39) hx hb zd_M_tell_34 (by decide) (fun h34 => ?_) (fun h34 => ?_)
          · refine lv_aload_n hx hb zd_M_tell_39 rfl (lv_at hl 0 rfl) ?_
            refine lv_iload_n hx hb zd_M_tell_40 rfl (lv_at hl 1 rfl) ?_
            refine lv_aload_n hx hb zd_M_tell_41 rfl (lv_at hl 0 rfl) ?_
            refine zR_get 16 (by decide) hx hb hts hown hK hP (zl_M_56 hts) rfl rfl zd_M_tell_42 ?_
            refine lv_iload_n hx hb zd_M_tell_45 rfl (lv_at hl 2 rfl) ?_
            refine zR_ld 16 (by decide) (j := d) hx hb hK hP rfl (show d < 3 from by omega) zd_M_tell_46 ?_
            refine lv_iload_n hx hb zd_M_tell_47 rfl (lv_at hl 2 rfl) ?_
            refine lv_aload_n hx hb zd_M_tell_48 rfl (lv_at hl 0 rfl) ?_
            refine zR_get 15 (by decide) hx hb hts hown hK hP (zl_M_53 hts) rfl rfl zd_M_tell_49 ?_
            refine lv_iload_n hx hb zd_M_tell_52 rfl (lv_at hl 2 rfl) ?_
            refine zR_ld 15 (by decide) (j := d) hx hb hK hP rfl (show d < 3 from by omega) zd_M_tell_53 ?_
            refine lv_iload_n hx hb zd_M_tell_54 rfl (lv_at hl 3 rfl) ?_
            refine lv_iload hx hb zd_M_tell_55 (lv_at hl 4 rfl) ?_
            refine lv_iload hx hb zd_M_tell_57 (lv_at hl 5 rfl) ?_
            refine zR_callv (nA := 7) (As := [.int r0, .int (M 16 d), .int (nI d), .int (M 15 d), .int n0, .int lo, .int hi]) (rest := []) (zm_sendTell l D ka rb M hL r0 (M 16 d) (nI d) (M 15 d) n0 lo hi) (zg_M_sendTell zk_M_184) rfl (by decide) ⟨rfl, rfl⟩ ⟨Nat.le_of_ble_eq_true rfl, Nat.le_of_ble_eq_true rfl⟩ hx hb hml hts hown hK hP hS (fun _ h => h) hl.1 rfl rfl (Nat.le_of_ble_eq_true rfl) ⟨Nat.zero_le _, Nat.zero_le _⟩ zd_M_tell_59 (fun H locs hP hS => ?_)
            refine lv_iconst (v := 1) hx hb zd_M_tell_62 (by decide) ?_
            exact zR_zret hx hb hr hlk hK hP hS rfl (by simp [zf_tell, zg_tell, zb, c5, c13, z_d, h23, h27, h34]) (by simp [zf_tell, zg_tell, zb, c5, c13, z_d, h23, h27, h34]) zd_M_tell_63
          · refine lv_iconst (v := 0) hx hb zd_M_tell_37 (by decide) ?_
            exact zR_zret hx hb hr hlk hK hP hS rfl (by simp [zf_tell, zg_tell, zb, c5, c13, z_d, h23, h27, h34]) (by simp [zf_tell, zg_tell, zb, c5, c13, z_d, h23, h27, h34]) zd_M_tell_38
set_option maxRecDepth 100000 in
set_option maxHeartbeats 4000000 in
theorem zm_receipt (l : Launch) (D : va_G) (ka : Nat → ClassId) (rb : Nat) (M : zM) (hL : zLt M) (r0 p0 : Int32) : Met l zy_M_receipt (.code zy_M_receipt zc_M_receipt 3 (some .boolean) :: zAll) ({ frames := 2, cells := 0, slots := 0, locals := 42 }) (va_Pc [.ref rb, .int r0, .int p0] (zRW D ka rb M)) (zRQi D ka rb (zf_receipt M r0 p0) (zg_receipt M r0 p0)) 0 0 (zRA rb) := by
  refine z_met (by decide) (Nat.le_of_ble_eq_true rfl) ?_
  intro pg e s m below meth c hx hb hml hr hts hown hlk hnm hB ls hl
  obtain ⟨hP, hK⟩ := hB
  have hS : va_S (zRA rb) s.heap s.heap [] := va_S.rf
  have hl : lv_has ls 3 [(0, .ref rb), (1, .int r0), (2, .int p0)] := hl
  refine lv_aload_n hx hb zd_M_receipt_0 rfl (lv_at hl 0 rfl) ?_
  refine lv_iload_n hx hb zd_M_receipt_1 rfl (lv_at hl 1 rfl) ?_
  refine zR_calls (nA := 1) (As := [.int r0]) (rest := []) (zm_lies l D ka rb M r0) (zg_M_lies zk_M_196) rfl (by decide) ⟨rfl, rfl⟩ ⟨Nat.le_of_ble_eq_true rfl, Nat.le_of_ble_eq_true rfl⟩ hx hb hml hts hown hK hP hl.1 rfl rfl (Nat.le_of_ble_eq_true rfl) ⟨Nat.zero_le _, Nat.zero_le _⟩ zd_M_receipt_2 ?_
  refine lv_if_eq (tgt := 25) hx hb zd_M_receipt_5 (by decide) (fun h5 => ?_) (fun h5 => ?_)
  · have c5 := zb_0 h5
    refine lv_iconst (v := 0) hx hb zd_M_receipt_25 (by decide) ?_
    exact zR_zret hx hb hr hlk hK hP hS rfl (by simp [zf_receipt, zg_receipt, zb, c5]) (by simp [zf_receipt, zg_receipt, zb, c5]) zd_M_receipt_26
  · have c5 := zb_1 h5
    refine lv_iload_n hx hb zd_M_receipt_8 rfl (lv_at hl 2 rfl) ?_
    refine lv_iconst (v := 4) hx hb zd_M_receipt_9 (by decide) ?_
    refine z_callst (nA := 2) (As := [.int p0, .int 4]) (rest := []) (zm_below l p0 4) (zg_M_below zk_M_129) rfl (by decide) ⟨rfl, rfl⟩ ⟨Nat.le_of_ble_eq_true rfl, Nat.le_of_ble_eq_true rfl⟩ hx hb hml hts hown hl.1 rfl rfl (Nat.le_of_ble_eq_true rfl) ⟨Nat.zero_le _, Nat.zero_le _⟩ zd_M_receipt_10 ?_
    refine lv_if_eq (tgt := 25) hx hb zd_M_receipt_13 (by decide) (fun h13 => ?_) (fun h13 => ?_)
    · have c13 := zb_0 h13
      refine lv_iconst (v := 0) hx hb zd_M_receipt_25 (by decide) ?_
      exact zR_zret hx hb hr hlk hK hP hS rfl (by simp [zf_receipt, zg_receipt, zb, c5, c13]) (by simp [zf_receipt, zg_receipt, zb, c5, c13]) zd_M_receipt_26
    · have c13 := zb_1 h13
      obtain ⟨p, h_p, rfl⟩ := zbl_of (n := 4) (by decide) c13
      have z_p : zix (nI p) = p := zix_n (by omega)
      refine lv_aload_n hx hb zd_M_receipt_16 rfl (lv_at hl 0 rfl) ?_
      refine zR_get 9 (by decide) hx hb hts hown hK hP (zl_M_35 hts) rfl rfl zd_M_receipt_17 ?_
      refine lv_iload_n hx hb zd_M_receipt_20 rfl (lv_at hl 2 rfl) ?_
      refine zR_ld 9 (by decide) (j := p) hx hb hK hP rfl (show p < 4 from by omega) zd_M_receipt_21 ?_
      refine lv_if_ne (tgt := 27) hx hb zd_M_receipt_22 (by decide) (fun h22 => ?_) (fun h22 => ?_)
      · refine lv_aload_n hx hb zd_M_receipt_27 rfl (lv_at hl 0 rfl) ?_
        refine lv_iconst (v := 2) hx hb zd_M_receipt_28 (by decide) ?_
        refine lv_iload_n hx hb zd_M_receipt_29 rfl (lv_at hl 1 rfl) ?_
        refine lv_iload_n hx hb zd_M_receipt_30 rfl (lv_at hl 2 rfl) ?_
        refine lv_iconst (v := -1) hx hb zd_M_receipt_31 (by decide) ?_
        refine lv_aload_n hx hb zd_M_receipt_32 rfl (lv_at hl 0 rfl) ?_
        refine zR_get 9 (by decide) hx hb hts hown hK hP (zl_M_35 hts) rfl rfl zd_M_receipt_33 ?_
        refine lv_iload_n hx hb zd_M_receipt_36 rfl (lv_at hl 2 rfl) ?_
        refine zR_ld 9 (by decide) (j := p) hx hb hK hP rfl (show p < 4 from by omega) zd_M_receipt_37 ?_
        refine lv_iconst (v := 0) hx hb zd_M_receipt_38 (by decide) ?_
        refine lv_iconst (v := 0) hx hb zd_M_receipt_39 (by decide) ?_
        refine zR_callv (nA := 7) (As := [.int 2, .int r0, .int (nI p), .int (-1), .int (M 9 p), .int 0, .int 0]) (rest := []) (zm_send l D ka rb M hL 2 r0 (nI p) (-1) (M 9 p) 0 0) (zg_M_send zk_M_136) rfl (by decide) ⟨rfl, rfl⟩ ⟨Nat.le_of_ble_eq_true rfl, Nat.le_of_ble_eq_true rfl⟩ hx hb hml hts hown hK hP hS (fun _ h => h) hl.1 rfl rfl (Nat.le_of_ble_eq_true rfl) ⟨Nat.zero_le _, Nat.zero_le _⟩ zd_M_receipt_40 (fun H locs hP hS => ?_)
        refine lv_iconst (v := 1) hx hb zd_M_receipt_43 (by decide) ?_
        exact zR_zret hx hb hr hlk hK hP hS rfl (by simp [zf_receipt, zg_receipt, zb, c5, c13, z_p, h22]) (by simp [zf_receipt, zg_receipt, zb, c5, c13, z_p, h22]) zd_M_receipt_44
      · refine lv_iconst (v := 0) hx hb zd_M_receipt_25 (by decide) ?_
        exact zR_zret hx hb hr hlk hK hP hS rfl (by simp [zf_receipt, zg_receipt, zb, c5, c13, z_p, h22]) (by simp [zf_receipt, zg_receipt, zb, c5, c13, z_p, h22]) zd_M_receipt_26
set_option maxRecDepth 100000 in
set_option maxHeartbeats 4000000 in
theorem zm_crash (l : Launch) (D : va_G) (ka : Nat → ClassId) (rb : Nat) (M : zM) (r0 : Int32) : Met l zy_M_crash (.code zy_M_crash zc_M_crash 2 (some .boolean) :: zAll) ({ frames := 1, cells := 0, slots := 0, locals := 21 }) (va_Pc [.ref rb, .int r0] (zRW D ka rb M)) (zRQi D ka rb (zf_crash M r0) (zg_crash M r0)) 0 0 (zRA rb) := by
  refine z_met (by decide) (Nat.le_of_ble_eq_true rfl) ?_
  intro pg e s m below meth c hx hb hml hr hts hown hlk hnm hB ls hl
  obtain ⟨hP, hK⟩ := hB
  have hS : va_S (zRA rb) s.heap s.heap [] := va_S.rf
  have hl : lv_has ls 2 [(0, .ref rb), (1, .int r0)] := hl
  refine lv_iload_n hx hb zd_M_crash_0 rfl (lv_at hl 1 rfl) ?_
  refine lv_bipush (v := 9) hx hb zd_M_crash_1 (by decide) ?_
  refine z_callst (nA := 2) (As := [.int r0, .int 9]) (rest := []) (zm_below l r0 9) (zg_M_below zk_M_129) rfl (by decide) ⟨rfl, rfl⟩ ⟨Nat.le_of_ble_eq_true rfl, Nat.le_of_ble_eq_true rfl⟩ hx hb hml hts hown hl.1 rfl rfl (Nat.le_of_ble_eq_true rfl) ⟨Nat.zero_le _, Nat.zero_le _⟩ zd_M_crash_3 ?_
  refine lv_if_eq (tgt := 18) hx hb zd_M_crash_6 (by decide) (fun h6 => ?_) (fun h6 => ?_)
  · have c6 := zb_0 h6
    refine lv_iconst (v := 0) hx hb zd_M_crash_18 (by decide) ?_
    exact zR_zret hx hb hr hlk hK hP hS rfl (by simp [zf_crash, zg_crash, zb, c6]) (by simp [zf_crash, zg_crash, zb, c6]) zd_M_crash_19
  · have c6 := zb_1 h6
    obtain ⟨r, h_r, rfl⟩ := zbl_of (n := 9) (by decide) c6
    have z_r : zix (nI r) = r := zix_n (by omega)
    refine lv_aload_n hx hb zd_M_crash_9 rfl (lv_at hl 0 rfl) ?_
    refine zR_get 4 (by decide) hx hb hts hown hK hP (zl_M_20 hts) rfl rfl zd_M_crash_10 ?_
    refine lv_iload_n hx hb zd_M_crash_13 rfl (lv_at hl 1 rfl) ?_
    refine zR_zld 4 (by decide) (j := r) hx hb hK hP rfl (show r < 9 from by omega) zd_M_crash_14 ?_
    refine lv_if_eq (tgt := 20) hx hb zd_M_crash_15 (by decide) (fun h15 => ?_) (fun h15 => ?_)
    · refine lv_aload_n hx hb zd_M_crash_20 rfl (lv_at hl 0 rfl) ?_
      refine zR_get 4 (by decide) hx hb hts hown hK hP (zl_M_20 hts) rfl rfl zd_M_crash_21 ?_
      refine lv_iload_n hx hb zd_M_crash_24 rfl (lv_at hl 1 rfl) ?_
      refine lv_iconst (v := 1) hx hb zd_M_crash_25 (by decide) ?_
      refine zR_zsto 4 (by decide) (j := r) hx hb hK hP hS rfl (show r < 9 from by omega) (by decide) zd_M_crash_26 (fun H locs hP hS => ?_)
      have hP : zRP D ka rb (zst M 4 r 1) H := hP
      refine lv_iconst (v := 1) hx hb zd_M_crash_27 (by decide) ?_
      exact zR_zret hx hb hr hlk hK hP hS rfl (by simp [zf_crash, zg_crash, zb, c6, z_r, h15]) (by simp [zf_crash, zg_crash, zb, c6, z_r, h15]) zd_M_crash_28
    · refine lv_iconst (v := 0) hx hb zd_M_crash_18 (by decide) ?_
      exact zR_zret hx hb hr hlk hK hP hS rfl (by simp [zf_crash, zg_crash, zb, c6, z_r, h15]) (by simp [zf_crash, zg_crash, zb, c6, z_r, h15]) zd_M_crash_19
set_option maxRecDepth 100000 in
set_option maxHeartbeats 4000000 in
theorem zm_restart (l : Launch) (D : va_G) (ka : Nat → ClassId) (rb : Nat) (M : zM) (r0 : Int32) : Met l zy_M_restart (.code zy_M_restart zc_M_restart 2 (some .boolean) :: zAll) ({ frames := 1, cells := 0, slots := 0, locals := 21 }) (va_Pc [.ref rb, .int r0] (zRW D ka rb M)) (zRQi D ka rb (zf_restart M r0) (zg_restart M r0)) 0 0 (zRA rb) := by
  refine z_met (by decide) (Nat.le_of_ble_eq_true rfl) ?_
  intro pg e s m below meth c hx hb hml hr hts hown hlk hnm hB ls hl
  obtain ⟨hP, hK⟩ := hB
  have hS : va_S (zRA rb) s.heap s.heap [] := va_S.rf
  have hl : lv_has ls 2 [(0, .ref rb), (1, .int r0)] := hl
  refine lv_iload_n hx hb zd_M_restart_0 rfl (lv_at hl 1 rfl) ?_
  refine lv_bipush (v := 9) hx hb zd_M_restart_1 (by decide) ?_
  refine z_callst (nA := 2) (As := [.int r0, .int 9]) (rest := []) (zm_below l r0 9) (zg_M_below zk_M_129) rfl (by decide) ⟨rfl, rfl⟩ ⟨Nat.le_of_ble_eq_true rfl, Nat.le_of_ble_eq_true rfl⟩ hx hb hml hts hown hl.1 rfl rfl (Nat.le_of_ble_eq_true rfl) ⟨Nat.zero_le _, Nat.zero_le _⟩ zd_M_restart_3 ?_
  refine lv_if_eq (tgt := 18) hx hb zd_M_restart_6 (by decide) (fun h6 => ?_) (fun h6 => ?_)
  · have c6 := zb_0 h6
    refine lv_iconst (v := 0) hx hb zd_M_restart_18 (by decide) ?_
    exact zR_zret hx hb hr hlk hK hP hS rfl (by simp [zf_restart, zg_restart, zb, c6]) (by simp [zf_restart, zg_restart, zb, c6]) zd_M_restart_19
  · have c6 := zb_1 h6
    obtain ⟨r, h_r, rfl⟩ := zbl_of (n := 9) (by decide) c6
    have z_r : zix (nI r) = r := zix_n (by omega)
    refine lv_aload_n hx hb zd_M_restart_9 rfl (lv_at hl 0 rfl) ?_
    refine zR_get 4 (by decide) hx hb hts hown hK hP (zl_M_20 hts) rfl rfl zd_M_restart_10 ?_
    refine lv_iload_n hx hb zd_M_restart_13 rfl (lv_at hl 1 rfl) ?_
    refine zR_zld 4 (by decide) (j := r) hx hb hK hP rfl (show r < 9 from by omega) zd_M_restart_14 ?_
    refine lv_if_ne (tgt := 20) hx hb zd_M_restart_15 (by decide) (fun h15 => ?_) (fun h15 => ?_)
    · refine lv_aload_n hx hb zd_M_restart_20 rfl (lv_at hl 0 rfl) ?_
      refine zR_get 4 (by decide) hx hb hts hown hK hP (zl_M_20 hts) rfl rfl zd_M_restart_21 ?_
      refine lv_iload_n hx hb zd_M_restart_24 rfl (lv_at hl 1 rfl) ?_
      refine lv_iconst (v := 0) hx hb zd_M_restart_25 (by decide) ?_
      refine zR_zsto 4 (by decide) (j := r) hx hb hK hP hS rfl (show r < 9 from by omega) (by decide) zd_M_restart_26 (fun H locs hP hS => ?_)
      have hP : zRP D ka rb (zst M 4 r 0) H := hP
      refine lv_iconst (v := 1) hx hb zd_M_restart_27 (by decide) ?_
      exact zR_zret hx hb hr hlk hK hP hS rfl (by simp [zf_restart, zg_restart, zb, c6, z_r, h15]) (by simp [zf_restart, zg_restart, zb, c6, z_r, h15]) zd_M_restart_28
    · refine lv_iconst (v := 0) hx hb zd_M_restart_18 (by decide) ?_
      exact zR_zret hx hb hr hlk hK hP hS rfl (by simp [zf_restart, zg_restart, zb, c6, z_r, h15]) (by simp [zf_restart, zg_restart, zb, c6, z_r, h15]) zd_M_restart_19
set_option maxRecDepth 100000 in
set_option maxHeartbeats 4000000 in
theorem zm_outcome (l : Launch) (D : va_G) (ka : Nat → ClassId) (rb : Nat) (M : zM) (d0 : Int32) : Met l zy_M_outcome (.code zy_M_outcome zc_M_outcome 2 (some .int) :: zAll) ({ frames := 1, cells := 0, slots := 0, locals := 21 }) (va_Pc [.ref rb, .int d0] (zRW D ka rb M)) (vp_Si (fun rr => rr = (zf_outcome M d0))) 0 0 (fun _ => False) := by
  refine z_met (by decide) (Nat.le_of_ble_eq_true rfl) ?_
  intro pg e s m below meth c hx hb hml hr hts hown hlk hnm hB ls hl
  obtain ⟨hP, hK⟩ := hB
  have hl : lv_has ls 2 [(0, .ref rb), (1, .int d0)] := hl
  refine lv_iload_n hx hb zd_M_outcome_0 rfl (lv_at hl 1 rfl) ?_
  refine lv_iconst (v := 3) hx hb zd_M_outcome_1 (by decide) ?_
  refine z_callst (nA := 2) (As := [.int d0, .int 3]) (rest := []) (zm_below l d0 3) (zg_M_below zk_M_129) rfl (by decide) ⟨rfl, rfl⟩ ⟨Nat.le_of_ble_eq_true rfl, Nat.le_of_ble_eq_true rfl⟩ hx hb hml hts hown hl.1 rfl rfl (Nat.le_of_ble_eq_true rfl) ⟨Nat.zero_le _, Nat.zero_le _⟩ zd_M_outcome_2 ?_
  refine lv_if_eq (tgt := 17) hx hb zd_M_outcome_5 (by decide) (fun h5 => ?_) (fun h5 => ?_)
  · have c5 := zb_0 h5
    refine lv_iconst (v := -1) hx hb zd_M_outcome_17 (by decide) ?_
    exact zS_iret hx hb hr hlk rfl rfl (by simp [zf_outcome, c5]) zd_M_outcome_18
  · have c5 := zb_1 h5
    obtain ⟨d, h_d, rfl⟩ := zbl_of (n := 3) (by decide) c5
    have z_d : zix (nI d) = d := zix_n (by omega)
    refine lv_aload_n hx hb zd_M_outcome_8 rfl (lv_at hl 0 rfl) ?_
    refine zR_get 18 (by decide) hx hb hts hown hK hP (zl_M_62 hts) rfl rfl zd_M_outcome_9 ?_
    refine lv_iload_n hx hb zd_M_outcome_12 rfl (lv_at hl 1 rfl) ?_
    refine zR_ld 18 (by decide) (j := d) hx hb hK hP rfl (show d < 3 from by omega) zd_M_outcome_13 ?_
    refine lv_goto (tgt := 18) hx hb zd_M_outcome_14 (by decide) ?_
    exact zS_iret hx hb hr hlk rfl rfl (by simp [zf_outcome, c5, z_d]) zd_M_outcome_18
set_option maxRecDepth 100000 in
set_option maxHeartbeats 4000000 in
theorem zm_answered (l : Launch) (D : va_G) (ka : Nat → ClassId) (rb : Nat) (M : zM) (d0 f0 : Int32) : Met l zy_M_answered (.code zy_M_answered zc_M_answered 3 (some .int) :: zAll) ({ frames := 1, cells := 0, slots := 0, locals := 21 }) (va_Pc [.ref rb, .int d0, .int f0] (zRW D ka rb M)) (vp_Si (fun rr => rr = (zf_answered M d0 f0))) 0 0 (fun _ => False) := by
  refine z_met (by decide) (Nat.le_of_ble_eq_true rfl) ?_
  intro pg e s m below meth c hx hb hml hr hts hown hlk hnm hB ls hl
  obtain ⟨hP, hK⟩ := hB
  have hl : lv_has ls 3 [(0, .ref rb), (1, .int d0), (2, .int f0)] := hl
  refine lv_iload_n hx hb zd_M_answered_0 rfl (lv_at hl 1 rfl) ?_
  refine lv_iconst (v := 3) hx hb zd_M_answered_1 (by decide) ?_
  refine z_callst (nA := 2) (As := [.int d0, .int 3]) (rest := []) (zm_below l d0 3) (zg_M_below zk_M_129) rfl (by decide) ⟨rfl, rfl⟩ ⟨Nat.le_of_ble_eq_true rfl, Nat.le_of_ble_eq_true rfl⟩ hx hb hml hts hown hl.1 rfl rfl (Nat.le_of_ble_eq_true rfl) ⟨Nat.zero_le _, Nat.zero_le _⟩ zd_M_answered_2 ?_
  refine lv_if_eq (tgt := 38) hx hb zd_M_answered_5 (by decide) (fun h5 => ?_) (fun h5 => ?_)
  · have c5 := zb_0 h5
    refine lv_iconst (v := -1) hx hb zd_M_answered_38 (by decide) ?_
    exact zS_iret hx hb hr hlk rfl rfl (by simp [zf_answered, c5]) zd_M_answered_39
  · have c5 := zb_1 h5
    obtain ⟨d, h_d, rfl⟩ := zbl_of (n := 3) (by decide) c5
    have z_d : zix (nI d) = d := zix_n (by omega)
    refine lv_aload_n hx hb zd_M_answered_8 rfl (lv_at hl 0 rfl) ?_
    refine zR_get 26 (by decide) hx hb hts hown hK hP (zl_M_86 hts) rfl rfl zd_M_answered_9 ?_
    refine lv_iload_n hx hb zd_M_answered_12 rfl (lv_at hl 1 rfl) ?_
    refine zR_zld 26 (by decide) (j := d) hx hb hK hP rfl (show d < 3 from by omega) zd_M_answered_13 ?_
    refine lv_if_eq (tgt := 38) hx hb zd_M_answered_14 (by decide) (fun h14 => ?_) (fun h14 => ?_)
    · refine lv_iconst (v := -1) hx hb zd_M_answered_38 (by decide) ?_
      exact zS_iret hx hb hr hlk rfl rfl (by simp [zf_answered, c5, z_d, h14]) zd_M_answered_39
    · refine lv_iload_n hx hb zd_M_answered_17 rfl (lv_at hl 2 rfl) ?_
      refine lv_iconst (v := 4) hx hb zd_M_answered_18 (by decide) ?_
      refine z_callst (nA := 2) (As := [.int f0, .int 4]) (rest := []) (zm_below l f0 4) (zg_M_below zk_M_129) rfl (by decide) ⟨rfl, rfl⟩ ⟨Nat.le_of_ble_eq_true rfl, Nat.le_of_ble_eq_true rfl⟩ hx hb hml hts hown hl.1 rfl rfl (Nat.le_of_ble_eq_true rfl) ⟨Nat.zero_le _, Nat.zero_le _⟩ zd_M_answered_19 ?_
      refine lv_if_eq (tgt := 38) hx hb zd_M_answered_22 (by decide) (fun h22 => ?_) (fun h22 => ?_)
      · have c22 := zb_0 h22
        refine lv_iconst (v := -1) hx hb zd_M_answered_38 (by decide) ?_
        exact zS_iret hx hb hr hlk rfl rfl (by simp [zf_answered, c5, z_d, h14, c22]) zd_M_answered_39
      · have c22 := zb_1 h22
        obtain ⟨f, h_f, rfl⟩ := zbl_of (n := 4) (by decide) c22
        have z_f : zix (nI f) = f := zix_n (by omega)
        refine lv_aload_n hx hb zd_M_answered_25 rfl (lv_at hl 0 rfl) ?_
        refine zR_get 27 (by decide) hx hb hts hown hK hP (zl_M_89 hts) rfl rfl zd_M_answered_26 ?_
        refine lv_iconst (v := 4) hx hb zd_M_answered_29 (by decide) ?_
        refine lv_iload_n hx hb zd_M_answered_30 rfl (lv_at hl 1 rfl) ?_
        refine lv_imul hx hb zd_M_answered_31 ?_
        refine z_top (zn_m4 _) ?_
        refine lv_iload_n hx hb zd_M_answered_32 rfl (lv_at hl 2 rfl) ?_
        refine lv_iadd hx hb zd_M_answered_33 ?_
        refine z_top (nI_add _ _) ?_
        refine zR_ld 27 (by decide) (j := (4 * d + f)) hx hb hK hP rfl (show (4 * d + f) < 12 from by omega) zd_M_answered_34 ?_
        refine lv_goto (tgt := 39) hx hb zd_M_answered_35 (by decide) ?_
        exact zS_iret hx hb hr hlk rfl rfl (by simp [zf_answered, c5, z_d, h14, c22, z_f]) zd_M_answered_39
set_option maxRecDepth 100000 in
set_option maxHeartbeats 4000000 in
theorem zm_reader (l : Launch) (D : va_G) (ka : Nat → ClassId) (rb : Nat) (M : zM) (d0 w0 : Int32) : Met l zy_M_reader (.code zy_M_reader zc_M_reader 3 (some .int) :: zAll) ({ frames := 1, cells := 0, slots := 0, locals := 23 }) (va_Pc [.ref rb, .int d0, .int w0] (zRW D ka rb M)) (vp_Si (fun rr => rr = (zf_reader M d0 w0))) 0 0 (fun _ => False) := by
  refine z_met (by decide) (Nat.le_of_ble_eq_true rfl) ?_
  intro pg e s m below meth c hx hb hml hr hts hown hlk hnm hB ls hl
  obtain ⟨hP, hK⟩ := hB
  have hl : lv_has ls 3 [(0, .ref rb), (1, .int d0), (2, .int w0)] := hl
  refine lv_iload_n hx hb zd_M_reader_0 rfl (lv_at hl 1 rfl) ?_
  refine lv_iconst (v := 3) hx hb zd_M_reader_1 (by decide) ?_
  refine z_callst (nA := 2) (As := [.int d0, .int 3]) (rest := []) (zm_below l d0 3) (zg_M_below zk_M_129) rfl (by decide) ⟨rfl, rfl⟩ ⟨Nat.le_of_ble_eq_true rfl, Nat.le_of_ble_eq_true rfl⟩ hx hb hml hts hown hl.1 rfl rfl (Nat.le_of_ble_eq_true rfl) ⟨Nat.zero_le _, Nat.zero_le _⟩ zd_M_reader_2 ?_
  refine lv_if_eq (tgt := 16) hx hb zd_M_reader_5 (by decide) (fun h5 => ?_) (fun h5 => ?_)
  · have c5 := zb_0 h5
    refine lv_iconst (v := -1) hx hb zd_M_reader_16 (by decide) ?_
    exact zS_iret hx hb hr hlk rfl rfl (by simp [zf_reader, c5]) zd_M_reader_17
  · have c5 := zb_1 h5
    obtain ⟨d, h_d, rfl⟩ := zbl_of (n := 3) (by decide) c5
    have z_d : zix (nI d) = d := zix_n (by omega)
    refine lv_iload_n hx hb zd_M_reader_8 rfl (lv_at hl 2 rfl) ?_
    refine lv_iconst (v := 3) hx hb zd_M_reader_9 (by decide) ?_
    refine z_callst (nA := 2) (As := [.int w0, .int 3]) (rest := []) (zm_below l w0 3) (zg_M_below zk_M_129) rfl (by decide) ⟨rfl, rfl⟩ ⟨Nat.le_of_ble_eq_true rfl, Nat.le_of_ble_eq_true rfl⟩ hx hb hml hts hown hl.1 rfl rfl (Nat.le_of_ble_eq_true rfl) ⟨Nat.zero_le _, Nat.zero_le _⟩ zd_M_reader_10 ?_
    refine lv_if_ne (tgt := 18) hx hb zd_M_reader_13 (by decide) (fun h13 => ?_) (fun h13 => ?_)
    · have c13 := zb_1 h13
      refine lv_iload_n hx hb zd_M_reader_18 rfl (lv_at hl 2 rfl) ?_
      refine lv_if_ne (tgt := 29) hx hb zd_M_reader_19 (by decide) (fun h19 => ?_) (fun h19 => ?_)
      · refine lv_aload_n hx hb zd_M_reader_29 rfl (lv_at hl 0 rfl) ?_
        refine zR_get 18 (by decide) hx hb hts hown hK hP (zl_M_62 hts) rfl rfl zd_M_reader_30 ?_
        refine lv_iload_n hx hb zd_M_reader_33 rfl (lv_at hl 1 rfl) ?_
        refine zR_ld 18 (by decide) (j := d) hx hb hK hP rfl (show d < 3 from by omega) zd_M_reader_34 ?_
        refine lv_iconst (v := 1) hx hb zd_M_reader_35 (by decide) ?_
        refine lv_icmp_eq (tgt := 41) hx hb zd_M_reader_36 (by decide) (fun h36 => ?_) (fun h36 => ?_)
        · refine lv_iload_n hx hb zd_M_reader_41 rfl (lv_at hl 2 rfl) ?_
          refine lv_iconst (v := 1) hx hb zd_M_reader_42 (by decide) ?_
          refine lv_icmp_ne (tgt := 55) hx hb zd_M_reader_43 (by decide) (fun h43 => ?_) (fun h43 => ?_)
          · refine lv_aload_n hx hb zd_M_reader_55 rfl (lv_at hl 0 rfl) ?_
            refine lv_iload_n hx hb zd_M_reader_56 rfl (lv_at hl 1 rfl) ?_
            refine zR_calls (nA := 1) (As := [.int (nI d)]) (rest := []) (zm_answers l D ka rb M d (by omega)) (zg_M_answers zk_M_171) rfl (by decide) ⟨rfl, rfl⟩ ⟨Nat.le_of_ble_eq_true rfl, Nat.le_of_ble_eq_true rfl⟩ hx hb hml hts hown hK hP hl.1 rfl rfl (Nat.le_of_ble_eq_true rfl) ⟨Nat.zero_le _, Nat.zero_le _⟩ zd_M_reader_57 ?_
            exact zS_iret hx hb hr hlk rfl rfl (by simp [zf_reader, c5, z_d, c13, h19, h36, h43]) zd_M_reader_60
          · refine lv_aload_n hx hb zd_M_reader_46 rfl (lv_at hl 0 rfl) ?_
            refine zR_get 17 (by decide) hx hb hts hown hK hP (zl_M_59 hts) rfl rfl zd_M_reader_47 ?_
            refine lv_iload_n hx hb zd_M_reader_50 rfl (lv_at hl 1 rfl) ?_
            refine zR_ld 17 (by decide) (j := d) hx hb hK hP rfl (show d < 3 from by omega) zd_M_reader_51 ?_
            refine lv_goto (tgt := 60) hx hb zd_M_reader_52 (by decide) ?_
            exact zS_iret hx hb hr hlk rfl rfl (by simp [zf_reader, c5, z_d, c13, h19, h36, h43]) zd_M_reader_60
        · refine lv_iconst (v := 0) hx hb zd_M_reader_39 (by decide) ?_
          exact zS_iret hx hb hr hlk rfl rfl (by simp [zf_reader, c5, z_d, c13, h19, h36]) zd_M_reader_40
      · refine lv_aload_n hx hb zd_M_reader_22 rfl (lv_at hl 0 rfl) ?_
        refine zR_get 15 (by decide) hx hb hts hown hK hP (zl_M_53 hts) rfl rfl zd_M_reader_23 ?_
        refine lv_iload_n hx hb zd_M_reader_26 rfl (lv_at hl 1 rfl) ?_
        refine zR_ld 15 (by decide) (j := d) hx hb hK hP rfl (show d < 3 from by omega) zd_M_reader_27 ?_
        exact zS_iret hx hb hr hlk rfl rfl (by simp [zf_reader, c5, z_d, c13, h19]) zd_M_reader_28
    · have c13 := zb_0 h13
      refine lv_iconst (v := -1) hx hb zd_M_reader_16 (by decide) ?_
      exact zS_iret hx hb hr hlk rfl rfl (by simp [zf_reader, c5, z_d, c13]) zd_M_reader_17
set_option maxRecDepth 100000 in
set_option maxHeartbeats 4000000 in
theorem zm_writer (l : Launch) (D : va_G) (ka : Nat → ClassId) (rb : Nat) (M : zM) (p0 w0 : Int32) : Met l zy_M_writer (.code zy_M_writer zc_M_writer 3 (some .int) :: zAll) ({ frames := 1, cells := 0, slots := 0, locals := 23 }) (va_Pc [.ref rb, .int p0, .int w0] (zRW D ka rb M)) (vp_Si (fun rr => rr = (zf_writer M p0 w0))) 0 0 (fun _ => False) := by
  refine z_met (by decide) (Nat.le_of_ble_eq_true rfl) ?_
  intro pg e s m below meth c hx hb hml hr hts hown hlk hnm hB ls hl
  obtain ⟨hP, hK⟩ := hB
  have hl : lv_has ls 3 [(0, .ref rb), (1, .int p0), (2, .int w0)] := hl
  refine lv_iload_n hx hb zd_M_writer_0 rfl (lv_at hl 1 rfl) ?_
  refine lv_iconst (v := 4) hx hb zd_M_writer_1 (by decide) ?_
  refine z_callst (nA := 2) (As := [.int p0, .int 4]) (rest := []) (zm_below l p0 4) (zg_M_below zk_M_129) rfl (by decide) ⟨rfl, rfl⟩ ⟨Nat.le_of_ble_eq_true rfl, Nat.le_of_ble_eq_true rfl⟩ hx hb hml hts hown hl.1 rfl rfl (Nat.le_of_ble_eq_true rfl) ⟨Nat.zero_le _, Nat.zero_le _⟩ zd_M_writer_2 ?_
  refine lv_if_ne (tgt := 10) hx hb zd_M_writer_5 (by decide) (fun h5 => ?_) (fun h5 => ?_)
  · have c5 := zb_1 h5
    obtain ⟨p, h_p, rfl⟩ := zbl_of (n := 4) (by decide) c5
    have z_p : zix (nI p) = p := zix_n (by omega)
    refine lv_iload_n hx hb zd_M_writer_10 rfl (lv_at hl 2 rfl) ?_
    refine lv_if_ne (tgt := 23) hx hb zd_M_writer_11 (by decide) (fun h11 => ?_) (fun h11 => ?_)
    · refine lv_iload_n hx hb zd_M_writer_23 rfl (lv_at hl 2 rfl) ?_
      refine lv_iconst (v := 1) hx hb zd_M_writer_24 (by decide) ?_
      refine lv_icmp_ne (tgt := 45) hx hb zd_M_writer_25 (by decide) (fun h25 => ?_) (fun h25 => ?_)
      · refine lv_iload_n hx hb zd_M_writer_45 rfl (lv_at hl 2 rfl) ?_
        refine lv_iconst (v := 2) hx hb zd_M_writer_46 (by decide) ?_
        refine lv_icmp_ne (tgt := 58) hx hb zd_M_writer_47 (by decide) (fun h47 => ?_) (fun h47 => ?_)
        · refine lv_iload_n hx hb zd_M_writer_58 rfl (lv_at hl 2 rfl) ?_
          refine lv_iconst (v := 3) hx hb zd_M_writer_59 (by decide) ?_
          refine lv_icmp_ne (tgt := 72) hx hb zd_M_writer_60 (by decide) (fun h60 => ?_) (fun h60 => ?_)
          · refine lv_iconst (v := -1) hx hb zd_M_writer_72 (by decide) ?_
            exact zS_iret hx hb hr hlk rfl rfl (by simp [zf_writer, zb, c5, z_p, h11, h25, h47, h60]) zd_M_writer_73
          · refine lv_aload_n hx hb zd_M_writer_63 rfl (lv_at hl 0 rfl) ?_
            refine zR_get 13 (by decide) hx hb hts hown hK hP (zl_M_47 hts) rfl rfl zd_M_writer_64 ?_
            refine lv_iload_n hx hb zd_M_writer_67 rfl (lv_at hl 1 rfl) ?_
            refine zR_ld 13 (by decide) (j := p) hx hb hK hP rfl (show p < 4 from by omega) zd_M_writer_68 ?_
            refine lv_goto (tgt := 73) hx hb zd_M_writer_69 (by decide) ?_
            exact zS_iret hx hb hr hlk rfl rfl (by simp [zf_writer, zb, c5, z_p, h11, h25, h47, h60]) zd_M_writer_73
        · refine lv_aload_n hx hb zd_M_writer_50 rfl (lv_at hl 0 rfl) ?_
          refine lv_iload_n hx hb zd_M_writer_51 rfl (lv_at hl 1 rfl) ?_
          refine zR_calls (nA := 1) (As := [.int (nI p)]) (rest := []) (zm_receipts l D ka rb M p (by omega)) (zg_M_receipts zk_M_151) rfl (by decide) ⟨rfl, rfl⟩ ⟨Nat.le_of_ble_eq_true rfl, Nat.le_of_ble_eq_true rfl⟩ hx hb hml hts hown hK hP hl.1 rfl rfl (Nat.le_of_ble_eq_true rfl) ⟨Nat.zero_le _, Nat.zero_le _⟩ zd_M_writer_52 ?_
          refine lv_goto (tgt := 73) hx hb zd_M_writer_55 (by decide) ?_
          exact zS_iret hx hb hr hlk rfl rfl (by simp [zf_writer, zb, c5, z_p, h11, h25, h47]) zd_M_writer_73
      · refine lv_aload_n hx hb zd_M_writer_28 rfl (lv_at hl 0 rfl) ?_
        refine zR_get 12 (by decide) hx hb hts hown hK hP (zl_M_44 hts) rfl rfl zd_M_writer_29 ?_
        refine lv_iload_n hx hb zd_M_writer_32 rfl (lv_at hl 1 rfl) ?_
        refine zR_zld 12 (by decide) (j := p) hx hb hK hP rfl (show p < 4 from by omega) zd_M_writer_33 ?_
        refine lv_if_eq (tgt := 41) hx hb zd_M_writer_34 (by decide) (fun h34 => ?_) (fun h34 => ?_)
        · refine lv_iconst (v := 0) hx hb zd_M_writer_41 (by decide) ?_
          refine lv_goto (tgt := 73) hx hb zd_M_writer_42 (by decide) ?_
          exact zS_iret hx hb hr hlk rfl rfl (by simp [zf_writer, zb, c5, z_p, h11, h25, h34]) zd_M_writer_73
        · refine lv_iconst (v := 1) hx hb zd_M_writer_37 (by decide) ?_
          refine lv_goto (tgt := 73) hx hb zd_M_writer_38 (by decide) ?_
          exact zS_iret hx hb hr hlk rfl rfl (by simp [zf_writer, zb, c5, z_p, h11, h25, h34]) zd_M_writer_73
    · refine lv_aload_n hx hb zd_M_writer_14 rfl (lv_at hl 0 rfl) ?_
      refine zR_get 9 (by decide) hx hb hts hown hK hP (zl_M_35 hts) rfl rfl zd_M_writer_15 ?_
      refine lv_iload_n hx hb zd_M_writer_18 rfl (lv_at hl 1 rfl) ?_
      refine zR_ld 9 (by decide) (j := p) hx hb hK hP rfl (show p < 4 from by omega) zd_M_writer_19 ?_
      refine lv_goto (tgt := 73) hx hb zd_M_writer_20 (by decide) ?_
      exact zS_iret hx hb hr hlk rfl rfl (by simp [zf_writer, zb, c5, z_p, h11]) zd_M_writer_73
  · have c5 := zb_0 h5
    refine lv_iconst (v := -1) hx hb zd_M_writer_8 (by decide) ?_
    exact zS_iret hx hb hr hlk rfl rfl (by simp [zf_writer, zb, c5]) zd_M_writer_9
set_option maxRecDepth 100000 in
set_option maxHeartbeats 4000000 in
theorem zm_held (l : Launch) (D : va_G) (ka : Nat → ClassId) (rb : Nat) (M : zM) (r0 p0 f0 : Int32) : Met l zy_M_held (.code zy_M_held zc_M_held 5 (some .int) :: zAll) ({ frames := 1, cells := 0, slots := 0, locals := 21 }) (va_Pc [.ref rb, .int r0, .int p0, .int f0] (zRW D ka rb M)) (vp_Si (fun rr => rr = (zf_held M r0 p0 f0))) 0 0 (fun _ => False) := by
  refine z_met (by decide) (Nat.le_of_ble_eq_true rfl) ?_
  intro pg e s m below meth c hx hb hml hr hts hown hlk hnm hB ls hl
  obtain ⟨hP, hK⟩ := hB
  have hl : lv_has ls 5 [(0, .ref rb), (1, .int r0), (2, .int p0), (3, .int f0)] := hl
  refine lv_iload_n hx hb zd_M_held_0 rfl (lv_at hl 1 rfl) ?_
  refine lv_bipush (v := 9) hx hb zd_M_held_1 (by decide) ?_
  refine z_callst (nA := 2) (As := [.int r0, .int 9]) (rest := []) (zm_below l r0 9) (zg_M_below zk_M_129) rfl (by decide) ⟨rfl, rfl⟩ ⟨Nat.le_of_ble_eq_true rfl, Nat.le_of_ble_eq_true rfl⟩ hx hb hml hts hown hl.1 rfl rfl (Nat.le_of_ble_eq_true rfl) ⟨Nat.zero_le _, Nat.zero_le _⟩ zd_M_held_3 ?_
  refine lv_if_eq (tgt := 17) hx hb zd_M_held_6 (by decide) (fun h6 => ?_) (fun h6 => ?_)
  · have c6 := zb_0 h6
    refine lv_iconst (v := -1) hx hb zd_M_held_17 (by decide) ?_
    exact zS_iret hx hb hr hlk rfl rfl (by simp [zf_held, c6]) zd_M_held_18
  · have c6 := zb_1 h6
    obtain ⟨r, h_r, rfl⟩ := zbl_of (n := 9) (by decide) c6
    have z_r : zix (nI r) = r := zix_n (by omega)
    refine lv_iload_n hx hb zd_M_held_9 rfl (lv_at hl 2 rfl) ?_
    refine lv_iconst (v := 4) hx hb zd_M_held_10 (by decide) ?_
    refine z_callst (nA := 2) (As := [.int p0, .int 4]) (rest := []) (zm_below l p0 4) (zg_M_below zk_M_129) rfl (by decide) ⟨rfl, rfl⟩ ⟨Nat.le_of_ble_eq_true rfl, Nat.le_of_ble_eq_true rfl⟩ hx hb hml hts hown hl.1 rfl rfl (Nat.le_of_ble_eq_true rfl) ⟨Nat.zero_le _, Nat.zero_le _⟩ zd_M_held_11 ?_
    refine lv_if_ne (tgt := 19) hx hb zd_M_held_14 (by decide) (fun h14 => ?_) (fun h14 => ?_)
    · have c14 := zb_1 h14
      obtain ⟨p, h_p, rfl⟩ := zbl_of (n := 4) (by decide) c14
      have z_p : zix (nI p) = p := zix_n (by omega)
      refine lv_iconst (v := 4) hx hb zd_M_held_19 (by decide) ?_
      refine lv_iload_n hx hb zd_M_held_20 rfl (lv_at hl 1 rfl) ?_
      refine lv_imul hx hb zd_M_held_21 ?_
      refine z_top (zn_m4 _) ?_
      refine lv_iload_n hx hb zd_M_held_22 rfl (lv_at hl 2 rfl) ?_
      refine lv_iadd hx hb zd_M_held_23 ?_
      refine z_top (nI_add _ _) ?_
      refine lv_istore hx hb zd_M_held_24 hl (by decide) rfl (fun ls hl => ?_)
      have hl : lv_has ls 5 [(4, .int (nI (4 * r + p))), (0, .ref rb), (1, .int (nI r)), (2, .int (nI p)), (3, .int f0)] := hl
      refine lv_iload_n hx hb zd_M_held_26 rfl (lv_at hl 4 rfl) ?_
      refine lv_if_ne (tgt := 40) hx hb zd_M_held_27 (by decide) (fun h27 => ?_) (fun h27 => ?_)
      · refine lv_iload_n hx hb zd_M_held_40 rfl (lv_at hl 4 rfl) ?_
        refine lv_iconst (v := 1) hx hb zd_M_held_41 (by decide) ?_
        refine lv_icmp_ne (tgt := 55) hx hb zd_M_held_42 (by decide) (fun h42 => ?_) (fun h42 => ?_)
        · refine lv_iload_n hx hb zd_M_held_55 rfl (lv_at hl 4 rfl) ?_
          refine lv_iconst (v := 2) hx hb zd_M_held_56 (by decide) ?_
          refine lv_icmp_ne (tgt := 70) hx hb zd_M_held_57 (by decide) (fun h57 => ?_) (fun h57 => ?_)
          · refine lv_iconst (v := -1) hx hb zd_M_held_70 (by decide) ?_
            exact zS_iret hx hb hr hlk rfl rfl (by simp [zf_held, c6, z_r, c14, z_p, h27, h42, h57]) zd_M_held_71
          · refine lv_aload_n hx hb zd_M_held_60 rfl (lv_at hl 1 rfl) ?_
            refine zR_get 8 (by decide) hx hb hts hown hK hP (zl_M_32 hts) rfl rfl zd_M_held_61 ?_
            refine lv_iload hx hb zd_M_held_64 (lv_at hl 0 rfl) ?_
            refine zR_ld 8 (by decide) (j := (4 * r + p)) hx hb hK hP rfl (show (4 * r + p) < 36 from by omega) zd_M_held_66 ?_
            refine lv_goto (tgt := 71) hx hb zd_M_held_67 (by decide) ?_
            exact zS_iret hx hb hr hlk rfl rfl (by simp [zf_held, c6, z_r, c14, z_p, h27, h42, h57]) zd_M_held_71
        · refine lv_aload_n hx hb zd_M_held_45 rfl (lv_at hl 1 rfl) ?_
          refine zR_get 7 (by decide) hx hb hts hown hK hP (zl_M_29 hts) rfl rfl zd_M_held_46 ?_
          refine lv_iload hx hb zd_M_held_49 (lv_at hl 0 rfl) ?_
          refine zR_ld 7 (by decide) (j := (4 * r + p)) hx hb hK hP rfl (show (4 * r + p) < 36 from by omega) zd_M_held_51 ?_
          refine lv_goto (tgt := 71) hx hb zd_M_held_52 (by decide) ?_
          exact zS_iret hx hb hr hlk rfl rfl (by simp [zf_held, c6, z_r, c14, z_p, h27, h42]) zd_M_held_71
      · refine lv_aload_n hx hb zd_M_held_30 rfl (lv_at hl 1 rfl) ?_
        refine zR_get 6 (by decide) hx hb hts hown hK hP (zl_M_26 hts) rfl rfl zd_M_held_31 ?_
        refine lv_iload hx hb zd_M_held_34 (lv_at hl 0 rfl) ?_
        refine zR_ld 6 (by decide) (j := (4 * r + p)) hx hb hK hP rfl (show (4 * r + p) < 36 from by omega) zd_M_held_36 ?_
        refine lv_goto (tgt := 71) hx hb zd_M_held_37 (by decide) ?_
        exact zS_iret hx hb hr hlk rfl rfl (by simp [zf_held, c6, z_r, c14, z_p, h27]) zd_M_held_71
    · have c14 := zb_0 h14
      refine lv_iconst (v := -1) hx hb zd_M_held_17 (by decide) ?_
      exact zS_iret hx hb hr hlk rfl rfl (by simp [zf_held, c6, z_r, c14]) zd_M_held_18
set_option maxRecDepth 100000 in
set_option maxHeartbeats 4000000 in
theorem zm_measured (l : Launch) (D : va_G) (ka : Nat → ClassId) (rb : Nat) (M : zM) (h0 x0 : Int32) : Met l zy_M_measured (.code zy_M_measured zc_M_measured 3 (some .boolean) :: zAll) ({ frames := 1, cells := 0, slots := 0, locals := 21 }) (va_Pc [.ref rb, .int h0, .int x0] (zRW D ka rb M)) (zRQi D ka rb (zf_measured M h0 x0) (zg_measured M h0 x0)) 0 0 (zRA rb) := by
  refine z_met (by decide) (Nat.le_of_ble_eq_true rfl) ?_
  intro pg e s m below meth c hx hb hml hr hts hown hlk hnm hB ls hl
  obtain ⟨hP, hK⟩ := hB
  have hS : va_S (zRA rb) s.heap s.heap [] := va_S.rf
  have hl : lv_has ls 3 [(0, .ref rb), (1, .int h0), (2, .int x0)] := hl
  refine lv_iload_n hx hb zd_M_measured_0 rfl (lv_at hl 1 rfl) ?_
  refine lv_iconst (v := 3) hx hb zd_M_measured_1 (by decide) ?_
  refine z_callst (nA := 2) (As := [.int h0, .int 3]) (rest := []) (zm_below l h0 3) (zg_M_below zk_M_129) rfl (by decide) ⟨rfl, rfl⟩ ⟨Nat.le_of_ble_eq_true rfl, Nat.le_of_ble_eq_true rfl⟩ hx hb hml hts hown hl.1 rfl rfl (Nat.le_of_ble_eq_true rfl) ⟨Nat.zero_le _, Nat.zero_le _⟩ zd_M_measured_2 ?_
  refine lv_if_ne (tgt := 10) hx hb zd_M_measured_5 (by decide) (fun h5 => ?_) (fun h5 => ?_)
  · have c5 := zb_1 h5
    obtain ⟨h, h_h, rfl⟩ := zbl_of (n := 3) (by decide) c5
    have z_h : zix (nI h) = h := zix_n (by omega)
    refine lv_aload_n hx hb zd_M_measured_10 rfl (lv_at hl 0 rfl) ?_
    refine zR_get 2 (by decide) hx hb hts hown hK hP (zl_M_13 hts) rfl rfl zd_M_measured_11 ?_
    refine lv_iload_n hx hb zd_M_measured_14 rfl (lv_at hl 1 rfl) ?_
    refine lv_iconst (v := 1) hx hb zd_M_measured_15 (by decide) ?_
    refine zR_zsto 2 (by decide) (j := h) hx hb hK hP hS rfl (show h < 3 from by omega) (by decide) zd_M_measured_16 (fun H locs hP hS => ?_)
    have hP : zRP D ka rb (zst M 2 h 1) H := hP
    refine lv_aload_n hx hb zd_M_measured_17 rfl (lv_at hl 0 rfl) ?_
    refine zR_get 3 (by decide) hx hb hts hown hK hP (zl_M_17 hts) rfl rfl zd_M_measured_18 ?_
    refine lv_iload_n hx hb zd_M_measured_21 rfl (lv_at hl 1 rfl) ?_
    refine lv_iload_n hx hb zd_M_measured_22 rfl (lv_at hl 2 rfl) ?_
    refine zR_sto 3 (by decide) (j := h) hx hb hK hP hS rfl (show h < 3 from by omega) zd_M_measured_23 (fun H locs hP hS => ?_)
    have hP : zRP D ka rb (zst (zst M 2 h 1) 3 h x0) H := hP
    refine lv_iconst (v := 1) hx hb zd_M_measured_24 (by decide) ?_
    exact zR_zret hx hb hr hlk hK hP hS rfl (by simp [zf_measured, zg_measured, zb, c5, z_h]) (by simp [zf_measured, zg_measured, zb, c5, z_h]) zd_M_measured_25
  · have c5 := zb_0 h5
    refine lv_iconst (v := 0) hx hb zd_M_measured_8 (by decide) ?_
    exact zR_zret hx hb hr hlk hK hP hS rfl (by simp [zf_measured, zg_measured, zb, c5]) (by simp [zf_measured, zg_measured, zb, c5]) zd_M_measured_9
set_option maxRecDepth 100000 in
set_option maxHeartbeats 4000000 in
theorem zm_alarming (l : Launch) (D : va_G) (ka : Nat → ClassId) (rb : Nat) (M : zM) (h : Nat) (hh : h < 3) : Met l zy_M_alarming (.code zy_M_alarming zc_M_alarming 3 (some .boolean) :: zAll) ({ frames := 0, cells := 0, slots := 0, locals := 0 }) (va_Pc [.ref rb, .int (nI h)] (zRW D ka rb M)) (vp_Si (fun rr => rr = (zb (zalarmAt M h 4 = true)))) 0 0 (fun _ => False) := by
  refine z_met (by decide) (Nat.le_of_ble_eq_true rfl) ?_
  intro pg e s m below meth c hx hb hml hr hts hown hlk hnm hB ls hl
  obtain ⟨hP, hK⟩ := hB
  have hl : lv_has ls 3 [(0, .ref rb), (1, .int (nI h))] := hl
  refine lv_iconst (v := 0) hx hb zd_M_alarming_0 (by decide) ?_
  refine lv_istore_n hx hb zd_M_alarming_1 rfl hl (by decide) rfl (fun ls hl => ?_)
  have hl : lv_has ls 3 [(2, .int 0), (0, .ref rb), (1, .int (nI h))] := hl
  have L2 : ∀ (j k : Nat), k + j = 4 → zalarmAt M h k = false → ∀ (ls : Array Slot), lv_has ls 3 [(0, .ref rb), (1, .int (nI h)), (2, .int (nI k))] → W pg l e ({ frames := 0, cells := 0, slots := 0, locals := 0 }) s m (List.toArray [.ref rb, .int (nI h)]) below meth c s.heap [] 0 0 (MQ below (vp_Si (fun rr => rr = (zb (zalarmAt M h 4 = true)))) (List.toArray [.ref rb, .int (nI h)]) s 0 0 (fun _ => False)) (F0 m 2 ls []) := by
    intro j
    induction j with
    | zero =>
      intro k hk hf ls hl
      have hk : k = 4 := by omega
      subst hk
      refine lv_iload_n hx hb zd_M_alarming_2 rfl (lv_at hl 2 rfl) ?_
      refine lv_iconst (v := 4) hx hb zd_M_alarming_3 (by decide) ?_
      refine lv_icmp_ge (tgt := 73) hx hb zd_M_alarming_4 (by decide) (fun h4 => ?_) (fun h4 => absurd (by decide) h4)
      refine lv_iconst (v := 0) hx hb zd_M_alarming_73 (by decide) ?_
      exact zS_zret hx hb hr hlk rfl rfl rfl (by simp [zb, hf]) zd_M_alarming_74
    | succ j ih =>
      intro k hk hf ls hl
      refine lv_iload_n hx hb zd_M_alarming_2 rfl (lv_at hl 2 rfl) ?_
      refine lv_iconst (v := 4) hx hb zd_M_alarming_3 (by decide) ?_
      refine lv_icmp_ge (tgt := 73) hx hb zd_M_alarming_4 (by decide) (fun h4 => absurd h4 (nI_ge (b := 4) (by omega) (by decide))) (fun h4 => ?_)
      refine lv_aload_n hx hb zd_M_alarming_7 rfl (lv_at hl 0 rfl) ?_
      refine zR_get 2 (by decide) hx hb hts hown hK hP (zl_M_13 hts) rfl rfl zd_M_alarming_8 ?_
      refine lv_iload_n hx hb zd_M_alarming_11 rfl (lv_at hl 1 rfl) ?_
      refine zR_zld 2 (by decide) (j := h) hx hb hK hP rfl (show h < 3 from by omega) zd_M_alarming_12 ?_
      refine lv_if_eq (tgt := 67) hx hb zd_M_alarming_13 (by decide) (fun h13 => ?_) (fun h13 => ?_)
      · refine lv_iinc (v := nI (k + 1)) (k := 2) hx hb zd_M_alarming_67 hl rfl (nI_1 _) (by decide) rfl (fun ls hl => ?_)
        have hl : lv_has ls 3 [(2, .int (nI (k + 1))), (0, .ref rb), (1, .int (nI h))] := hl
        refine lv_goto (tgt := 2) hx hb zd_M_alarming_70 (by decide) ?_
        exact ih (k + 1) (by omega) (by simp [zalarmAt, hf, h13]) ls (lv_sub hl [1, 2, 0] rfl)
      · refine lv_aload_n hx hb zd_M_alarming_16 rfl (lv_at hl 0 rfl) ?_
        refine zR_get 28 (by decide) hx hb hts hown hK hP (zl_M_92 hts) rfl rfl zd_M_alarming_17 ?_
        refine lv_iload_n hx hb zd_M_alarming_20 rfl (lv_at hl 2 rfl) ?_
        refine zR_zld 28 (by decide) (j := k) hx hb hK hP rfl (show k < 4 from by omega) zd_M_alarming_21 ?_
        refine lv_if_eq (tgt := 67) hx hb zd_M_alarming_22 (by decide) (fun h22 => ?_) (fun h22 => ?_)
        · refine lv_iinc (v := nI (k + 1)) (k := 2) hx hb zd_M_alarming_67 hl rfl (nI_1 _) (by decide) rfl (fun ls hl => ?_)
          have hl : lv_has ls 3 [(2, .int (nI (k + 1))), (0, .ref rb), (1, .int (nI h))] := hl
          refine lv_goto (tgt := 2) hx hb zd_M_alarming_70 (by decide) ?_
          exact ih (k + 1) (by omega) (by simp [zalarmAt, hf, h13, h22]) ls (lv_sub hl [1, 2, 0] rfl)
        · refine lv_aload_n hx hb zd_M_alarming_25 rfl (lv_at hl 0 rfl) ?_
          refine zR_get 1 (by decide) hx hb hts hown hK hP (zl_M_7 hts) rfl rfl zd_M_alarming_26 ?_
          refine lv_iload_n hx hb zd_M_alarming_29 rfl (lv_at hl 2 rfl) ?_
          refine zR_ld 1 (by decide) (j := k) hx hb hK hP rfl (show k < 4 from by omega) zd_M_alarming_30 ?_
          refine lv_iload_n hx hb zd_M_alarming_31 rfl (lv_at hl 1 rfl) ?_
          refine lv_icmp_ne (tgt := 67) hx hb zd_M_alarming_32 (by decide) (fun h32 => ?_) (fun h32 => ?_)
          · refine lv_iinc (v := nI (k + 1)) (k := 2) hx hb zd_M_alarming_67 hl rfl (nI_1 _) (by decide) rfl (fun ls hl => ?_)
            have hl : lv_has ls 3 [(2, .int (nI (k + 1))), (0, .ref rb), (1, .int (nI h))] := hl
            refine lv_goto (tgt := 2) hx hb zd_M_alarming_70 (by decide) ?_
            exact ih (k + 1) (by omega) (by simp [zalarmAt, hf, h13, h22, h32]) ls (lv_sub hl [1, 2, 0] rfl)
          · refine lv_aload_n hx hb zd_M_alarming_35 rfl (lv_at hl 0 rfl) ?_
            refine zR_get 3 (by decide) hx hb hts hown hK hP (zl_M_17 hts) rfl rfl zd_M_alarming_36 ?_
            refine lv_iload_n hx hb zd_M_alarming_39 rfl (lv_at hl 1 rfl) ?_
            refine zR_ld 3 (by decide) (j := h) hx hb hK hP rfl (show h < 3 from by omega) zd_M_alarming_40 ?_
            refine lv_aload_n hx hb zd_M_alarming_41 rfl (lv_at hl 0 rfl) ?_
            refine zR_get 29 (by decide) hx hb hts hown hK hP (zl_M_95 hts) rfl rfl zd_M_alarming_42 ?_
            refine lv_iload_n hx hb zd_M_alarming_45 rfl (lv_at hl 2 rfl) ?_
            refine zR_ld 29 (by decide) (j := k) hx hb hK hP rfl (show k < 4 from by omega) zd_M_alarming_46 ?_
            refine lv_icmp_lt (tgt := 65) hx hb zd_M_alarming_47 (by decide) (fun h47 => ?_) (fun h47 => ?_)
            · refine lv_iconst (v := 1) hx hb zd_M_alarming_65 (by decide) ?_
              exact zS_zret hx hb hr hlk rfl rfl rfl (zb_t (zalarmAt_4 (k := k) (by simp [zalarmAt, h4, h13, h22, h32, h47]) (by omega))).symm zd_M_alarming_66
            · refine lv_aload_n hx hb zd_M_alarming_50 rfl (lv_at hl 0 rfl) ?_
              refine zR_get 3 (by decide) hx hb hts hown hK hP (zl_M_17 hts) rfl rfl zd_M_alarming_51 ?_
              refine lv_iload_n hx hb zd_M_alarming_54 rfl (lv_at hl 1 rfl) ?_
              refine zR_ld 3 (by decide) (j := h) hx hb hK hP rfl (show h < 3 from by omega) zd_M_alarming_55 ?_
              refine lv_aload_n hx hb zd_M_alarming_56 rfl (lv_at hl 0 rfl) ?_
              refine zR_get 30 (by decide) hx hb hts hown hK hP (zl_M_98 hts) rfl rfl zd_M_alarming_57 ?_
              refine lv_iload_n hx hb zd_M_alarming_60 rfl (lv_at hl 2 rfl) ?_
              refine zR_ld 30 (by decide) (j := k) hx hb hK hP rfl (show k < 4 from by omega) zd_M_alarming_61 ?_
              refine lv_icmp_le (tgt := 67) hx hb zd_M_alarming_62 (by decide) (fun h62 => ?_) (fun h62 => ?_)
              · have h62 := Int32.not_lt.mpr h62
                refine lv_iinc (v := nI (k + 1)) (k := 2) hx hb zd_M_alarming_67 hl rfl (nI_1 _) (by decide) rfl (fun ls hl => ?_)
                have hl : lv_has ls 3 [(2, .int (nI (k + 1))), (0, .ref rb), (1, .int (nI h))] := hl
                refine lv_goto (tgt := 2) hx hb zd_M_alarming_70 (by decide) ?_
                exact ih (k + 1) (by omega) (by simp [zalarmAt, hf, h13, h22, h32, h47, h62]) ls (lv_sub hl [1, 2, 0] rfl)
              · have h62 := Int32.not_le.mp h62
                refine lv_iconst (v := 1) hx hb zd_M_alarming_65 (by decide) ?_
                exact zS_zret hx hb hr hlk rfl rfl rfl (zb_t (zalarmAt_4 (k := k) (by simp [zalarmAt, h4, h13, h22, h32, h47, h62]) (by omega))).symm zd_M_alarming_66
  exact L2 4 0 (by omega) rfl _ (lv_sub hl [1, 2, 0] rfl)
set_option maxRecDepth 100000 in
set_option maxHeartbeats 4000000 in
theorem zm_alarm (l : Launch) (D : va_G) (ka : Nat → ClassId) (rb : Nat) (M : zM) (i0 : Int32) : Met l zy_M_alarm (.code zy_M_alarm zc_M_alarm 4 (some .int) :: zAll) ({ frames := 1, cells := 0, slots := 0, locals := 22 }) (va_Pc [.ref rb, .int i0] (zRW D ka rb M)) (vp_Si (fun rr => rr = (zf_alarm M i0))) 0 0 (fun _ => False) := by
  refine z_met (by decide) (Nat.le_of_ble_eq_true rfl) ?_
  intro pg e s m below meth c hx hb hml hr hts hown hlk hnm hB ls hl
  obtain ⟨hP, hK⟩ := hB
  have hl : lv_has ls 4 [(0, .ref rb), (1, .int i0)] := hl
  refine lv_iconst (v := 0) hx hb zd_M_alarm_0 (by decide) ?_
  refine lv_istore_n hx hb zd_M_alarm_1 rfl hl (by decide) rfl (fun ls hl => ?_)
  have hl : lv_has ls 4 [(2, .int 0), (0, .ref rb), (1, .int i0)] := hl
  refine lv_iconst (v := 0) hx hb zd_M_alarm_2 (by decide) ?_
  refine lv_istore_n hx hb zd_M_alarm_3 rfl hl (by decide) rfl (fun ls hl => ?_)
  have hl : lv_has ls 4 [(3, .int 0), (2, .int 0), (0, .ref rb), (1, .int i0)] := hl
  have L4 : ∀ (j k : Nat), k + j = 3 → ∀ n : Int32, zalarm M i0 j n k = zf_alarm M i0 → ∀ (ls : Array Slot), lv_has ls 4 [(0, .ref rb), (1, .int i0), (2, .int n), (3, .int (nI k))] → W pg l e ({ frames := 1, cells := 0, slots := 0, locals := 22 }) s m (List.toArray [.ref rb, .int i0]) below meth c s.heap [] 0 0 (MQ below (vp_Si (fun rr => rr = (zf_alarm M i0))) (List.toArray [.ref rb, .int i0]) s 0 0 (fun _ => False)) (F0 m 4 ls []) := by
    intro j
    induction j with
    | zero =>
      intro k hk n hn ls hl
      have hk : k = 3 := by omega
      subst hk
      refine lv_iload_n hx hb zd_M_alarm_4 rfl (lv_at hl 3 rfl) ?_
      refine lv_iconst (v := 3) hx hb zd_M_alarm_5 (by decide) ?_
      refine lv_icmp_ge (tgt := 33) hx hb zd_M_alarm_6 (by decide) (fun h6 => ?_) (fun h6 => absurd (by decide) h6)
      refine lv_iconst (v := -1) hx hb zd_M_alarm_33 (by decide) ?_
      exact zS_iret hx hb hr hlk rfl rfl (by rw [← hn, zalarm]) zd_M_alarm_34
    | succ j ih =>
      intro k hk n hn ls hl
      refine lv_iload_n hx hb zd_M_alarm_4 rfl (lv_at hl 3 rfl) ?_
      refine lv_iconst (v := 3) hx hb zd_M_alarm_5 (by decide) ?_
      refine lv_icmp_ge (tgt := 33) hx hb zd_M_alarm_6 (by decide) (fun h6 => absurd h6 (nI_ge (b := 3) (by omega) (by decide))) (fun h6 => ?_)
      refine lv_aload_n hx hb zd_M_alarm_9 rfl (lv_at hl 0 rfl) ?_
      refine lv_iload_n hx hb zd_M_alarm_10 rfl (lv_at hl 3 rfl) ?_
      refine zR_calls (nA := 1) (As := [.int (nI k)]) (rest := []) (zm_alarming l D ka rb M k (by omega)) (zg_M_alarming zk_M_199) rfl (by decide) ⟨rfl, rfl⟩ ⟨Nat.le_of_ble_eq_true rfl, Nat.le_of_ble_eq_true rfl⟩ hx hb hml hts hown hK hP hl.1 rfl rfl (Nat.le_of_ble_eq_true rfl) ⟨Nat.zero_le _, Nat.zero_le _⟩ zd_M_alarm_11 ?_
      refine lv_if_eq (tgt := 27) hx hb zd_M_alarm_14 (by decide) (fun h14 => ?_) (fun h14 => ?_)
      · have c14 := zb_0 h14
        refine lv_iinc (v := nI (k + 1)) (k := 3) hx hb zd_M_alarm_27 hl rfl (nI_1 _) (by decide) rfl (fun ls hl => ?_)
        have hl : lv_has ls 4 [(3, .int (nI (k + 1))), (0, .ref rb), (1, .int i0), (2, .int n)] := hl
        refine lv_goto (tgt := 4) hx hb zd_M_alarm_30 (by decide) ?_
        exact ih (k + 1) (by omega) _ (by rw [← hn, zalarm]; first | rw [if_neg c14] | rw [if_pos c14, if_neg h19]) ls (lv_sub hl [1, 2, 3, 0] rfl)
      · have c14 := zb_1 h14
        refine lv_iload_n hx hb zd_M_alarm_17 rfl (lv_at hl 2 rfl) ?_
        refine lv_iload_n hx hb zd_M_alarm_18 rfl (lv_at hl 1 rfl) ?_
        refine lv_icmp_ne (tgt := 24) hx hb zd_M_alarm_19 (by decide) (fun h19 => ?_) (fun h19 => ?_)
        · refine lv_iinc (v := n + 1) (k := 2) hx hb zd_M_alarm_24 hl rfl rfl (by decide) rfl (fun ls hl => ?_)
          have hl : lv_has ls 4 [(2, .int (n + 1)), (0, .ref rb), (1, .int i0), (3, .int (nI k))] := hl
          refine lv_iinc (v := nI (k + 1)) (k := 3) hx hb zd_M_alarm_27 hl rfl (nI_1 _) (by decide) rfl (fun ls hl => ?_)
          have hl : lv_has ls 4 [(3, .int (nI (k + 1))), (2, .int (n + 1)), (0, .ref rb), (1, .int i0)] := hl
          refine lv_goto (tgt := 4) hx hb zd_M_alarm_30 (by decide) ?_
          exact ih (k + 1) (by omega) _ (by rw [← hn, zalarm]; first | rw [if_neg c14] | rw [if_pos c14, if_neg h19]) ls (lv_sub hl [2, 3, 1, 0] rfl)
        · refine lv_iload_n hx hb zd_M_alarm_22 rfl (lv_at hl 3 rfl) ?_
          exact zS_iret hx hb hr hlk rfl rfl (by rw [← hn, zalarm, if_pos c14, if_pos h19]) zd_M_alarm_23
  exact L4 3 0 (by omega) 0 rfl _ (lv_sub hl [2, 3, 1, 0] rfl)
