set_option maxRecDepth 100000 in
set_option maxHeartbeats 4000000 in
theorem zm_below (l : Launch) (x0 e0 : Int32) : Met l zy_M_below (.code zy_M_below zc_M_below 2 (some .boolean) :: zAll) ({ frames := 0, cells := 0, slots := 0, locals := 0 }) (va_Pc [.int x0, .int e0] (fun _ => True)) (vp_Si (fun r => r = (zb (zbl x0 e0)))) 0 0 (fun _ => False) := by
  refine z_met (by decide) (Nat.le_of_ble_eq_true rfl) ?_
  intro pg e s m below meth c hx hb hml hr hts hown hlk hnm hB ls hl
  have hl : lv_has ls 2 [(0, .int x0), (1, .int e0)] := hl
  refine lv_iload_n hx hb zd_M_below_0 rfl (lv_at hl 0 rfl) ?_
  refine lv_if_lt (tgt := 13) hx hb zd_M_below_1 (by decide) (fun h1 => ?_) (fun h1 => ?_)
  · refine lv_iconst (v := 0) hx hb zd_M_below_13 (by decide) ?_
    exact zS_zret hx hb hr hlk rfl rfl rfl (by simp [zb, zbl, h1]) zd_M_below_14
  · refine lv_iload_n hx hb zd_M_below_4 rfl (lv_at hl 0 rfl) ?_
    refine lv_iload_n hx hb zd_M_below_5 rfl (lv_at hl 1 rfl) ?_
    refine lv_icmp_ge (tgt := 13) hx hb zd_M_below_6 (by decide) (fun h6 => ?_) (fun h6 => ?_)
    · refine lv_iconst (v := 0) hx hb zd_M_below_13 (by decide) ?_
      exact zS_zret hx hb hr hlk rfl rfl rfl (by simp [zb, zbl, h1, h6]) zd_M_below_14
    · refine lv_iconst (v := 1) hx hb zd_M_below_9 (by decide) ?_
      refine lv_goto (tgt := 14) hx hb zd_M_below_10 (by decide) ?_
      exact zS_zret hx hb hr hlk rfl rfl rfl (by simp [zb, zbl, h1, h6]) zd_M_below_14
set_option maxRecDepth 100000 in
set_option maxHeartbeats 4000000 in
theorem zm_letters (l : Launch) (D : va_G) (ka : Nat → ClassId) (rb : Nat) (M : zM) : Met l zy_M_letters (.code zy_M_letters zc_M_letters 1 (some .int) :: zAll) ({ frames := 0, cells := 0, slots := 0, locals := 0 }) (va_Pc [.ref rb] (zRW D ka rb M)) (vp_Si (fun r => r = (M 0 1))) 0 0 (fun _ => False) := by
  refine z_met (by decide) (Nat.le_of_ble_eq_true rfl) ?_
  intro pg e s m below meth c hx hb hml hr hts hown hlk hnm hB ls hl
  obtain ⟨hP, hK⟩ := hB
  have hl : lv_has ls 1 [(0, .ref rb)] := hl
  refine lv_aload_n hx hb zd_M_letters_0 rfl (lv_at hl 0 rfl) ?_
  refine zR_get 31 (by decide) hx hb hts hown hK hP (zl_M_133 hts) rfl rfl zd_M_letters_1 ?_
  exact zS_iret hx hb hr hlk rfl rfl rfl zd_M_letters_4
set_option maxRecDepth 100000 in
set_option maxHeartbeats 4000000 in
theorem zm_hall (l : Launch) (D : va_G) (ka : Nat → ClassId) (rb : Nat) (M : zM) (p0 h0 : Int32) : Met l zy_M_hall (.code zy_M_hall zc_M_hall 3 (some .boolean) :: zAll) ({ frames := 1, cells := 0, slots := 0, locals := 21 }) (va_Pc [.ref rb, .int p0, .int h0] (zRW D ka rb M)) (zRQi D ka rb (zf_hall M p0 h0) (zg_hall M p0 h0)) 0 0 (zRA rb) := by
  refine z_met (by decide) (Nat.le_of_ble_eq_true rfl) ?_
  intro pg e s m below meth c hx hb hml hr hts hown hlk hnm hB ls hl
  obtain ⟨hP, hK⟩ := hB
  have hS : va_S (zRA rb) s.heap s.heap [] := va_S.rf
  have hl : lv_has ls 3 [(0, .ref rb), (1, .int p0), (2, .int h0)] := hl
  refine lv_iload_n hx hb zd_M_hall_0 rfl (lv_at hl 1 rfl) ?_
  refine lv_iconst (v := 4) hx hb zd_M_hall_1 (by decide) ?_
  refine z_callst (nA := 2) (As := [.int p0, .int 4]) (rest := []) (zm_below l p0 4) (zg_M_below zk_M_129) rfl (by decide) ⟨rfl, rfl⟩ ⟨Nat.le_of_ble_eq_true rfl, Nat.le_of_ble_eq_true rfl⟩ hx hb hml hts hown hl.1 rfl rfl (Nat.le_of_ble_eq_true rfl) ⟨Nat.zero_le _, Nat.zero_le _⟩ zd_M_hall_2 ?_
  refine lv_if_eq (tgt := 16) hx hb zd_M_hall_5 (by decide) (fun h5 => ?_) (fun h5 => ?_)
  · have c5 := zb_0 h5
    refine lv_iconst (v := 0) hx hb zd_M_hall_16 (by decide) ?_
    exact zR_zret hx hb hr hlk hK hP hS rfl (by simp [zf_hall, zg_hall, zb, c5]) (by simp [zf_hall, zg_hall, zb, c5]) zd_M_hall_17
  · have c5 := zb_1 h5
    obtain ⟨p, h_p, rfl⟩ := zbl_of (n := 4) (by decide) c5
    have z_p : zix (nI p) = p := zix_n (by omega)
    refine lv_iload_n hx hb zd_M_hall_8 rfl (lv_at hl 2 rfl) ?_
    refine lv_iconst (v := 3) hx hb zd_M_hall_9 (by decide) ?_
    refine z_callst (nA := 2) (As := [.int h0, .int 3]) (rest := []) (zm_below l h0 3) (zg_M_below zk_M_129) rfl (by decide) ⟨rfl, rfl⟩ ⟨Nat.le_of_ble_eq_true rfl, Nat.le_of_ble_eq_true rfl⟩ hx hb hml hts hown hl.1 rfl rfl (Nat.le_of_ble_eq_true rfl) ⟨Nat.zero_le _, Nat.zero_le _⟩ zd_M_hall_10 ?_
    refine lv_if_ne (tgt := 18) hx hb zd_M_hall_13 (by decide) (fun h13 => ?_) (fun h13 => ?_)
    · have c13 := zb_1 h13
      obtain ⟨h, h_h, rfl⟩ := zbl_of (n := 3) (by decide) c13
      have z_h : zix (nI h) = h := zix_n (by omega)
      refine lv_aload_n hx hb zd_M_hall_18 rfl (lv_at hl 0 rfl) ?_
      refine zR_get 1 (by decide) hx hb hts hown hK hP (zl_M_7 hts) rfl rfl zd_M_hall_19 ?_
      refine lv_iload_n hx hb zd_M_hall_22 rfl (lv_at hl 1 rfl) ?_
      refine lv_iload_n hx hb zd_M_hall_23 rfl (lv_at hl 2 rfl) ?_
      refine zR_sto 1 (by decide) (j := p) hx hb hK hP hS rfl (show p < 4 from by omega) zd_M_hall_24 (fun H locs hP hS => ?_)
      refine lv_iconst (v := 1) hx hb zd_M_hall_25 (by decide) ?_
      exact zR_zret hx hb hr hlk hK hP hS rfl (by simp [zf_hall, zg_hall, zb, c5, z_p, c13, z_h]) (by simp [zf_hall, zg_hall, zb, c5, z_p, c13, z_h]) zd_M_hall_26
    · have c13 := zb_0 h13
      refine lv_iconst (v := 0) hx hb zd_M_hall_16 (by decide) ?_
      exact zR_zret hx hb hr hlk hK hP hS rfl (by simp [zf_hall, zg_hall, zb, c5, z_p, c13]) (by simp [zf_hall, zg_hall, zb, c5, z_p, c13]) zd_M_hall_17
set_option maxRecDepth 100000 in
set_option maxHeartbeats 4000000 in
theorem zm_send (l : Launch) (D : va_G) (ka : Nat → ClassId) (rb : Nat) (M : zM) (hL : zLt M) (w0 r0 p0 d0 n0 lo hi : Int32) : Met l zy_M_send (.code zy_M_send zc_M_send 8 none :: zAll) ({ frames := 0, cells := 0, slots := 0, locals := 0 }) (va_Pc [.ref rb, .int w0, .int r0, .int p0, .int d0, .int n0, .int lo, .int hi] (zRW D ka rb M)) (zRQv D ka rb (zsend M w0 r0 p0 d0 n0 lo hi)) 0 0 (zRA rb) := by
  refine z_met (by decide) (Nat.le_of_ble_eq_true rfl) ?_
  intro pg e s m below meth c hx hb hml hr hts hown hlk hnm hB ls hl
  obtain ⟨hP, hK⟩ := hB
  have hS : va_S (zRA rb) s.heap s.heap [] := va_S.rf
  have hl : lv_has ls 8 [(0, .ref rb), (1, .int w0), (2, .int r0), (3, .int p0), (4, .int d0), (5, .int n0), (6, .int lo), (7, .int hi)] := hl
  obtain ⟨n, hn1, hn⟩ := hL
  refine lv_aload_n hx hb zd_M_send_0 rfl (lv_at hl 0 rfl) ?_
  refine zR_get 31 (by decide) hx hb hts hown hK hP (zl_M_133 hts) rfl rfl zd_M_send_1 ?_
  refine lv_sipush (v := 300) hx hb zd_M_send_4 (by decide) ?_
  refine lv_icmp_ne (tgt := 11) hx hb zd_M_send_7 (by decide) (fun h7 => ?_) (fun h7 => ?_)
  · refine lv_aload_n hx hb zd_M_send_11 rfl (lv_at hl 0 rfl) ?_
    refine zR_get 32 (by decide) hx hb hts hown hK hP (zl_M_101 hts) rfl rfl zd_M_send_12 ?_
    refine lv_aload_n hx hb zd_M_send_15 rfl (lv_at hl 0 rfl) ?_
    refine zR_get 31 (by decide) hx hb hts hown hK hP (zl_M_133 hts) rfl rfl zd_M_send_16 ?_
    refine lv_iload_n hx hb zd_M_send_19 rfl (lv_at hl 1 rfl) ?_
    refine zR_sto 31 (by decide) (j := n) hx hb hK hP hS hn (show n < 301 from by omega) zd_M_send_20 (fun H locs hP hS => ?_)
    refine lv_aload_n hx hb zd_M_send_21 rfl (lv_at hl 0 rfl) ?_
    refine zR_get 33 (by decide) hx hb hts hown hK hP (zl_M_104 hts) rfl rfl zd_M_send_22 ?_
    refine lv_aload_n hx hb zd_M_send_25 rfl (lv_at hl 0 rfl) ?_
    refine zR_get 31 (by decide) hx hb hts hown hK hP (zl_M_133 hts) rfl rfl zd_M_send_26 ?_
    refine lv_iload_n hx hb zd_M_send_29 rfl (lv_at hl 2 rfl) ?_
    refine zR_sto 32 (by decide) (j := n) hx hb hK hP hS hn (show n < 301 from by omega) zd_M_send_30 (fun H locs hP hS => ?_)
    refine lv_aload_n hx hb zd_M_send_31 rfl (lv_at hl 0 rfl) ?_
    refine zR_get 34 (by decide) hx hb hts hown hK hP (zl_M_107 hts) rfl rfl zd_M_send_32 ?_
    refine lv_aload_n hx hb zd_M_send_35 rfl (lv_at hl 0 rfl) ?_
    refine zR_get 31 (by decide) hx hb hts hown hK hP (zl_M_133 hts) rfl rfl zd_M_send_36 ?_
    refine lv_iload_n hx hb zd_M_send_39 rfl (lv_at hl 3 rfl) ?_
    refine zR_sto 33 (by decide) (j := n) hx hb hK hP hS hn (show n < 301 from by omega) zd_M_send_40 (fun H locs hP hS => ?_)
    refine lv_aload_n hx hb zd_M_send_41 rfl (lv_at hl 0 rfl) ?_
    refine zR_get 35 (by decide) hx hb hts hown hK hP (zl_M_110 hts) rfl rfl zd_M_send_42 ?_
    refine lv_aload_n hx hb zd_M_send_45 rfl (lv_at hl 0 rfl) ?_
    refine zR_get 31 (by decide) hx hb hts hown hK hP (zl_M_133 hts) rfl rfl zd_M_send_46 ?_
    refine lv_iload hx hb zd_M_send_49 (lv_at hl 4 rfl) ?_
    refine zR_sto 34 (by decide) (j := n) hx hb hK hP hS hn (show n < 301 from by omega) zd_M_send_51 (fun H locs hP hS => ?_)
    refine lv_aload_n hx hb zd_M_send_52 rfl (lv_at hl 0 rfl) ?_
    refine zR_get 36 (by decide) hx hb hts hown hK hP (zl_M_113 hts) rfl rfl zd_M_send_53 ?_
    refine lv_aload_n hx hb zd_M_send_56 rfl (lv_at hl 0 rfl) ?_
    refine zR_get 31 (by decide) hx hb hts hown hK hP (zl_M_133 hts) rfl rfl zd_M_send_57 ?_
    refine lv_iload hx hb zd_M_send_60 (lv_at hl 5 rfl) ?_
    refine zR_sto 35 (by decide) (j := n) hx hb hK hP hS hn (show n < 301 from by omega) zd_M_send_62 (fun H locs hP hS => ?_)
    refine lv_aload_n hx hb zd_M_send_63 rfl (lv_at hl 0 rfl) ?_
    refine zR_get 37 (by decide) hx hb hts hown hK hP (zl_M_116 hts) rfl rfl zd_M_send_64 ?_
    refine lv_aload_n hx hb zd_M_send_67 rfl (lv_at hl 0 rfl) ?_
    refine zR_get 31 (by decide) hx hb hts hown hK hP (zl_M_133 hts) rfl rfl zd_M_send_68 ?_
    refine lv_iload hx hb zd_M_send_71 (lv_at hl 5 rfl) ?_
    refine zR_sto 36 (by decide) (j := n) hx hb hK hP hS hn (show n < 301 from by omega) zd_M_send_73 (fun H locs hP hS => ?_)
    refine lv_aload_n hx hb zd_M_send_74 rfl (lv_at hl 0 rfl) ?_
    refine zR_get 38 (by decide) hx hb hts hown hK hP (zl_M_119 hts) rfl rfl zd_M_send_75 ?_
    refine lv_aload_n hx hb zd_M_send_78 rfl (lv_at hl 0 rfl) ?_
    refine zR_get 31 (by decide) hx hb hts hown hK hP (zl_M_133 hts) rfl rfl zd_M_send_79 ?_
    refine lv_iload hx hb zd_M_send_82 (lv_at hl 6 rfl) ?_
    refine zR_sto 37 (by decide) (j := n) hx hb hK hP hS hn (show n < 301 from by omega) zd_M_send_84 (fun H locs hP hS => ?_)
    refine lv_aload_n hx hb zd_M_send_85 rfl (lv_at hl 0 rfl) ?_
    refine zR_get 39 (by decide) hx hb hts hown hK hP (zl_M_122 hts) rfl rfl zd_M_send_86 ?_
    refine lv_aload_n hx hb zd_M_send_89 rfl (lv_at hl 0 rfl) ?_
    refine zR_get 31 (by decide) hx hb hts hown hK hP (zl_M_133 hts) rfl rfl zd_M_send_90 ?_
    refine lv_iload hx hb zd_M_send_93 (lv_at hl 7 rfl) ?_
    refine zR_sto 38 (by decide) (j := n) hx hb hK hP hS hn (show n < 301 from by omega) zd_M_send_95 (fun H locs hP hS => ?_)
    refine lv_aload_n hx hb zd_M_send_96 rfl (lv_at hl 0 rfl) ?_
    refine lv_dup hx hb zd_M_send_97 rfl ?_
    refine zR_get 31 (by decide) hx hb hts hown hK hP (zl_M_133 hts) rfl rfl zd_M_send_98 ?_
    refine lv_iconst (v := 1) hx hb zd_M_send_101 (by decide) ?_
    refine lv_iadd hx hb zd_M_send_102 ?_
    refine zR_putl hx hb hts hown hK hP hS (zl_M_133 hts) zd_M_send_103 (fun H locs hP hS => ?_)
    exact zR_vret hx hb hr hlk hK hP hS (zsend_n hn hn1 h7) zd_M_send_106
  · exact zR_vret hx hb hr hlk hK hP hS (zsend_full h7).symm zd_M_send_10
set_option maxRecDepth 100000 in
set_option maxHeartbeats 4000000 in
theorem zm_copyLetter (l : Launch) (D : va_G) (ka : Nat → ClassId) (rb : Nat) (M : zM) (a b : Nat) (ha : a < 301) (hb0 : b < 301) : Met l zy_M_copyLetter (.code zy_M_copyLetter zc_M_copyLetter 3 none :: zAll) ({ frames := 0, cells := 0, slots := 0, locals := 0 }) (va_Pc [.ref rb, .int (nI a), .int (nI b)] (zRW D ka rb M)) (zRQv D ka rb (zcopy M a b)) 0 0 (zRA rb) := by
  refine z_met (by decide) (Nat.le_of_ble_eq_true rfl) ?_
  intro pg e s m below meth c hx hb hml hr hts hown hlk hnm hB ls hl
  obtain ⟨hP, hK⟩ := hB
  have hS : va_S (zRA rb) s.heap s.heap [] := va_S.rf
  have hl : lv_has ls 3 [(0, .ref rb), (1, .int (nI a)), (2, .int (nI b))] := hl
  refine lv_aload_n hx hb zd_M_copyLetter_0 rfl (lv_at hl 0 rfl) ?_
  refine zR_get 32 (by decide) hx hb hts hown hK hP (zl_M_101 hts) rfl rfl zd_M_copyLetter_1 ?_
  refine lv_iload_n hx hb zd_M_copyLetter_4 rfl (lv_at hl 2 rfl) ?_
  refine lv_aload_n hx hb zd_M_copyLetter_5 rfl (lv_at hl 0 rfl) ?_
  refine zR_get 32 (by decide) hx hb hts hown hK hP (zl_M_101 hts) rfl rfl zd_M_copyLetter_6 ?_
  refine lv_iload_n hx hb zd_M_copyLetter_9 rfl (lv_at hl 1 rfl) ?_
  refine zR_ld 31 (by decide) (j := a) hx hb hK hP rfl (show a < 301 from by omega) zd_M_copyLetter_10 ?_
  refine zR_sto 31 (by decide) (j := b) hx hb hK hP hS rfl (show b < 301 from by omega) zd_M_copyLetter_11 (fun H locs hP hS => ?_)
  refine lv_aload_n hx hb zd_M_copyLetter_12 rfl (lv_at hl 0 rfl) ?_
  refine zR_get 33 (by decide) hx hb hts hown hK hP (zl_M_104 hts) rfl rfl zd_M_copyLetter_13 ?_
  refine lv_iload_n hx hb zd_M_copyLetter_16 rfl (lv_at hl 2 rfl) ?_
  refine lv_aload_n hx hb zd_M_copyLetter_17 rfl (lv_at hl 0 rfl) ?_
  refine zR_get 33 (by decide) hx hb hts hown hK hP (zl_M_104 hts) rfl rfl zd_M_copyLetter_18 ?_
  refine lv_iload_n hx hb zd_M_copyLetter_21 rfl (lv_at hl 1 rfl) ?_
  refine zR_ld 32 (by decide) (j := a) hx hb hK hP rfl (show a < 301 from by omega) zd_M_copyLetter_22 ?_
  refine zR_sto 32 (by decide) (j := b) hx hb hK hP hS rfl (show b < 301 from by omega) zd_M_copyLetter_23 (fun H locs hP hS => ?_)
  refine lv_aload_n hx hb zd_M_copyLetter_24 rfl (lv_at hl 0 rfl) ?_
  refine zR_get 34 (by decide) hx hb hts hown hK hP (zl_M_107 hts) rfl rfl zd_M_copyLetter_25 ?_
  refine lv_iload_n hx hb zd_M_copyLetter_28 rfl (lv_at hl 2 rfl) ?_
  refine lv_aload_n hx hb zd_M_copyLetter_29 rfl (lv_at hl 0 rfl) ?_
  refine zR_get 34 (by decide) hx hb hts hown hK hP (zl_M_107 hts) rfl rfl zd_M_copyLetter_30 ?_
  refine lv_iload_n hx hb zd_M_copyLetter_33 rfl (lv_at hl 1 rfl) ?_
  refine zR_ld 33 (by decide) (j := a) hx hb hK hP rfl (show a < 301 from by omega) zd_M_copyLetter_34 ?_
  refine zR_sto 33 (by decide) (j := b) hx hb hK hP hS rfl (show b < 301 from by omega) zd_M_copyLetter_35 (fun H locs hP hS => ?_)
  refine lv_aload_n hx hb zd_M_copyLetter_36 rfl (lv_at hl 0 rfl) ?_
  refine zR_get 35 (by decide) hx hb hts hown hK hP (zl_M_110 hts) rfl rfl zd_M_copyLetter_37 ?_
  refine lv_iload_n hx hb zd_M_copyLetter_40 rfl (lv_at hl 2 rfl) ?_
  refine lv_aload_n hx hb zd_M_copyLetter_41 rfl (lv_at hl 0 rfl) ?_
  refine zR_get 35 (by decide) hx hb hts hown hK hP (zl_M_110 hts) rfl rfl zd_M_copyLetter_42 ?_
  refine lv_iload_n hx hb zd_M_copyLetter_45 rfl (lv_at hl 1 rfl) ?_
  refine zR_ld 34 (by decide) (j := a) hx hb hK hP rfl (show a < 301 from by omega) zd_M_copyLetter_46 ?_
  refine zR_sto 34 (by decide) (j := b) hx hb hK hP hS rfl (show b < 301 from by omega) zd_M_copyLetter_47 (fun H locs hP hS => ?_)
  refine lv_aload_n hx hb zd_M_copyLetter_48 rfl (lv_at hl 0 rfl) ?_
  refine zR_get 36 (by decide) hx hb hts hown hK hP (zl_M_113 hts) rfl rfl zd_M_copyLetter_49 ?_
  refine lv_iload_n hx hb zd_M_copyLetter_52 rfl (lv_at hl 2 rfl) ?_
  refine lv_aload_n hx hb zd_M_copyLetter_53 rfl (lv_at hl 0 rfl) ?_
  refine zR_get 36 (by decide) hx hb hts hown hK hP (zl_M_113 hts) rfl rfl zd_M_copyLetter_54 ?_
  refine lv_iload_n hx hb zd_M_copyLetter_57 rfl (lv_at hl 1 rfl) ?_
  refine zR_ld 35 (by decide) (j := a) hx hb hK hP rfl (show a < 301 from by omega) zd_M_copyLetter_58 ?_
  refine zR_sto 35 (by decide) (j := b) hx hb hK hP hS rfl (show b < 301 from by omega) zd_M_copyLetter_59 (fun H locs hP hS => ?_)
  refine lv_aload_n hx hb zd_M_copyLetter_60 rfl (lv_at hl 0 rfl) ?_
  refine zR_get 37 (by decide) hx hb hts hown hK hP (zl_M_116 hts) rfl rfl zd_M_copyLetter_61 ?_
  refine lv_iload_n hx hb zd_M_copyLetter_64 rfl (lv_at hl 2 rfl) ?_
  refine lv_aload_n hx hb zd_M_copyLetter_65 rfl (lv_at hl 0 rfl) ?_
  refine zR_get 37 (by decide) hx hb hts hown hK hP (zl_M_116 hts) rfl rfl zd_M_copyLetter_66 ?_
  refine lv_iload_n hx hb zd_M_copyLetter_69 rfl (lv_at hl 1 rfl) ?_
  refine zR_ld 36 (by decide) (j := a) hx hb hK hP rfl (show a < 301 from by omega) zd_M_copyLetter_70 ?_
  refine zR_sto 36 (by decide) (j := b) hx hb hK hP hS rfl (show b < 301 from by omega) zd_M_copyLetter_71 (fun H locs hP hS => ?_)
  refine lv_aload_n hx hb zd_M_copyLetter_72 rfl (lv_at hl 0 rfl) ?_
  refine zR_get 38 (by decide) hx hb hts hown hK hP (zl_M_119 hts) rfl rfl zd_M_copyLetter_73 ?_
  refine lv_iload_n hx hb zd_M_copyLetter_76 rfl (lv_at hl 2 rfl) ?_
  refine lv_aload_n hx hb zd_M_copyLetter_77 rfl (lv_at hl 0 rfl) ?_
  refine zR_get 38 (by decide) hx hb hts hown hK hP (zl_M_119 hts) rfl rfl zd_M_copyLetter_78 ?_
  refine lv_iload_n hx hb zd_M_copyLetter_81 rfl (lv_at hl 1 rfl) ?_
  refine zR_ld 37 (by decide) (j := a) hx hb hK hP rfl (show a < 301 from by omega) zd_M_copyLetter_82 ?_
  refine zR_sto 37 (by decide) (j := b) hx hb hK hP hS rfl (show b < 301 from by omega) zd_M_copyLetter_83 (fun H locs hP hS => ?_)
  refine lv_aload_n hx hb zd_M_copyLetter_84 rfl (lv_at hl 0 rfl) ?_
  refine zR_get 39 (by decide) hx hb hts hown hK hP (zl_M_122 hts) rfl rfl zd_M_copyLetter_85 ?_
  refine lv_iload_n hx hb zd_M_copyLetter_88 rfl (lv_at hl 2 rfl) ?_
  refine lv_aload_n hx hb zd_M_copyLetter_89 rfl (lv_at hl 0 rfl) ?_
  refine zR_get 39 (by decide) hx hb hts hown hK hP (zl_M_122 hts) rfl rfl zd_M_copyLetter_90 ?_
  refine lv_iload_n hx hb zd_M_copyLetter_93 rfl (lv_at hl 1 rfl) ?_
  refine zR_ld 38 (by decide) (j := a) hx hb hK hP rfl (show a < 301 from by omega) zd_M_copyLetter_94 ?_
  refine zR_sto 38 (by decide) (j := b) hx hb hK hP hS rfl (show b < 301 from by omega) zd_M_copyLetter_95 (fun H locs hP hS => ?_)
  exact zR_vret hx hb hr hlk hK hP hS rfl zd_M_copyLetter_96
set_option maxRecDepth 100000 in
set_option maxHeartbeats 4000000 in
theorem zm_storeTo (l : Launch) (D : va_G) (ka : Nat → ClassId) (rb : Nat) (M : zM) (hL : zLt M) (p : Nat) (hp : p < 4) (r0 : Int32) : Met l zy_M_storeTo (.code zy_M_storeTo zc_M_storeTo 3 none :: zAll) ({ frames := 1, cells := 0, slots := 0, locals := 27 }) (va_Pc [.ref rb, .int (nI p), .int r0] (zRW D ka rb M)) (zRQv D ka rb (zstoreTo M p r0)) 0 0 (zRA rb) := by
  refine z_met (by decide) (Nat.le_of_ble_eq_true rfl) ?_
  intro pg e s m below meth c hx hb hml hr hts hown hlk hnm hB ls hl
  obtain ⟨hP, hK⟩ := hB
  have hS : va_S (zRA rb) s.heap s.heap [] := va_S.rf
  have hl : lv_has ls 3 [(0, .ref rb), (1, .int (nI p)), (2, .int r0)] := hl
  refine lv_aload_n hx hb zd_M_storeTo_0 rfl (lv_at hl 0 rfl) ?_
  refine lv_iconst (v := 1) hx hb zd_M_storeTo_1 (by decide) ?_
  refine lv_iload_n hx hb zd_M_storeTo_2 rfl (lv_at hl 2 rfl) ?_
  refine lv_iload_n hx hb zd_M_storeTo_3 rfl (lv_at hl 1 rfl) ?_
  refine lv_iconst (v := -1) hx hb zd_M_storeTo_4 (by decide) ?_
  refine lv_aload_n hx hb zd_M_storeTo_5 rfl (lv_at hl 0 rfl) ?_
  refine zR_get 9 (by decide) hx hb hts hown hK hP (zl_M_35 hts) rfl rfl zd_M_storeTo_6 ?_
  refine lv_iload_n hx hb zd_M_storeTo_9 rfl (lv_at hl 1 rfl) ?_
  refine zR_ld 9 (by decide) (j := p) hx hb hK hP rfl (show p < 4 from by omega) zd_M_storeTo_10 ?_
  refine lv_aload_n hx hb zd_M_storeTo_11 rfl (lv_at hl 0 rfl) ?_
  refine zR_get 10 (by decide) hx hb hts hown hK hP (zl_M_38 hts) rfl rfl zd_M_storeTo_12 ?_
  refine lv_iload_n hx hb zd_M_storeTo_15 rfl (lv_at hl 1 rfl) ?_
  refine zR_ld 10 (by decide) (j := p) hx hb hK hP rfl (show p < 4 from by omega) zd_M_storeTo_16 ?_
  refine lv_aload_n hx hb zd_M_storeTo_17 rfl (lv_at hl 0 rfl) ?_
  refine zR_get 11 (by decide) hx hb hts hown hK hP (zl_M_41 hts) rfl rfl zd_M_storeTo_18 ?_
  refine lv_iload_n hx hb zd_M_storeTo_21 rfl (lv_at hl 1 rfl) ?_
  refine zR_ld 11 (by decide) (j := p) hx hb hK hP rfl (show p < 4 from by omega) zd_M_storeTo_22 ?_
  refine zR_callv (nA := 7) (As := [.int 1, .int r0, .int (nI p), .int (-1), .int (M 9 p), .int (M 10 p), .int (M 11 p)]) (rest := []) (zm_send l D ka rb M hL 1 r0 (nI p) (-1) (M 9 p) (M 10 p) (M 11 p)) (zg_M_send zk_M_136) rfl (by decide) ⟨rfl, rfl⟩ ⟨Nat.le_of_ble_eq_true rfl, Nat.le_of_ble_eq_true rfl⟩ hx hb hml hts hown hK hP hS (fun _ h => h) hl.1 rfl rfl (Nat.le_of_ble_eq_true rfl) ⟨Nat.zero_le _, Nat.zero_le _⟩ zd_M_storeTo_23 (fun H locs hP hS => ?_)
  exact zR_vret hx hb hr hlk hK hP hS rfl zd_M_storeTo_26
set_option maxRecDepth 100000 in
set_option maxHeartbeats 4000000 in
theorem zm_write (l : Launch) (D : va_G) (ka : Nat → ClassId) (rb : Nat) (M : zM) (hL : zLt M) (p0 lo hi : Int32) : Met l zy_M_write (.code zy_M_write zc_M_write 5 (some .int) :: zAll) ({ frames := 2, cells := 0, slots := 0, locals := 49 }) (va_Pc [.ref rb, .int p0, .int lo, .int hi] (zRW D ka rb M)) (zRQi D ka rb (zf_write M p0 lo hi) (zg_write M p0 lo hi)) 0 0 (zRA rb) := by
  refine z_met (by decide) (Nat.le_of_ble_eq_true rfl) ?_
  intro pg e s m below meth c hx hb hml hr hts hown hlk hnm hB ls hl
  obtain ⟨hP, hK⟩ := hB
  have hS : va_S (zRA rb) s.heap s.heap [] := va_S.rf
  have hl : lv_has ls 5 [(0, .ref rb), (1, .int p0), (2, .int lo), (3, .int hi)] := hl
  refine lv_iload_n hx hb zd_M_write_0 rfl (lv_at hl 1 rfl) ?_
  refine lv_iconst (v := 4) hx hb zd_M_write_1 (by decide) ?_
  refine z_callst (nA := 2) (As := [.int p0, .int 4]) (rest := []) (zm_below l p0 4) (zg_M_below zk_M_129) rfl (by decide) ⟨rfl, rfl⟩ ⟨Nat.le_of_ble_eq_true rfl, Nat.le_of_ble_eq_true rfl⟩ hx hb hml hts hown hl.1 rfl rfl (Nat.le_of_ble_eq_true rfl) ⟨Nat.zero_le _, Nat.zero_le _⟩ zd_M_write_2 ?_
  refine lv_if_eq (tgt := 22) hx hb zd_M_write_5 (by decide) (fun h5 => ?_) (fun h5 => ?_)
  · have c5 := zb_0 h5
    refine lv_iconst (v := -1) hx hb zd_M_write_22 (by decide) ?_
    exact zR_iret hx hb hr hlk hK hP hS (by simp [zf_write, zg_write, zo_write, zwrite, c5]) (by simp [zf_write, zg_write, zo_write, zwrite, c5]) zd_M_write_23
  · have c5 := zb_1 h5
    obtain ⟨p, h_p, rfl⟩ := zbl_of (n := 4) (by decide) c5
    have z_p : zix (nI p) = p := zix_n (by omega)
    refine lv_aload_n hx hb zd_M_write_8 rfl (lv_at hl 0 rfl) ?_
    refine zR_get 12 (by decide) hx hb hts hown hK hP (zl_M_44 hts) rfl rfl zd_M_write_9 ?_
    refine lv_iload_n hx hb zd_M_write_12 rfl (lv_at hl 1 rfl) ?_
    refine zR_zld 12 (by decide) (j := p) hx hb hK hP rfl (show p < 4 from by omega) zd_M_write_13 ?_
    refine lv_if_ne (tgt := 22) hx hb zd_M_write_14 (by decide) (fun h14 => ?_) (fun h14 => ?_)
    · refine lv_iconst (v := -1) hx hb zd_M_write_22 (by decide) ?_
      exact zR_iret hx hb hr hlk hK hP hS (by simp [zf_write, zg_write, zo_write, zwrite, c5, z_p, h14]) (by simp [zf_write, zg_write, zo_write, zwrite, c5, z_p, h14]) zd_M_write_23
    · refine lv_iload_n hx hb zd_M_write_17 rfl (lv_at hl 2 rfl) ?_
      refine lv_iload_n hx hb zd_M_write_18 rfl (lv_at hl 3 rfl) ?_
      refine lv_icmp_le (tgt := 24) hx hb zd_M_write_19 (by decide) (fun h19 => ?_) (fun h19 => ?_)
      · refine lv_aload_n hx hb zd_M_write_24 rfl (lv_at hl 0 rfl) ?_
        refine zR_get 9 (by decide) hx hb hts hown hK hP (zl_M_35 hts) rfl rfl zd_M_write_25 ?_
        refine lv_iload_n hx hb zd_M_write_28 rfl (lv_at hl 1 rfl) ?_
        refine lv_dup2_11 hx hb zd_M_write_29 rfl rfl ?_
        refine zR_ld 9 (by decide) (j := p) hx hb hK hP rfl (show p < 4 from by omega) zd_M_write_30 ?_
        refine lv_iconst (v := 1) hx hb zd_M_write_31 (by decide) ?_
        refine lv_iadd hx hb zd_M_write_32 ?_
        refine zR_sto 9 (by decide) (j := p) hx hb hK hP hS rfl (show p < 4 from by omega) zd_M_write_33 (fun H locs hP hS => ?_)
        refine lv_aload_n hx hb zd_M_write_34 rfl (lv_at hl 0 rfl) ?_
        refine zR_get 10 (by decide) hx hb hts hown hK hP (zl_M_38 hts) rfl rfl zd_M_write_35 ?_
        refine lv_iload_n hx hb zd_M_write_38 rfl (lv_at hl 1 rfl) ?_
        refine lv_iload_n hx hb zd_M_write_39 rfl (lv_at hl 2 rfl) ?_
        refine zR_sto 10 (by decide) (j := p) hx hb hK hP hS rfl (show p < 4 from by omega) zd_M_write_40 (fun H locs hP hS => ?_)
        refine lv_aload_n hx hb zd_M_write_41 rfl (lv_at hl 0 rfl) ?_
        refine zR_get 11 (by decide) hx hb hts hown hK hP (zl_M_41 hts) rfl rfl zd_M_write_42 ?_
        refine lv_iload_n hx hb zd_M_write_45 rfl (lv_at hl 1 rfl) ?_
        refine lv_iload_n hx hb zd_M_write_46 rfl (lv_at hl 3 rfl) ?_
        refine zR_sto 11 (by decide) (j := p) hx hb hK hP hS rfl (show p < 4 from by omega) zd_M_write_47 (fun H locs hP hS => ?_)
        refine lv_aload_n hx hb zd_M_write_48 rfl (lv_at hl 0 rfl) ?_
        refine zR_get 12 (by decide) hx hb hts hown hK hP (zl_M_44 hts) rfl rfl zd_M_write_49 ?_
        refine lv_iload_n hx hb zd_M_write_52 rfl (lv_at hl 1 rfl) ?_
        refine lv_iconst (v := 1) hx hb zd_M_write_53 (by decide) ?_
        refine zR_zsto 12 (by decide) (j := p) hx hb hK hP hS rfl (show p < 4 from by omega) (by decide) zd_M_write_54 (fun H locs hP hS => ?_)
        refine lv_iconst (v := 0) hx hb zd_M_write_55 (by decide) ?_
        refine lv_istore hx hb zd_M_write_56 hl (by decide) rfl (fun ls hl => ?_)
        have hl : lv_has ls 5 [(4, .int 0), (0, .ref rb), (1, .int (nI p)), (2, .int lo), (3, .int hi)] := hl
        have L58 : ∀ (j k : Nat), k + j = 9 → ∀ (H : Heap) (locs : List Loc) (ls : Array Slot), lv_has ls 5 [(0, .ref rb), (1, .int (nI p)), (2, .int lo), (3, .int hi), (4, .int (nI k))] → zRP D ka rb (zwl p (zst (zst (zst (zst M 9 p (M 9 p + 1)) 10 p lo) 11 p hi) 12 p 1) k) H → va_S (zRA rb) s.heap H locs → W pg l e ({ frames := 2, cells := 0, slots := 0, locals := 49 }) s m (List.toArray [.ref rb, .int (nI p), .int lo, .int hi]) below meth c H locs 0 0 (MQ below (zRQi D ka rb (zf_write M (nI p) lo hi) (zg_write M (nI p) lo hi)) (List.toArray [.ref rb, .int (nI p), .int lo, .int hi]) s 0 0 (zRA rb)) (F0 m 58 ls []) := by
          intro j
          induction j with
          | zero =>
            intro k hk H locs ls hl hP hS
            have hk : k = 9 := by omega
            subst hk
            refine lv_iload hx hb zd_M_write_58 (lv_at hl 4 rfl) ?_
            refine lv_bipush (v := 9) hx hb zd_M_write_60 (by decide) ?_
            refine lv_icmp_ge (tgt := 91) hx hb zd_M_write_62 (by decide) (fun h62 => ?_) (fun h62 => absurd (by decide) h62)
            refine lv_aload_n hx hb zd_M_write_91 rfl (lv_at hl 0 rfl) ?_
            refine zR_get 9 (by decide) hx hb hts hown hK hP (zl_M_35 hts) rfl rfl zd_M_write_92 ?_
            refine lv_iload_n hx hb zd_M_write_95 rfl (lv_at hl 1 rfl) ?_
            refine zR_ld 9 (by decide) (j := p) hx hb hK hP rfl (show p < 4 from by omega) zd_M_write_96 ?_
            exact zR_iret hx hb hr hlk hK hP hS (by simp [zf_write, zg_write, zo_write, zwrite, c5, z_p, h14, h19, h62]) (by simp [zf_write, zg_write, zo_write, zwrite, c5, z_p, h14, h19, h62]) zd_M_write_97
          | succ j ih =>
            intro k hk H locs ls hl hP hS
            refine lv_iload hx hb zd_M_write_58 (lv_at hl 4 rfl) ?_
            refine lv_bipush (v := 9) hx hb zd_M_write_60 (by decide) ?_
            refine lv_icmp_ge (tgt := 91) hx hb zd_M_write_62 (by decide) (fun h62 => absurd h62 (nI_ge (b := 9) (by omega) (by decide))) (fun h62 => ?_)
            refine lv_aload_n hx hb zd_M_write_65 rfl (lv_at hl 0 rfl) ?_
            refine zR_get 14 (by decide) hx hb hts hown hK hP (zl_M_50 hts) rfl rfl zd_M_write_66 ?_
            refine lv_bipush (v := 9) hx hb zd_M_write_69 (by decide) ?_
            refine lv_iload_n hx hb zd_M_write_71 rfl (lv_at hl 1 rfl) ?_
            refine lv_imul hx hb zd_M_write_72 ?_
            refine lv_iload hx hb zd_M_write_73 (lv_at hl 4 rfl) ?_
            refine lv_iadd hx hb zd_M_write_75 ?_
            refine lv_iconst (v := 0) hx hb zd_M_write_76 (by decide) ?_
            refine zR_zsto 14 (by decide) (j := (9 * p + k)) hx hb hK hP hS (zn_a9 _ _) (show (9 * p + k) < 36 from by omega) (by decide) zd_M_write_77 (fun H locs hP hS => ?_)
            refine lv_aload_n hx hb zd_M_write_78 rfl (lv_at hl 0 rfl) ?_
            refine lv_iload_n hx hb zd_M_write_79 rfl (lv_at hl 1 rfl) ?_
            refine lv_iload hx hb zd_M_write_80 (lv_at hl 4 rfl) ?_
            refine zR_callv (nA := 2) (As := [.int (nI p), .int (nI k)]) (rest := []) (zm_storeTo l D ka rb (zst (zwl p (zst (zst (zst (zst M 9 p (M 9 p + 1)) 10 p lo) 11 p hi) 12 p 1) k) 14 (9 * p + k) 0) (zLt_st (zLt_wl (zLt_st (zLt_st (zLt_st (zLt_st hL (by decide)) (by decide)) (by decide)) (by decide)) k) (by decide)) p (by omega) (nI k)) (zg_M_storeTo zk_M_148) rfl (by decide) ⟨rfl, rfl⟩ ⟨Nat.le_of_ble_eq_true rfl, Nat.le_of_ble_eq_true rfl⟩ hx hb hml hts hown hK hP hS (fun _ h => h) hl.1 rfl rfl (Nat.le_of_ble_eq_true rfl) ⟨Nat.zero_le _, Nat.zero_le _⟩ zd_M_write_82 (fun H locs hP hS => ?_)
            refine lv_iinc (v := nI (k + 1)) (k := 4) hx hb zd_M_write_85 hl rfl (nI_1 _) (by decide) rfl (fun ls hl => ?_)
            have hl : lv_has ls 5 [(4, .int (nI (k + 1))), (0, .ref rb), (1, .int (nI p)), (2, .int lo), (3, .int hi)] := hl
            refine lv_goto (tgt := 58) hx hb zd_M_write_88 (by decide) ?_
            exact ih (k + 1) (by omega) H locs ls (lv_sub hl [1, 2, 3, 4, 0] rfl) hP hS
        exact L58 9 0 (by omega) _ _ _ (lv_sub hl [1, 2, 3, 4, 0] rfl) hP hS
      · refine lv_iconst (v := -1) hx hb zd_M_write_22 (by decide) ?_
        exact zR_iret hx hb hr hlk hK hP hS (by simp [zf_write, zg_write, zo_write, zwrite, c5, z_p, h14, h19]) (by simp [zf_write, zg_write, zo_write, zwrite, c5, z_p, h14, h19]) zd_M_write_23
set_option maxRecDepth 100000 in
set_option maxHeartbeats 4000000 in
theorem zm_storeAgain (l : Launch) (D : va_G) (ka : Nat → ClassId) (rb : Nat) (M : zM) (hL : zLt M) (p0 : Int32) : Met l zy_M_storeAgain (.code zy_M_storeAgain zc_M_storeAgain 4 (some .int) :: zAll) ({ frames := 2, cells := 0, slots := 0, locals := 49 }) (va_Pc [.ref rb, .int p0] (zRW D ka rb M)) (zRQi D ka rb (zf_storeAgain M p0) (zg_storeAgain M p0)) 0 0 (zRA rb) := by
  refine z_met (by decide) (Nat.le_of_ble_eq_true rfl) ?_
  intro pg e s m below meth c hx hb hml hr hts hown hlk hnm hB ls hl
  obtain ⟨hP, hK⟩ := hB
  have hS : va_S (zRA rb) s.heap s.heap [] := va_S.rf
  have hl : lv_has ls 4 [(0, .ref rb), (1, .int p0)] := hl
  refine lv_iload_n hx hb zd_M_storeAgain_0 rfl (lv_at hl 1 rfl) ?_
  refine lv_iconst (v := 4) hx hb zd_M_storeAgain_1 (by decide) ?_
  refine z_callst (nA := 2) (As := [.int p0, .int 4]) (rest := []) (zm_below l p0 4) (zg_M_below zk_M_129) rfl (by decide) ⟨rfl, rfl⟩ ⟨Nat.le_of_ble_eq_true rfl, Nat.le_of_ble_eq_true rfl⟩ hx hb hml hts hown hl.1 rfl rfl (Nat.le_of_ble_eq_true rfl) ⟨Nat.zero_le _, Nat.zero_le _⟩ zd_M_storeAgain_2 ?_
  refine lv_if_eq (tgt := 17) hx hb zd_M_storeAgain_5 (by decide) (fun h5 => ?_) (fun h5 => ?_)
  · have c5 := zb_0 h5
    refine lv_iconst (v := -1) hx hb zd_M_storeAgain_17 (by decide) ?_
    exact zR_iret hx hb hr hlk hK hP hS (by simp [zf_storeAgain, zg_storeAgain, zo_storeAgain, c5]) (by simp [zf_storeAgain, zg_storeAgain, zo_storeAgain, c5]) zd_M_storeAgain_18
  · have c5 := zb_1 h5
    obtain ⟨p, h_p, rfl⟩ := zbl_of (n := 4) (by decide) c5
    have z_p : zix (nI p) = p := zix_n (by omega)
    refine lv_aload_n hx hb zd_M_storeAgain_8 rfl (lv_at hl 0 rfl) ?_
    refine zR_get 12 (by decide) hx hb hts hown hK hP (zl_M_44 hts) rfl rfl zd_M_storeAgain_9 ?_
    refine lv_iload_n hx hb zd_M_storeAgain_12 rfl (lv_at hl 1 rfl) ?_
    refine zR_zld 12 (by decide) (j := p) hx hb hK hP rfl (show p < 4 from by omega) zd_M_storeAgain_13 ?_
    refine lv_if_ne (tgt := 19) hx hb zd_M_storeAgain_14 (by decide) (fun h14 => ?_) (fun h14 => ?_)
    · refine lv_iconst (v := 0) hx hb zd_M_storeAgain_19 (by decide) ?_
      refine lv_istore_n hx hb zd_M_storeAgain_20 rfl hl (by decide) rfl (fun ls hl => ?_)
      have hl : lv_has ls 4 [(2, .int 0), (0, .ref rb), (1, .int (nI p))] := hl
      refine lv_iconst (v := 0) hx hb zd_M_storeAgain_21 (by decide) ?_
      refine lv_istore_n hx hb zd_M_storeAgain_22 rfl hl (by decide) rfl (fun ls hl => ?_)
      have hl : lv_has ls 4 [(3, .int 0), (2, .int 0), (0, .ref rb), (1, .int (nI p))] := hl
      have L23 : ∀ (j k : Nat), k + j = 9 → ∀ (H : Heap) (locs : List Loc) (ls : Array Slot), lv_has ls 4 [(0, .ref rb), (1, .int (nI p)), (2, .int (nI (zsal p M k).2)), (3, .int (nI k))] → zRP D ka rb (zsal p M k).1 H → va_S (zRA rb) s.heap H locs → W pg l e ({ frames := 2, cells := 0, slots := 0, locals := 49 }) s m (List.toArray [.ref rb, .int (nI p)]) below meth c H locs 0 0 (MQ below (zRQi D ka rb (zf_storeAgain M (nI p)) (zg_storeAgain M (nI p))) (List.toArray [.ref rb, .int (nI p)]) s 0 0 (zRA rb)) (F0 m 23 ls []) := by
        intro j
        induction j with
        | zero =>
          intro k hk H locs ls hl hP hS
          have hk : k = 9 := by omega
          subst hk
          refine lv_iload_n hx hb zd_M_storeAgain_23 rfl (lv_at hl 3 rfl) ?_
          refine lv_bipush (v := 9) hx hb zd_M_storeAgain_24 (by decide) ?_
          refine lv_icmp_ge (tgt := 58) hx hb zd_M_storeAgain_26 (by decide) (fun h26 => ?_) (fun h26 => absurd (by decide) h26)
          refine lv_iload_n hx hb zd_M_storeAgain_58 rfl (lv_at hl 2 rfl) ?_
          exact zR_iret hx hb hr hlk hK hP hS (by simp [zf_storeAgain, zg_storeAgain, zo_storeAgain, c5, z_p, h14, h26]) (by simp [zf_storeAgain, zg_storeAgain, zo_storeAgain, c5, z_p, h14, h26]) zd_M_storeAgain_59
        | succ j ih =>
          intro k hk H locs ls hl hP hS
          refine lv_iload_n hx hb zd_M_storeAgain_23 rfl (lv_at hl 3 rfl) ?_
          refine lv_bipush (v := 9) hx hb zd_M_storeAgain_24 (by decide) ?_
          refine lv_icmp_ge (tgt := 58) hx hb zd_M_storeAgain_26 (by decide) (fun h26 => absurd h26 (nI_ge (b := 9) (by omega) (by decide))) (fun h26 => ?_)
          refine lv_aload_n hx hb zd_M_storeAgain_29 rfl (lv_at hl 0 rfl) ?_
          refine zR_get 14 (by decide) hx hb hts hown hK hP (zl_M_50 hts) rfl rfl zd_M_storeAgain_30 ?_
          refine lv_bipush (v := 9) hx hb zd_M_storeAgain_33 (by decide) ?_
          refine lv_iload_n hx hb zd_M_storeAgain_35 rfl (lv_at hl 1 rfl) ?_
          refine lv_imul hx hb zd_M_storeAgain_36 ?_
          refine lv_iload_n hx hb zd_M_storeAgain_37 rfl (lv_at hl 3 rfl) ?_
          refine lv_iadd hx hb zd_M_storeAgain_38 ?_
          refine zR_zld 14 (by decide) (j := (9 * p + k)) hx hb hK hP (zn_a9 _ _) (show (9 * p + k) < 36 from by omega) zd_M_storeAgain_39 ?_
          refine lv_if_ne (tgt := 52) hx hb zd_M_storeAgain_40 (by decide) (fun h40 => ?_) (fun h40 => ?_)
          · refine lv_iinc (v := nI (k + 1)) (k := 3) hx hb zd_M_storeAgain_52 hl rfl (nI_1 _) (by decide) rfl (fun ls hl => ?_)
            have hl : lv_has ls 4 [(3, .int (nI (k + 1))), (0, .ref rb), (1, .int (nI p)), (2, .int (nI (zsal p M k).2))] := hl
            refine lv_goto (tgt := 23) hx hb zd_M_storeAgain_55 (by decide) ?_
            refine ih (k + 1) (by omega) H locs ls ?_ ?_ hS
            · first | rw [zsal_s h40] | rw [zsal_n h40]
              exact lv_sub hl [1, 2, 3, 0] rfl
            · first | rw [zsal_s h40] | rw [zsal_n h40]
              exact hP
          · refine lv_aload_n hx hb zd_M_storeAgain_43 rfl (lv_at hl 0 rfl) ?_
            refine lv_iload_n hx hb zd_M_storeAgain_44 rfl (lv_at hl 1 rfl) ?_
            refine lv_iload_n hx hb zd_M_storeAgain_45 rfl (lv_at hl 3 rfl) ?_
            refine zR_callv (nA := 2) (As := [.int (nI p), .int (nI k)]) (rest := []) (zm_storeTo l D ka rb (zsal p M k).1 (zLt_sal hL k) p (by omega) (nI k)) (zg_M_storeTo zk_M_148) rfl (by decide) ⟨rfl, rfl⟩ ⟨Nat.le_of_ble_eq_true rfl, Nat.le_of_ble_eq_true rfl⟩ hx hb hml hts hown hK hP hS (fun _ h => h) hl.1 rfl rfl (Nat.le_of_ble_eq_true rfl) ⟨Nat.zero_le _, Nat.zero_le _⟩ zd_M_storeAgain_46 (fun H locs hP hS => ?_)
            refine lv_iinc (v := nI ((zsal p M k).2 + 1)) (k := 2) hx hb zd_M_storeAgain_49 hl rfl (nI_1 _) (by decide) rfl (fun ls hl => ?_)
            have hl : lv_has ls 4 [(2, .int (nI ((zsal p M k).2 + 1))), (0, .ref rb), (1, .int (nI p)), (3, .int (nI k))] := hl
            refine lv_iinc (v := nI (k + 1)) (k := 3) hx hb zd_M_storeAgain_52 hl rfl (nI_1 _) (by decide) rfl (fun ls hl => ?_)
            have hl : lv_has ls 4 [(3, .int (nI (k + 1))), (2, .int (nI ((zsal p M k).2 + 1))), (0, .ref rb), (1, .int (nI p))] := hl
            refine lv_goto (tgt := 23) hx hb zd_M_storeAgain_55 (by decide) ?_
            refine ih (k + 1) (by omega) H locs ls ?_ ?_ hS
            · first | rw [zsal_s h40] | rw [zsal_n h40]
              exact lv_sub hl [2, 3, 1, 0] rfl
            · first | rw [zsal_s h40] | rw [zsal_n h40]
              exact hP
      exact L23 9 0 (by omega) _ _ _ (lv_sub hl [2, 3, 1, 0] rfl) hP hS
    · refine lv_iconst (v := -1) hx hb zd_M_storeAgain_17 (by decide) ?_
      exact zR_iret hx hb hr hlk hK hP hS (by simp [zf_storeAgain, zg_storeAgain, zo_storeAgain, c5, z_p, h14]) (by simp [zf_storeAgain, zg_storeAgain, zo_storeAgain, c5, z_p, h14]) zd_M_storeAgain_18
set_option maxRecDepth 100000 in
set_option maxHeartbeats 4000000 in
theorem zm_receipts (l : Launch) (D : va_G) (ka : Nat → ClassId) (rb : Nat) (M : zM) (p : Nat) (hp : p < 4) : Met l zy_M_receipts (.code zy_M_receipts zc_M_receipts 4 (some .int) :: zAll) ({ frames := 0, cells := 0, slots := 0, locals := 0 }) (va_Pc [.ref rb, .int (nI p)] (zRW D ka rb M)) (vp_Si (fun r => r = (nI (zrcs M p)))) 0 0 (fun _ => False) := by
  refine z_met (by decide) (Nat.le_of_ble_eq_true rfl) ?_
  intro pg e s m below meth c hx hb hml hr hts hown hlk hnm hB ls hl
  obtain ⟨hP, hK⟩ := hB
  have hl : lv_has ls 4 [(0, .ref rb), (1, .int (nI p))] := hl
  refine lv_iconst (v := 0) hx hb zd_M_receipts_0 (by decide) ?_
  refine lv_istore_n hx hb zd_M_receipts_1 rfl hl (by decide) rfl (fun ls hl => ?_)
  have hl : lv_has ls 4 [(2, .int 0), (0, .ref rb), (1, .int (nI p))] := hl
  refine lv_iconst (v := 0) hx hb zd_M_receipts_2 (by decide) ?_
  refine lv_istore_n hx hb zd_M_receipts_3 rfl hl (by decide) rfl (fun ls hl => ?_)
  have hl : lv_has ls 4 [(3, .int 0), (2, .int 0), (0, .ref rb), (1, .int (nI p))] := hl
  have L4 : ∀ (j k : Nat), k + j = 9 → ∀ (ls : Array Slot), lv_has ls 4 [(0, .ref rb), (1, .int (nI p)), (2, .int (nI (zcn (fun r => decide (¬ M 14 (9 * p + r) = 0)) k))), (3, .int (nI k))] → W pg l e ({ frames := 0, cells := 0, slots := 0, locals := 0 }) s m (List.toArray [.ref rb, .int (nI p)]) below meth c s.heap [] 0 0 (MQ below (vp_Si (fun r => r = (nI (zrcs M p)))) (List.toArray [.ref rb, .int (nI p)]) s 0 0 (fun _ => False)) (F0 m 4 ls []) := by
    intro j
    induction j with
    | zero =>
      intro k hk ls hl
      have hk : k = 9 := by omega
      subst hk
      refine lv_iload_n hx hb zd_M_receipts_4 rfl (lv_at hl 3 rfl) ?_
      refine lv_bipush (v := 9) hx hb zd_M_receipts_5 (by decide) ?_
      refine lv_icmp_ge (tgt := 33) hx hb zd_M_receipts_7 (by decide) (fun h7 => ?_) (fun h7 => absurd (by decide) h7)
      refine lv_iload_n hx hb zd_M_receipts_33 rfl (lv_at hl 2 rfl) ?_
      exact zS_iret hx hb hr hlk rfl rfl rfl zd_M_receipts_34
    | succ j ih =>
      intro k hk ls hl
      refine lv_iload_n hx hb zd_M_receipts_4 rfl (lv_at hl 3 rfl) ?_
      refine lv_bipush (v := 9) hx hb zd_M_receipts_5 (by decide) ?_
      refine lv_icmp_ge (tgt := 33) hx hb zd_M_receipts_7 (by decide) (fun h7 => absurd h7 (nI_ge (b := 9) (by omega) (by decide))) (fun h7 => ?_)
      refine lv_aload_n hx hb zd_M_receipts_10 rfl (lv_at hl 0 rfl) ?_
      refine zR_get 14 (by decide) hx hb hts hown hK hP (zl_M_50 hts) rfl rfl zd_M_receipts_11 ?_
      refine lv_bipush (v := 9) hx hb zd_M_receipts_14 (by decide) ?_
      refine lv_iload_n hx hb zd_M_receipts_16 rfl (lv_at hl 1 rfl) ?_
      refine lv_imul hx hb zd_M_receipts_17 ?_
      refine lv_iload_n hx hb zd_M_receipts_18 rfl (lv_at hl 3 rfl) ?_
      refine lv_iadd hx hb zd_M_receipts_19 ?_
      refine zR_zld 14 (by decide) (j := (9 * p + k)) hx hb hK hP (zn_a9 _ _) (show (9 * p + k) < 36 from by omega) zd_M_receipts_20 ?_
      refine lv_if_eq (tgt := 27) hx hb zd_M_receipts_21 (by decide) (fun h21 => ?_) (fun h21 => ?_)
      · refine lv_iinc (v := nI (k + 1)) (k := 3) hx hb zd_M_receipts_27 hl rfl (nI_1 _) (by decide) rfl (fun ls hl => ?_)
        have hl : lv_has ls 4 [(3, .int (nI (k + 1))), (0, .ref rb), (1, .int (nI p)), (2, .int (nI (zcn (fun r => decide (¬ M 14 (9 * p + r) = 0)) k)))] := hl
        refine lv_goto (tgt := 4) hx hb zd_M_receipts_30 (by decide) ?_
        refine ih (k + 1) (by omega) ls ?_
        · first | rw [zcn_s (f := fun r => decide (¬ M 14 (9 * p + r) = 0)) (decide_eq_true h21)] | rw [zcn_f (f := fun r => decide (¬ M 14 (9 * p + r) = 0)) (decide_eq_false (fun hh => hh h21))]
          exact lv_sub hl [1, 2, 3, 0] rfl
      · refine lv_iinc (v := nI ((zcn (fun r => decide (¬ M 14 (9 * p + r) = 0)) k) + 1)) (k := 2) hx hb zd_M_receipts_24 hl rfl (nI_1 _) (by decide) rfl (fun ls hl => ?_)
        have hl : lv_has ls 4 [(2, .int (nI ((zcn (fun r => decide (¬ M 14 (9 * p + r) = 0)) k) + 1))), (0, .ref rb), (1, .int (nI p)), (3, .int (nI k))] := hl
        refine lv_iinc (v := nI (k + 1)) (k := 3) hx hb zd_M_receipts_27 hl rfl (nI_1 _) (by decide) rfl (fun ls hl => ?_)
        have hl : lv_has ls 4 [(3, .int (nI (k + 1))), (2, .int (nI ((zcn (fun r => decide (¬ M 14 (9 * p + r) = 0)) k) + 1))), (0, .ref rb), (1, .int (nI p))] := hl
        refine lv_goto (tgt := 4) hx hb zd_M_receipts_30 (by decide) ?_
        refine ih (k + 1) (by omega) ls ?_
        · first | rw [zcn_s (f := fun r => decide (¬ M 14 (9 * p + r) = 0)) (decide_eq_true h21)] | rw [zcn_f (f := fun r => decide (¬ M 14 (9 * p + r) = 0)) (decide_eq_false (fun hh => hh h21))]
          exact lv_sub hl [2, 3, 1, 0] rfl
  exact L4 9 0 (by omega) _ (lv_sub hl [2, 3, 1, 0] rfl)
set_option maxRecDepth 100000 in
set_option maxHeartbeats 4000000 in
theorem zm_receiptComes (l : Launch) (D : va_G) (ka : Nat → ClassId) (rb : Nat) (M : zM) (p r : Nat) (hp : p < 4) (hr0 : r < 9) (n0 : Int32) : Met l zy_M_receiptComes (.code zy_M_receiptComes zc_M_receiptComes 4 none :: zAll) ({ frames := 1, cells := 0, slots := 0, locals := 23 }) (va_Pc [.ref rb, .int (nI p), .int (nI r), .int n0] (zRW D ka rb M)) (zRQv D ka rb (zrcComes M p r n0)) 0 0 (zRA rb) := by
  refine z_met (by decide) (Nat.le_of_ble_eq_true rfl) ?_
  intro pg e s m below meth c hx hb hml hr hts hown hlk hnm hB ls hl
  obtain ⟨hP, hK⟩ := hB
  have hS : va_S (zRA rb) s.heap s.heap [] := va_S.rf
  have hl : lv_has ls 4 [(0, .ref rb), (1, .int (nI p)), (2, .int (nI r)), (3, .int n0)] := hl
  refine lv_aload_n hx hb zd_M_receiptComes_0 rfl (lv_at hl 0 rfl) ?_
  refine zR_get 12 (by decide) hx hb hts hown hK hP (zl_M_44 hts) rfl rfl zd_M_receiptComes_1 ?_
  refine lv_iload_n hx hb zd_M_receiptComes_4 rfl (lv_at hl 1 rfl) ?_
  refine zR_zld 12 (by decide) (j := p) hx hb hK hP rfl (show p < 4 from by omega) zd_M_receiptComes_5 ?_
  refine lv_if_eq (tgt := 19) hx hb zd_M_receiptComes_6 (by decide) (fun h6 => ?_) (fun h6 => ?_)
  · exact zR_vret hx hb hr hlk hK hP hS (by simp [zrcComes, h6]) zd_M_receiptComes_19
  · refine lv_aload_n hx hb zd_M_receiptComes_9 rfl (lv_at hl 0 rfl) ?_
    refine zR_get 9 (by decide) hx hb hts hown hK hP (zl_M_35 hts) rfl rfl zd_M_receiptComes_10 ?_
    refine lv_iload_n hx hb zd_M_receiptComes_13 rfl (lv_at hl 1 rfl) ?_
    refine zR_ld 9 (by decide) (j := p) hx hb hK hP rfl (show p < 4 from by omega) zd_M_receiptComes_14 ?_
    refine lv_iload_n hx hb zd_M_receiptComes_15 rfl (lv_at hl 3 rfl) ?_
    refine lv_icmp_eq (tgt := 20) hx hb zd_M_receiptComes_16 (by decide) (fun h16 => ?_) (fun h16 => ?_)
    · refine lv_aload_n hx hb zd_M_receiptComes_20 rfl (lv_at hl 0 rfl) ?_
      refine zR_get 14 (by decide) hx hb hts hown hK hP (zl_M_50 hts) rfl rfl zd_M_receiptComes_21 ?_
      refine lv_bipush (v := 9) hx hb zd_M_receiptComes_24 (by decide) ?_
      refine lv_iload_n hx hb zd_M_receiptComes_26 rfl (lv_at hl 1 rfl) ?_
      refine lv_imul hx hb zd_M_receiptComes_27 ?_
      refine lv_iload_n hx hb zd_M_receiptComes_28 rfl (lv_at hl 2 rfl) ?_
      refine lv_iadd hx hb zd_M_receiptComes_29 ?_
      refine lv_iconst (v := 1) hx hb zd_M_receiptComes_30 (by decide) ?_
      refine zR_zsto 14 (by decide) (j := (9 * p + r)) hx hb hK hP hS (zn_a9 _ _) (show (9 * p + r) < 36 from by omega) (by decide) zd_M_receiptComes_31 (fun H locs hP hS => ?_)
      refine lv_aload_n hx hb zd_M_receiptComes_32 rfl (lv_at hl 0 rfl) ?_
      refine lv_iload_n hx hb zd_M_receiptComes_33 rfl (lv_at hl 1 rfl) ?_
      refine zR_calls (nA := 1) (As := [.int (nI p)]) (rest := []) (zm_receipts l D ka rb (zst M 14 (9 * p + r) 1) p (by omega)) (zg_M_receipts zk_M_151) rfl (by decide) ⟨rfl, rfl⟩ ⟨Nat.le_of_ble_eq_true rfl, Nat.le_of_ble_eq_true rfl⟩ hx hb hml hts hown hK hP hl.1 rfl rfl (Nat.le_of_ble_eq_true rfl) ⟨Nat.zero_le _, Nat.zero_le _⟩ zd_M_receiptComes_34 ?_
      refine lv_bipush (v := 7) hx hb zd_M_receiptComes_37 (by decide) ?_
      refine lv_icmp_ge (tgt := 43) hx hb zd_M_receiptComes_39 (by decide) (fun h39 => ?_) (fun h39 => ?_)
      · have h39 := (zn_lt7 (by have := zrcs_le (zst M 14 (9 * p + r) 1) p; omega)).mp h39
        have h39 : ¬ zrcs (zst M 14 (9 * p + r) 1) p < 7 := by omega
        refine lv_aload_n hx hb zd_M_receiptComes_43 rfl (lv_at hl 0 rfl) ?_
        refine zR_get 12 (by decide) hx hb hts hown hK hP (zl_M_44 hts) rfl rfl zd_M_receiptComes_44 ?_
        refine lv_iload_n hx hb zd_M_receiptComes_47 rfl (lv_at hl 1 rfl) ?_
        refine lv_iconst (v := 0) hx hb zd_M_receiptComes_48 (by decide) ?_
        refine zR_zsto 12 (by decide) (j := p) hx hb hK hP hS rfl (show p < 4 from by omega) (by decide) zd_M_receiptComes_49 (fun H locs hP hS => ?_)
        refine lv_aload_n hx hb zd_M_receiptComes_50 rfl (lv_at hl 0 rfl) ?_
        refine zR_get 13 (by decide) hx hb hts hown hK hP (zl_M_47 hts) rfl rfl zd_M_receiptComes_51 ?_
        refine lv_iload_n hx hb zd_M_receiptComes_54 rfl (lv_at hl 1 rfl) ?_
        refine lv_iload_n hx hb zd_M_receiptComes_55 rfl (lv_at hl 3 rfl) ?_
        refine zR_sto 13 (by decide) (j := p) hx hb hK hP hS rfl (show p < 4 from by omega) zd_M_receiptComes_56 (fun H locs hP hS => ?_)
        exact zR_vret hx hb hr hlk hK hP hS (by simp [zrcComes, h6, h16, h39]) zd_M_receiptComes_57
      · have h39 : zrcs (zst M 14 (9 * p + r) 1) p < 7 := Nat.lt_of_not_le (fun h => h39 ((zn_lt7 (by have := zrcs_le (zst M 14 (9 * p + r) 1) p; omega)).mpr h))
        exact zR_vret hx hb hr hlk hK hP hS (by simp [zrcComes, h6, h16, h39]) zd_M_receiptComes_42
    · exact zR_vret hx hb hr hlk hK hP hS (by simp [zrcComes, h6, h16]) zd_M_receiptComes_19
set_option maxRecDepth 100000 in
set_option maxHeartbeats 4000000 in
theorem zm_forget (l : Launch) (D : va_G) (ka : Nat → ClassId) (rb : Nat) (M : zM) (p0 : Int32) : Met l zy_M_forget (.code zy_M_forget zc_M_forget 3 (some .boolean) :: zAll) ({ frames := 1, cells := 0, slots := 0, locals := 21 }) (va_Pc [.ref rb, .int p0] (zRW D ka rb M)) (zRQi D ka rb (zf_forget M p0) (zg_forget M p0)) 0 0 (zRA rb) := by
  refine z_met (by decide) (Nat.le_of_ble_eq_true rfl) ?_
  intro pg e s m below meth c hx hb hml hr hts hown hlk hnm hB ls hl
  obtain ⟨hP, hK⟩ := hB
  have hS : va_S (zRA rb) s.heap s.heap [] := va_S.rf
  have hl : lv_has ls 3 [(0, .ref rb), (1, .int p0)] := hl
  refine lv_iload_n hx hb zd_M_forget_0 rfl (lv_at hl 1 rfl) ?_
  refine lv_iconst (v := 4) hx hb zd_M_forget_1 (by decide) ?_
  refine z_callst (nA := 2) (As := [.int p0, .int 4]) (rest := []) (zm_below l p0 4) (zg_M_below zk_M_129) rfl (by decide) ⟨rfl, rfl⟩ ⟨Nat.le_of_ble_eq_true rfl, Nat.le_of_ble_eq_true rfl⟩ hx hb hml hts hown hl.1 rfl rfl (Nat.le_of_ble_eq_true rfl) ⟨Nat.zero_le _, Nat.zero_le _⟩ zd_M_forget_2 ?_
  refine lv_if_ne (tgt := 10) hx hb zd_M_forget_5 (by decide) (fun h5 => ?_) (fun h5 => ?_)
  · have c5 := zb_1 h5
    obtain ⟨p, h_p, rfl⟩ := zbl_of (n := 4) (by decide) c5
    have z_p : zix (nI p) = p := zix_n (by omega)
    refine lv_iconst (v := 0) hx hb zd_M_forget_10 (by decide) ?_
    refine lv_istore_n hx hb zd_M_forget_11 rfl hl (by decide) rfl (fun ls hl => ?_)
    have hl : lv_has ls 3 [(2, .int 0), (0, .ref rb), (1, .int (nI p))] := hl
    have L12 : ∀ (j k : Nat), k + j = 9 → ∀ (H : Heap) (locs : List Loc) (ls : Array Slot), lv_has ls 3 [(0, .ref rb), (1, .int (nI p)), (2, .int (nI k))] → zRP D ka rb (zfgl p M k) H → va_S (zRA rb) s.heap H locs → W pg l e ({ frames := 1, cells := 0, slots := 0, locals := 21 }) s m (List.toArray [.ref rb, .int (nI p)]) below meth c H locs 0 0 (MQ below (zRQi D ka rb (zf_forget M (nI p)) (zg_forget M (nI p))) (List.toArray [.ref rb, .int (nI p)]) s 0 0 (zRA rb)) (F0 m 12 ls []) := by
      intro j
      induction j with
      | zero =>
        intro k hk H locs ls hl hP hS
        have hk : k = 9 := by omega
        subst hk
        refine lv_iload_n hx hb zd_M_forget_12 rfl (lv_at hl 2 rfl) ?_
        refine lv_bipush (v := 9) hx hb zd_M_forget_13 (by decide) ?_
        refine lv_icmp_ge (tgt := 36) hx hb zd_M_forget_15 (by decide) (fun h15 => ?_) (fun h15 => absurd (by decide) h15)
        refine lv_iconst (v := 1) hx hb zd_M_forget_36 (by decide) ?_
        exact zR_zret hx hb hr hlk hK hP hS rfl (by simp [zf_forget, zg_forget, zb, c5, z_p, h15]) (by simp [zf_forget, zg_forget, zb, c5, z_p, h15]) zd_M_forget_37
      | succ j ih =>
        intro k hk H locs ls hl hP hS
        refine lv_iload_n hx hb zd_M_forget_12 rfl (lv_at hl 2 rfl) ?_
        refine lv_bipush (v := 9) hx hb zd_M_forget_13 (by decide) ?_
        refine lv_icmp_ge (tgt := 36) hx hb zd_M_forget_15 (by decide) (fun h15 => absurd h15 (nI_ge (b := 9) (by omega) (by decide))) (fun h15 => ?_)
        refine lv_aload_n hx hb zd_M_forget_18 rfl (lv_at hl 0 rfl) ?_
        refine zR_get 14 (by decide) hx hb hts hown hK hP (zl_M_50 hts) rfl rfl zd_M_forget_19 ?_
        refine lv_bipush (v := 9) hx hb zd_M_forget_22 (by decide) ?_
        refine lv_iload_n hx hb zd_M_forget_24 rfl (lv_at hl 1 rfl) ?_
        refine lv_imul hx hb zd_M_forget_25 ?_
        refine lv_iload_n hx hb zd_M_forget_26 rfl (lv_at hl 2 rfl) ?_
        refine lv_iadd hx hb zd_M_forget_27 ?_
        refine lv_iconst (v := 0) hx hb zd_M_forget_28 (by decide) ?_
        refine zR_zsto 14 (by decide) (j := (9 * p + k)) hx hb hK hP hS (zn_a9 _ _) (show (9 * p + k) < 36 from by omega) (by decide) zd_M_forget_29 (fun H locs hP hS => ?_)
        refine lv_iinc (v := nI (k + 1)) (k := 2) hx hb zd_M_forget_30 hl rfl (nI_1 _) (by decide) rfl (fun ls hl => ?_)
        have hl : lv_has ls 3 [(2, .int (nI (k + 1))), (0, .ref rb), (1, .int (nI p))] := hl
        refine lv_goto (tgt := 12) hx hb zd_M_forget_33 (by decide) ?_
        exact ih (k + 1) (by omega) H locs ls (lv_sub hl [1, 2, 0] rfl) hP hS
    exact L12 9 0 (by omega) _ _ _ (lv_sub hl [1, 2, 0] rfl) hP hS
  · have c5 := zb_0 h5
    refine lv_iconst (v := 0) hx hb zd_M_forget_8 (by decide) ?_
    exact zR_zret hx hb hr hlk hK hP hS rfl (by simp [zf_forget, zg_forget, zb, c5]) (by simp [zf_forget, zg_forget, zb, c5]) zd_M_forget_9
set_option maxRecDepth 100000 in
set_option maxHeartbeats 4000000 in
theorem zm_askAll (l : Launch) (D : va_G) (ka : Nat → ClassId) (rb : Nat) (M : zM) (hL : zLt M) (d : Nat) (hd : d < 3) : Met l zy_M_askAll (.code zy_M_askAll zc_M_askAll 3 none :: zAll) ({ frames := 1, cells := 0, slots := 0, locals := 27 }) (va_Pc [.ref rb, .int (nI d)] (zRW D ka rb M)) (zRQv D ka rb (zaskAll M d)) 0 0 (zRA rb) := by
  refine z_met (by decide) (Nat.le_of_ble_eq_true rfl) ?_
  intro pg e s m below meth c hx hb hml hr hts hown hlk hnm hB ls hl
  obtain ⟨hP, hK⟩ := hB
  have hS : va_S (zRA rb) s.heap s.heap [] := va_S.rf
  have hl : lv_has ls 3 [(0, .ref rb), (1, .int (nI d))] := hl
  refine lv_aload_n hx hb zd_M_askAll_0 rfl (lv_at hl 0 rfl) ?_
  refine zR_get 15 (by decide) hx hb hts hown hK hP (zl_M_53 hts) rfl rfl zd_M_askAll_1 ?_
  refine lv_iload_n hx hb zd_M_askAll_4 rfl (lv_at hl 1 rfl) ?_
  refine lv_dup2_11 hx hb zd_M_askAll_5 rfl rfl ?_
  refine zR_ld 15 (by decide) (j := d) hx hb hK hP rfl (show d < 3 from by omega) zd_M_askAll_6 ?_
  refine lv_iconst (v := 1) hx hb zd_M_askAll_7 (by decide) ?_
  refine lv_iadd hx hb zd_M_askAll_8 ?_
  refine zR_sto 15 (by decide) (j := d) hx hb hK hP hS rfl (show d < 3 from by omega) zd_M_askAll_9 (fun H locs hP hS => ?_)
  refine lv_iconst (v := 0) hx hb zd_M_askAll_10 (by decide) ?_
  refine lv_istore_n hx hb zd_M_askAll_11 rfl hl (by decide) rfl (fun ls hl => ?_)
  have hl : lv_has ls 3 [(2, .int 0), (0, .ref rb), (1, .int (nI d))] := hl
  have L12 : ∀ (j k : Nat), k + j = 9 → ∀ (H : Heap) (locs : List Loc) (ls : Array Slot), lv_has ls 3 [(0, .ref rb), (1, .int (nI d)), (2, .int (nI k))] → zRP D ka rb (zaskl d (zst M 15 d (M 15 d + 1)) k) H → va_S (zRA rb) s.heap H locs → W pg l e ({ frames := 1, cells := 0, slots := 0, locals := 27 }) s m (List.toArray [.ref rb, .int (nI d)]) below meth c H locs 0 0 (MQ below (zRQv D ka rb (zaskAll M d)) (List.toArray [.ref rb, .int (nI d)]) s 0 0 (zRA rb)) (F0 m 12 ls []) := by
    intro j
    induction j with
    | zero =>
      intro k hk H locs ls hl hP hS
      have hk : k = 9 := by omega
      subst hk
      refine lv_iload_n hx hb zd_M_askAll_12 rfl (lv_at hl 2 rfl) ?_
      refine lv_bipush (v := 9) hx hb zd_M_askAll_13 (by decide) ?_
      refine lv_icmp_ge (tgt := 57) hx hb zd_M_askAll_15 (by decide) (fun h15 => ?_) (fun h15 => absurd (by decide) h15)
      exact zR_vret hx hb hr hlk hK hP hS rfl zd_M_askAll_57
    | succ j ih =>
      intro k hk H locs ls hl hP hS
      refine lv_iload_n hx hb zd_M_askAll_12 rfl (lv_at hl 2 rfl) ?_
      refine lv_bipush (v := 9) hx hb zd_M_askAll_13 (by decide) ?_
      refine lv_icmp_ge (tgt := 57) hx hb zd_M_askAll_15 (by decide) (fun h15 => absurd h15 (nI_ge (b := 9) (by omega) (by decide))) (fun h15 => ?_)
      refine lv_aload_n hx hb zd_M_askAll_18 rfl (lv_at hl 0 rfl) ?_
      refine zR_get 19 (by decide) hx hb hts hown hK hP (zl_M_65 hts) rfl rfl zd_M_askAll_19 ?_
      refine lv_bipush (v := 9) hx hb zd_M_askAll_22 (by decide) ?_
      refine lv_iload_n hx hb zd_M_askAll_24 rfl (lv_at hl 1 rfl) ?_
      refine lv_imul hx hb zd_M_askAll_25 ?_
      refine lv_iload_n hx hb zd_M_askAll_26 rfl (lv_at hl 2 rfl) ?_
      refine lv_iadd hx hb zd_M_askAll_27 ?_
      refine lv_iconst (v := 0) hx hb zd_M_askAll_28 (by decide) ?_
      refine zR_zsto 19 (by decide) (j := (9 * d + k)) hx hb hK hP hS (zn_a9 _ _) (show (9 * d + k) < 27 from by omega) (by decide) zd_M_askAll_29 (fun H locs hP hS => ?_)
      refine lv_aload_n hx hb zd_M_askAll_30 rfl (lv_at hl 0 rfl) ?_
      refine lv_iconst (v := 3) hx hb zd_M_askAll_31 (by decide) ?_
      refine lv_iload_n hx hb zd_M_askAll_32 rfl (lv_at hl 2 rfl) ?_
      refine lv_aload_n hx hb zd_M_askAll_33 rfl (lv_at hl 0 rfl) ?_
      refine zR_get 16 (by decide) hx hb hts hown hK hP (zl_M_56 hts) rfl rfl zd_M_askAll_34 ?_
      refine lv_iload_n hx hb zd_M_askAll_37 rfl (lv_at hl 1 rfl) ?_
      refine zR_ld 16 (by decide) (j := d) hx hb hK hP rfl (show d < 3 from by omega) zd_M_askAll_38 ?_
      refine lv_iload_n hx hb zd_M_askAll_39 rfl (lv_at hl 1 rfl) ?_
      refine lv_aload_n hx hb zd_M_askAll_40 rfl (lv_at hl 0 rfl) ?_
      refine zR_get 15 (by decide) hx hb hts hown hK hP (zl_M_53 hts) rfl rfl zd_M_askAll_41 ?_
      refine lv_iload_n hx hb zd_M_askAll_44 rfl (lv_at hl 1 rfl) ?_
      refine zR_ld 15 (by decide) (j := d) hx hb hK hP rfl (show d < 3 from by omega) zd_M_askAll_45 ?_
      refine lv_iconst (v := 0) hx hb zd_M_askAll_46 (by decide) ?_
      refine lv_iconst (v := 0) hx hb zd_M_askAll_47 (by decide) ?_
      refine zR_callv (nA := 7) (As := [.int 3, .int (nI k), .int ((zaskl d (zst M 15 d (M 15 d + 1)) k) 16 d), .int (nI d), .int ((zaskl d (zst M 15 d (M 15 d + 1)) k) 15 d), .int 0, .int 0]) (rest := []) (zm_send l D ka rb (zst (zaskl d (zst M 15 d (M 15 d + 1)) k) 19 (9 * d + k) 0) (zLt_st (zLt_askl (zLt_st hL (by decide)) k) (by decide)) 3 (nI k) ((zaskl d (zst M 15 d (M 15 d + 1)) k) 16 d) (nI d) ((zaskl d (zst M 15 d (M 15 d + 1)) k) 15 d) 0 0) (zg_M_send zk_M_136) rfl (by decide) ⟨rfl, rfl⟩ ⟨Nat.le_of_ble_eq_true rfl, Nat.le_of_ble_eq_true rfl⟩ hx hb hml hts hown hK hP hS (fun _ h => h) hl.1 rfl rfl (Nat.le_of_ble_eq_true rfl) ⟨Nat.zero_le _, Nat.zero_le _⟩ zd_M_askAll_48 (fun H locs hP hS => ?_)
      refine lv_iinc (v := nI (k + 1)) (k := 2) hx hb zd_M_askAll_51 hl rfl (nI_1 _) (by decide) rfl (fun ls hl => ?_)
      have hl : lv_has ls 3 [(2, .int (nI (k + 1))), (0, .ref rb), (1, .int (nI d))] := hl
      refine lv_goto (tgt := 12) hx hb zd_M_askAll_54 (by decide) ?_
      exact ih (k + 1) (by omega) H locs ls (lv_sub hl [1, 2, 0] rfl) hP hS
  exact L12 9 0 (by omega) _ _ _ (lv_sub hl [1, 2, 0] rfl) hP hS
set_option maxRecDepth 100000 in
set_option maxHeartbeats 4000000 in
theorem zm_read (l : Launch) (D : va_G) (ka : Nat → ClassId) (rb : Nat) (M : zM) (hL : zLt M) (d0 p0 : Int32) : Met l zy_M_read (.code zy_M_read zc_M_read 3 (some .int) :: zAll) ({ frames := 2, cells := 0, slots := 0, locals := 49 }) (va_Pc [.ref rb, .int d0, .int p0] (zRW D ka rb M)) (zRQi D ka rb (zf_read M d0 p0) (zg_read M d0 p0)) 0 0 (zRA rb) := by
  refine z_met (by decide) (Nat.le_of_ble_eq_true rfl) ?_
  intro pg e s m below meth c hx hb hml hr hts hown hlk hnm hB ls hl
  obtain ⟨hP, hK⟩ := hB
  have hS : va_S (zRA rb) s.heap s.heap [] := va_S.rf
  have hl : lv_has ls 3 [(0, .ref rb), (1, .int d0), (2, .int p0)] := hl
  refine lv_iload_n hx hb zd_M_read_0 rfl (lv_at hl 1 rfl) ?_
  refine lv_iconst (v := 3) hx hb zd_M_read_1 (by decide) ?_
  refine z_callst (nA := 2) (As := [.int d0, .int 3]) (rest := []) (zm_below l d0 3) (zg_M_below zk_M_129) rfl (by decide) ⟨rfl, rfl⟩ ⟨Nat.le_of_ble_eq_true rfl, Nat.le_of_ble_eq_true rfl⟩ hx hb hml hts hown hl.1 rfl rfl (Nat.le_of_ble_eq_true rfl) ⟨Nat.zero_le _, Nat.zero_le _⟩ zd_M_read_2 ?_
  refine lv_if_eq (tgt := 26) hx hb zd_M_read_5 (by decide) (fun h5 => ?_) (fun h5 => ?_)
  · have c5 := zb_0 h5
    refine lv_iconst (v := -1) hx hb zd_M_read_26 (by decide) ?_
    exact zR_iret hx hb hr hlk hK hP hS (by simp [zf_read, zg_read, zo_read, zread, c5]) (by simp [zf_read, zg_read, zo_read, zread, c5]) zd_M_read_27
  · have c5 := zb_1 h5
    obtain ⟨d, h_d, rfl⟩ := zbl_of (n := 3) (by decide) c5
    have z_d : zix (nI d) = d := zix_n (by omega)
    refine lv_iload_n hx hb zd_M_read_8 rfl (lv_at hl 2 rfl) ?_
    refine lv_iconst (v := 4) hx hb zd_M_read_9 (by decide) ?_
    refine z_callst (nA := 2) (As := [.int p0, .int 4]) (rest := []) (zm_below l p0 4) (zg_M_below zk_M_129) rfl (by decide) ⟨rfl, rfl⟩ ⟨Nat.le_of_ble_eq_true rfl, Nat.le_of_ble_eq_true rfl⟩ hx hb hml hts hown hl.1 rfl rfl (Nat.le_of_ble_eq_true rfl) ⟨Nat.zero_le _, Nat.zero_le _⟩ zd_M_read_10 ?_
    refine lv_if_eq (tgt := 26) hx hb zd_M_read_13 (by decide) (fun h13 => ?_) (fun h13 => ?_)
    · have c13 := zb_0 h13
      refine lv_iconst (v := -1) hx hb zd_M_read_26 (by decide) ?_
      exact zR_iret hx hb hr hlk hK hP hS (by simp [zf_read, zg_read, zo_read, zread, c5, z_d, c13]) (by simp [zf_read, zg_read, zo_read, zread, c5, z_d, c13]) zd_M_read_27
    · have c13 := zb_1 h13
      obtain ⟨p, h_p, rfl⟩ := zbl_of (n := 4) (by decide) c13
      have z_p : zix (nI p) = p := zix_n (by omega)
      refine lv_aload_n hx hb zd_M_read_16 rfl (lv_at hl 0 rfl) ?_
      refine zR_get 18 (by decide) hx hb hts hown hK hP (zl_M_62 hts) rfl rfl zd_M_read_17 ?_
      refine lv_iload_n hx hb zd_M_read_20 rfl (lv_at hl 1 rfl) ?_
      refine zR_ld 18 (by decide) (j := d) hx hb hK hP rfl (show d < 3 from by omega) zd_M_read_21 ?_
      refine lv_iconst (v := 1) hx hb zd_M_read_22 (by decide) ?_
      refine lv_icmp_ne (tgt := 28) hx hb zd_M_read_23 (by decide) (fun h23 => ?_) (fun h23 => ?_)
      · refine lv_aload_n hx hb zd_M_read_28 rfl (lv_at hl 0 rfl) ?_
        refine zR_get 18 (by decide) hx hb hts hown hK hP (zl_M_62 hts) rfl rfl zd_M_read_29 ?_
        refine lv_iload_n hx hb zd_M_read_32 rfl (lv_at hl 1 rfl) ?_
        refine lv_iconst (v := 1) hx hb zd_M_read_33 (by decide) ?_
        refine zR_sto 18 (by decide) (j := d) hx hb hK hP hS rfl (show d < 3 from by omega) zd_M_read_34 (fun H locs hP hS => ?_)
        refine lv_aload_n hx hb zd_M_read_35 rfl (lv_at hl 0 rfl) ?_
        refine zR_get 17 (by decide) hx hb hts hown hK hP (zl_M_59 hts) rfl rfl zd_M_read_36 ?_
        refine lv_iload_n hx hb zd_M_read_39 rfl (lv_at hl 1 rfl) ?_
        refine lv_iconst (v := 1) hx hb zd_M_read_40 (by decide) ?_
        refine zR_sto 17 (by decide) (j := d) hx hb hK hP hS rfl (show d < 3 from by omega) zd_M_read_41 (fun H locs hP hS => ?_)
        refine lv_aload_n hx hb zd_M_read_42 rfl (lv_at hl 0 rfl) ?_
        refine zR_get 16 (by decide) hx hb hts hown hK hP (zl_M_56 hts) rfl rfl zd_M_read_43 ?_
        refine lv_iload_n hx hb zd_M_read_46 rfl (lv_at hl 1 rfl) ?_
        refine lv_iload_n hx hb zd_M_read_47 rfl (lv_at hl 2 rfl) ?_
        refine zR_sto 16 (by decide) (j := d) hx hb hK hP hS rfl (show d < 3 from by omega) zd_M_read_48 (fun H locs hP hS => ?_)
        refine lv_aload_n hx hb zd_M_read_49 rfl (lv_at hl 0 rfl) ?_
        refine lv_iload_n hx hb zd_M_read_50 rfl (lv_at hl 1 rfl) ?_
        refine zR_callv (nA := 1) (As := [.int (nI d)]) (rest := []) (zm_askAll l D ka rb (zst (zst (zst M 18 d 1) 17 d 1) 16 d (nI p)) (zLt_st (zLt_st (zLt_st hL (by decide)) (by decide)) (by decide)) d (by omega)) (zg_M_askAll zk_M_155) rfl (by decide) ⟨rfl, rfl⟩ ⟨Nat.le_of_ble_eq_true rfl, Nat.le_of_ble_eq_true rfl⟩ hx hb hml hts hown hK hP hS (fun _ h => h) hl.1 rfl rfl (Nat.le_of_ble_eq_true rfl) ⟨Nat.zero_le _, Nat.zero_le _⟩ zd_M_read_51 (fun H locs hP hS => ?_)
        refine lv_aload_n hx hb zd_M_read_54 rfl (lv_at hl 0 rfl) ?_
        refine zR_get 15 (by decide) hx hb hts hown hK hP (zl_M_53 hts) rfl rfl zd_M_read_55 ?_
        refine lv_iload_n hx hb zd_M_read_58 rfl (lv_at hl 1 rfl) ?_
        refine zR_ld 15 (by decide) (j := d) hx hb hK hP rfl (show d < 3 from by omega) zd_M_read_59 ?_
        exact zR_iret hx hb hr hlk hK hP hS (by simp [zf_read, zg_read, zo_read, zread, c5, z_d, c13, z_p, h23]) (by simp [zf_read, zg_read, zo_read, zread, c5, z_d, c13, z_p, h23]) zd_M_read_60
      · refine lv_iconst (v := -1) hx hb zd_M_read_26 (by decide) ?_
        exact zR_iret hx hb hr hlk hK hP hS (by simp [zf_read, zg_read, zo_read, zread, c5, z_d, c13, z_p, h23]) (by simp [zf_read, zg_read, zo_read, zread, c5, z_d, c13, z_p, h23]) zd_M_read_27
set_option maxRecDepth 100000 in
set_option maxHeartbeats 4000000 in
theorem zm_askAgain (l : Launch) (D : va_G) (ka : Nat → ClassId) (rb : Nat) (M : zM) (hL : zLt M) (d0 : Int32) : Met l zy_M_askAgain (.code zy_M_askAgain zc_M_askAgain 4 (some .int) :: zAll) ({ frames := 1, cells := 0, slots := 0, locals := 27 }) (va_Pc [.ref rb, .int d0] (zRW D ka rb M)) (zRQi D ka rb (zf_askAgain M d0) (zg_askAgain M d0)) 0 0 (zRA rb) := by
  refine z_met (by decide) (Nat.le_of_ble_eq_true rfl) ?_
  intro pg e s m below meth c hx hb hml hr hts hown hlk hnm hB ls hl
  obtain ⟨hP, hK⟩ := hB
  have hS : va_S (zRA rb) s.heap s.heap [] := va_S.rf
  have hl : lv_has ls 4 [(0, .ref rb), (1, .int d0)] := hl
  refine lv_iload_n hx hb zd_M_askAgain_0 rfl (lv_at hl 1 rfl) ?_
  refine lv_iconst (v := 3) hx hb zd_M_askAgain_1 (by decide) ?_
  refine z_callst (nA := 2) (As := [.int d0, .int 3]) (rest := []) (zm_below l d0 3) (zg_M_below zk_M_129) rfl (by decide) ⟨rfl, rfl⟩ ⟨Nat.le_of_ble_eq_true rfl, Nat.le_of_ble_eq_true rfl⟩ hx hb hml hts hown hl.1 rfl rfl (Nat.le_of_ble_eq_true rfl) ⟨Nat.zero_le _, Nat.zero_le _⟩ zd_M_askAgain_2 ?_
  refine lv_if_eq (tgt := 18) hx hb zd_M_askAgain_5 (by decide) (fun h5 => ?_) (fun h5 => ?_)
  · have c5 := zb_0 h5
    refine lv_iconst (v := -1) hx hb zd_M_askAgain_18 (by decide) ?_
    exact zR_iret hx hb hr hlk hK hP hS (by simp [zf_askAgain, zg_askAgain, zo_askAgain, c5]) (by simp [zf_askAgain, zg_askAgain, zo_askAgain, c5]) zd_M_askAgain_19
  · have c5 := zb_1 h5
    obtain ⟨d, h_d, rfl⟩ := zbl_of (n := 3) (by decide) c5
    have z_d : zix (nI d) = d := zix_n (by omega)
    refine lv_aload_n hx hb zd_M_askAgain_8 rfl (lv_at hl 0 rfl) ?_
    refine zR_get 18 (by decide) hx hb hts hown hK hP (zl_M_62 hts) rfl rfl zd_M_askAgain_9 ?_
    refine lv_iload_n hx hb zd_M_askAgain_12 rfl (lv_at hl 1 rfl) ?_
    refine zR_ld 18 (by decide) (j := d) hx hb hK hP rfl (show d < 3 from by omega) zd_M_askAgain_13 ?_
    refine lv_iconst (v := 1) hx hb zd_M_askAgain_14 (by decide) ?_
    refine lv_icmp_eq (tgt := 20) hx hb zd_M_askAgain_15 (by decide) (fun h15 => ?_) (fun h15 => ?_)
    · refine lv_iconst (v := 0) hx hb zd_M_askAgain_20 (by decide) ?_
      refine lv_istore_n hx hb zd_M_askAgain_21 rfl hl (by decide) rfl (fun ls hl => ?_)
      have hl : lv_has ls 4 [(2, .int 0), (0, .ref rb), (1, .int (nI d))] := hl
      refine lv_iconst (v := 0) hx hb zd_M_askAgain_22 (by decide) ?_
      refine lv_istore_n hx hb zd_M_askAgain_23 rfl hl (by decide) rfl (fun ls hl => ?_)
      have hl : lv_has ls 4 [(3, .int 0), (2, .int 0), (0, .ref rb), (1, .int (nI d))] := hl
      have L24 : ∀ (j k : Nat), k + j = 9 → ∀ (H : Heap) (locs : List Loc) (ls : Array Slot), lv_has ls 4 [(0, .ref rb), (1, .int (nI d)), (2, .int (nI (zaal d M k).2)), (3, .int (nI k))] → zRP D ka rb (zaal d M k).1 H → va_S (zRA rb) s.heap H locs → W pg l e ({ frames := 1, cells := 0, slots := 0, locals := 27 }) s m (List.toArray [.ref rb, .int (nI d)]) below meth c H locs 0 0 (MQ below (zRQi D ka rb (zf_askAgain M (nI d)) (zg_askAgain M (nI d))) (List.toArray [.ref rb, .int (nI d)]) s 0 0 (zRA rb)) (F0 m 24 ls []) := by
        intro j
        induction j with
        | zero =>
          intro k hk H locs ls hl hP hS
          have hk : k = 9 := by omega
          subst hk
          refine lv_iload_n hx hb zd_M_askAgain_24 rfl (lv_at hl 3 rfl) ?_
          refine lv_bipush (v := 9) hx hb zd_M_askAgain_25 (by decide) ?_
          refine lv_icmp_ge (tgt := 74) hx hb zd_M_askAgain_27 (by decide) (fun h27 => ?_) (fun h27 => absurd (by decide) h27)
          refine lv_iload_n hx hb zd_M_askAgain_74 rfl (lv_at hl 2 rfl) ?_
          exact zR_iret hx hb hr hlk hK hP hS (by simp [zf_askAgain, zg_askAgain, zo_askAgain, c5, z_d, h15, h27]) (by simp [zf_askAgain, zg_askAgain, zo_askAgain, c5, z_d, h15, h27]) zd_M_askAgain_75
        | succ j ih =>
          intro k hk H locs ls hl hP hS
          refine lv_iload_n hx hb zd_M_askAgain_24 rfl (lv_at hl 3 rfl) ?_
          refine lv_bipush (v := 9) hx hb zd_M_askAgain_25 (by decide) ?_
          refine lv_icmp_ge (tgt := 74) hx hb zd_M_askAgain_27 (by decide) (fun h27 => absurd h27 (nI_ge (b := 9) (by omega) (by decide))) (fun h27 => ?_)
          refine lv_aload_n hx hb zd_M_askAgain_30 rfl (lv_at hl 0 rfl) ?_
          refine zR_get 19 (by decide) hx hb hts hown hK hP (zl_M_65 hts) rfl rfl zd_M_askAgain_31 ?_
          refine lv_bipush (v := 9) hx hb zd_M_askAgain_34 (by decide) ?_
          refine lv_iload_n hx hb zd_M_askAgain_36 rfl (lv_at hl 1 rfl) ?_
          refine lv_imul hx hb zd_M_askAgain_37 ?_
          refine lv_iload_n hx hb zd_M_askAgain_38 rfl (lv_at hl 3 rfl) ?_
          refine lv_iadd hx hb zd_M_askAgain_39 ?_
          refine zR_zld 19 (by decide) (j := (9 * d + k)) hx hb hK hP (zn_a9 _ _) (show (9 * d + k) < 27 from by omega) zd_M_askAgain_40 ?_
          refine lv_if_ne (tgt := 68) hx hb zd_M_askAgain_41 (by decide) (fun h41 => ?_) (fun h41 => ?_)
          · refine lv_iinc (v := nI (k + 1)) (k := 3) hx hb zd_M_askAgain_68 hl rfl (nI_1 _) (by decide) rfl (fun ls hl => ?_)
            have hl : lv_has ls 4 [(3, .int (nI (k + 1))), (0, .ref rb), (1, .int (nI d)), (2, .int (nI (zaal d M k).2))] := hl
            refine lv_goto (tgt := 24) hx hb zd_M_askAgain_71 (by decide) ?_
            refine ih (k + 1) (by omega) H locs ls ?_ ?_ hS
            · first | rw [zaal_s h41] | rw [zaal_n h41]
              exact lv_sub hl [1, 2, 3, 0] rfl
            · first | rw [zaal_s h41] | rw [zaal_n h41]
              exact hP
          · refine lv_aload_n hx hb zd_M_askAgain_44 rfl (lv_at hl 0 rfl) ?_
            refine lv_iconst (v := 3) hx hb zd_M_askAgain_45 (by decide) ?_
            refine lv_iload_n hx hb zd_M_askAgain_46 rfl (lv_at hl 3 rfl) ?_
            refine lv_aload_n hx hb zd_M_askAgain_47 rfl (lv_at hl 0 rfl) ?_
            refine zR_get 16 (by decide) hx hb hts hown hK hP (zl_M_56 hts) rfl rfl zd_M_askAgain_48 ?_
            refine lv_iload_n hx hb zd_M_askAgain_51 rfl (lv_at hl 1 rfl) ?_
            refine zR_ld 16 (by decide) (j := d) hx hb hK hP rfl (show d < 3 from by omega) zd_M_askAgain_52 ?_
            refine lv_iload_n hx hb zd_M_askAgain_53 rfl (lv_at hl 1 rfl) ?_
            refine lv_aload_n hx hb zd_M_askAgain_54 rfl (lv_at hl 0 rfl) ?_
            refine zR_get 15 (by decide) hx hb hts hown hK hP (zl_M_53 hts) rfl rfl zd_M_askAgain_55 ?_
            refine lv_iload_n hx hb zd_M_askAgain_58 rfl (lv_at hl 1 rfl) ?_
            refine zR_ld 15 (by decide) (j := d) hx hb hK hP rfl (show d < 3 from by omega) zd_M_askAgain_59 ?_
            refine lv_iconst (v := 0) hx hb zd_M_askAgain_60 (by decide) ?_
            refine lv_iconst (v := 0) hx hb zd_M_askAgain_61 (by decide) ?_
            refine zR_callv (nA := 7) (As := [.int 3, .int (nI k), .int ((zaal d M k).1 16 d), .int (nI d), .int ((zaal d M k).1 15 d), .int 0, .int 0]) (rest := []) (zm_send l D ka rb (zaal d M k).1 (zLt_aal hL k) 3 (nI k) ((zaal d M k).1 16 d) (nI d) ((zaal d M k).1 15 d) 0 0) (zg_M_send zk_M_136) rfl (by decide) ⟨rfl, rfl⟩ ⟨Nat.le_of_ble_eq_true rfl, Nat.le_of_ble_eq_true rfl⟩ hx hb hml hts hown hK hP hS (fun _ h => h) hl.1 rfl rfl (Nat.le_of_ble_eq_true rfl) ⟨Nat.zero_le _, Nat.zero_le _⟩ zd_M_askAgain_62 (fun H locs hP hS => ?_)
            refine lv_iinc (v := nI ((zaal d M k).2 + 1)) (k := 2) hx hb zd_M_askAgain_65 hl rfl (nI_1 _) (by decide) rfl (fun ls hl => ?_)
            have hl : lv_has ls 4 [(2, .int (nI ((zaal d M k).2 + 1))), (0, .ref rb), (1, .int (nI d)), (3, .int (nI k))] := hl
            refine lv_iinc (v := nI (k + 1)) (k := 3) hx hb zd_M_askAgain_68 hl rfl (nI_1 _) (by decide) rfl (fun ls hl => ?_)
            have hl : lv_has ls 4 [(3, .int (nI (k + 1))), (2, .int (nI ((zaal d M k).2 + 1))), (0, .ref rb), (1, .int (nI d))] := hl
            refine lv_goto (tgt := 24) hx hb zd_M_askAgain_71 (by decide) ?_
            refine ih (k + 1) (by omega) H locs ls ?_ ?_ hS
            · first | rw [zaal_s h41] | rw [zaal_n h41]
              exact lv_sub hl [2, 3, 1, 0] rfl
            · first | rw [zaal_s h41] | rw [zaal_n h41]
              exact hP
      exact L24 9 0 (by omega) _ _ _ (lv_sub hl [2, 3, 1, 0] rfl) hP hS
    · refine lv_iconst (v := -1) hx hb zd_M_askAgain_18 (by decide) ?_
      exact zR_iret hx hb hr hlk hK hP hS (by simp [zf_askAgain, zg_askAgain, zo_askAgain, c5, z_d, h15]) (by simp [zf_askAgain, zg_askAgain, zo_askAgain, c5, z_d, h15]) zd_M_askAgain_19
set_option maxRecDepth 100000 in
set_option maxHeartbeats 4000000 in
theorem zm_answers (l : Launch) (D : va_G) (ka : Nat → ClassId) (rb : Nat) (M : zM) (d : Nat) (hd : d < 3) : Met l zy_M_answers (.code zy_M_answers zc_M_answers 4 (some .int) :: zAll) ({ frames := 0, cells := 0, slots := 0, locals := 0 }) (va_Pc [.ref rb, .int (nI d)] (zRW D ka rb M)) (vp_Si (fun r => r = (nI (zans M d)))) 0 0 (fun _ => False) := by
  refine z_met (by decide) (Nat.le_of_ble_eq_true rfl) ?_
  intro pg e s m below meth c hx hb hml hr hts hown hlk hnm hB ls hl
  obtain ⟨hP, hK⟩ := hB
  have hl : lv_has ls 4 [(0, .ref rb), (1, .int (nI d))] := hl
  refine lv_iconst (v := 0) hx hb zd_M_answers_0 (by decide) ?_
  refine lv_istore_n hx hb zd_M_answers_1 rfl hl (by decide) rfl (fun ls hl => ?_)
  have hl : lv_has ls 4 [(2, .int 0), (0, .ref rb), (1, .int (nI d))] := hl
  refine lv_iconst (v := 0) hx hb zd_M_answers_2 (by decide) ?_
  refine lv_istore_n hx hb zd_M_answers_3 rfl hl (by decide) rfl (fun ls hl => ?_)
  have hl : lv_has ls 4 [(3, .int 0), (2, .int 0), (0, .ref rb), (1, .int (nI d))] := hl
  have L4 : ∀ (j k : Nat), k + j = 9 → ∀ (ls : Array Slot), lv_has ls 4 [(0, .ref rb), (1, .int (nI d)), (2, .int (nI (zcn (fun r => decide (¬ M 19 (9 * d + r) = 0)) k))), (3, .int (nI k))] → W pg l e ({ frames := 0, cells := 0, slots := 0, locals := 0 }) s m (List.toArray [.ref rb, .int (nI d)]) below meth c s.heap [] 0 0 (MQ below (vp_Si (fun r => r = (nI (zans M d)))) (List.toArray [.ref rb, .int (nI d)]) s 0 0 (fun _ => False)) (F0 m 4 ls []) := by
    intro j
    induction j with
    | zero =>
      intro k hk ls hl
      have hk : k = 9 := by omega
      subst hk
      refine lv_iload_n hx hb zd_M_answers_4 rfl (lv_at hl 3 rfl) ?_
      refine lv_bipush (v := 9) hx hb zd_M_answers_5 (by decide) ?_
      refine lv_icmp_ge (tgt := 33) hx hb zd_M_answers_7 (by decide) (fun h7 => ?_) (fun h7 => absurd (by decide) h7)
      refine lv_iload_n hx hb zd_M_answers_33 rfl (lv_at hl 2 rfl) ?_
      exact zS_iret hx hb hr hlk rfl rfl rfl zd_M_answers_34
    | succ j ih =>
      intro k hk ls hl
      refine lv_iload_n hx hb zd_M_answers_4 rfl (lv_at hl 3 rfl) ?_
      refine lv_bipush (v := 9) hx hb zd_M_answers_5 (by decide) ?_
      refine lv_icmp_ge (tgt := 33) hx hb zd_M_answers_7 (by decide) (fun h7 => absurd h7 (nI_ge (b := 9) (by omega) (by decide))) (fun h7 => ?_)
      refine lv_aload_n hx hb zd_M_answers_10 rfl (lv_at hl 0 rfl) ?_
      refine zR_get 19 (by decide) hx hb hts hown hK hP (zl_M_65 hts) rfl rfl zd_M_answers_11 ?_
      refine lv_bipush (v := 9) hx hb zd_M_answers_14 (by decide) ?_
      refine lv_iload_n hx hb zd_M_answers_16 rfl (lv_at hl 1 rfl) ?_
      refine lv_imul hx hb zd_M_answers_17 ?_
      refine lv_iload_n hx hb zd_M_answers_18 rfl (lv_at hl 3 rfl) ?_
      refine lv_iadd hx hb zd_M_answers_19 ?_
      refine zR_zld 19 (by decide) (j := (9 * d + k)) hx hb hK hP (zn_a9 _ _) (show (9 * d + k) < 27 from by omega) zd_M_answers_20 ?_
      refine lv_if_eq (tgt := 27) hx hb zd_M_answers_21 (by decide) (fun h21 => ?_) (fun h21 => ?_)
      · refine lv_iinc (v := nI (k + 1)) (k := 3) hx hb zd_M_answers_27 hl rfl (nI_1 _) (by decide) rfl (fun ls hl => ?_)
        have hl : lv_has ls 4 [(3, .int (nI (k + 1))), (0, .ref rb), (1, .int (nI d)), (2, .int (nI (zcn (fun r => decide (¬ M 19 (9 * d + r) = 0)) k)))] := hl
        refine lv_goto (tgt := 4) hx hb zd_M_answers_30 (by decide) ?_
        refine ih (k + 1) (by omega) ls ?_
        · first | rw [zcn_s (f := fun r => decide (¬ M 19 (9 * d + r) = 0)) (decide_eq_true h21)] | rw [zcn_f (f := fun r => decide (¬ M 19 (9 * d + r) = 0)) (decide_eq_false (fun hh => hh h21))]
          exact lv_sub hl [1, 2, 3, 0] rfl
      · refine lv_iinc (v := nI ((zcn (fun r => decide (¬ M 19 (9 * d + r) = 0)) k) + 1)) (k := 2) hx hb zd_M_answers_24 hl rfl (nI_1 _) (by decide) rfl (fun ls hl => ?_)
        have hl : lv_has ls 4 [(2, .int (nI ((zcn (fun r => decide (¬ M 19 (9 * d + r) = 0)) k) + 1))), (0, .ref rb), (1, .int (nI d)), (3, .int (nI k))] := hl
        refine lv_iinc (v := nI (k + 1)) (k := 3) hx hb zd_M_answers_27 hl rfl (nI_1 _) (by decide) rfl (fun ls hl => ?_)
        have hl : lv_has ls 4 [(3, .int (nI (k + 1))), (2, .int (nI ((zcn (fun r => decide (¬ M 19 (9 * d + r) = 0)) k) + 1))), (0, .ref rb), (1, .int (nI d))] := hl
        refine lv_goto (tgt := 4) hx hb zd_M_answers_30 (by decide) ?_
        refine ih (k + 1) (by omega) ls ?_
        · first | rw [zcn_s (f := fun r => decide (¬ M 19 (9 * d + r) = 0)) (decide_eq_true h21)] | rw [zcn_f (f := fun r => decide (¬ M 19 (9 * d + r) = 0)) (decide_eq_false (fun hh => hh h21))]
          exact lv_sub hl [2, 3, 1, 0] rfl
  exact L4 9 0 (by omega) _ (lv_sub hl [2, 3, 1, 0] rfl)
