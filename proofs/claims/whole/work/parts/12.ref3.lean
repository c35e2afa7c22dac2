set_option maxRecDepth 100000 in
set_option maxHeartbeats 4000000 in
theorem zm_comes1 (l : Launch) (D : va_G) (ka : Nat → ClassId) (rb : Nat) (M : zM) (hL : zLt M) (r p : Nat) (hr0 : r < 9) (hp : p < 4) (h31 : M 31 300 = 1) (h32 : M 32 300 = nI r) (h33 : M 33 300 = nI p) : Met l zy_M_comes (.code zy_M_comes zc_M_comes 4 none :: zAll) ({ frames := 4, cells := 0, slots := 0, locals := 94 }) (va_Pc [.ref rb] (zRW D ka rb M)) (zRQv D ka rb (zcomes M)) 0 0 (zRA rb) := by
  refine z_met (by decide) (Nat.le_of_ble_eq_true rfl) ?_
  intro pg e s m below meth c hx hb hml hr hts hown hlk hnm hB ls hl
  obtain ⟨hP, hK⟩ := hB
  have hS : va_S (zRA rb) s.heap s.heap [] := va_S.rf
  have hl : lv_has ls 4 [(0, .ref rb)] := hl
  have e31 := h31
  have z_r : zix (nI r) = r := zix_n (by omega)
  have z_p : zix (nI p) = p := zix_n (by omega)
  refine lv_aload_n hx hb zd_M_comes_0 rfl (lv_at hl 0 rfl) ?_
  refine zR_get 33 (by decide) hx hb hts hown hK hP (zl_M_104 hts) rfl rfl zd_M_comes_1 ?_
  refine lv_sipush (v := 300) hx hb zd_M_comes_4 (by decide) ?_
  refine zR_ld 32 (by decide) (j := 300) hx hb hK hP (by decide) (show 300 < 301 from by omega) zd_M_comes_7 ?_
  refine z_top h32 ?_
  refine lv_istore_n hx hb zd_M_comes_8 rfl hl (by decide) rfl (fun ls hl => ?_)
  have hl : lv_has ls 4 [(1, .int (nI r)), (0, .ref rb)] := hl
  refine lv_iconst (v := 4) hx hb zd_M_comes_9 (by decide) ?_
  refine lv_iload_n hx hb zd_M_comes_10 rfl (lv_at hl 0 rfl) ?_
  refine lv_imul hx hb zd_M_comes_11 ?_
  refine z_top (zn_m4 _) ?_
  refine lv_aload_n hx hb zd_M_comes_12 rfl (lv_at hl 1 rfl) ?_
  refine zR_get 34 (by decide) hx hb hts hown hK hP (zl_M_107 hts) rfl rfl zd_M_comes_13 ?_
  refine lv_sipush (v := 300) hx hb zd_M_comes_16 (by decide) ?_
  refine zR_ld 33 (by decide) (j := 300) hx hb hK hP (by decide) (show 300 < 301 from by omega) zd_M_comes_19 ?_
  refine z_top h33 ?_
  refine lv_iadd hx hb zd_M_comes_20 ?_
  refine z_top (nI_add _ _) ?_
  refine lv_istore_n hx hb zd_M_comes_21 rfl hl (by decide) rfl (fun ls hl => ?_)
  have hl : lv_has ls 4 [(2, .int (nI (4 * r + p))), (1, .int (nI r)), (0, .ref rb)] := hl
  refine lv_aload_n hx hb zd_M_comes_22 rfl (lv_at hl 2 rfl) ?_
  refine zR_get 4 (by decide) hx hb hts hown hK hP (zl_M_20 hts) rfl rfl zd_M_comes_23 ?_
  refine lv_iload_n hx hb zd_M_comes_26 rfl (lv_at hl 1 rfl) ?_
  refine zR_zld 4 (by decide) (j := r) hx hb hK hP rfl (show r < 9 from by omega) zd_M_comes_27 ?_
  refine lv_if_ne (tgt := 40) hx hb zd_M_comes_28 (by decide) (fun h28 => ?_) (fun h28 => ?_)
  · refine lv_iconst (v := 1) hx hb zd_M_comes_40 (by decide) ?_
    refine lv_goto (tgt := 45) hx hb zd_M_comes_41 (by decide) ?_
    refine lv_istore_n hx hb zd_M_comes_45 rfl hl (by decide) rfl (fun ls hl => ?_)
    have hl : lv_has ls 4 [(3, .int 1), (2, .int (nI (4 * r + p))), (1, .int (nI r)), (0, .ref rb)] := hl
    refine lv_aload_n hx hb zd_M_comes_46 rfl (lv_at hl 3 rfl) ?_
    refine zR_get 32 (by decide) hx hb hts hown hK hP (zl_M_101 hts) rfl rfl zd_M_comes_47 ?_
    refine lv_sipush (v := 300) hx hb zd_M_comes_50 (by decide) ?_
    refine zR_ld 31 (by decide) (j := 300) hx hb hK hP (by decide) (show 300 < 301 from by omega) zd_M_comes_53 ?_
    refine lv_iconst (v := 1) hx hb zd_M_comes_54 (by decide) ?_
    refine lv_icmp_ne (tgt := 67) hx hb zd_M_comes_55 (by decide) (fun h55 => absurd e31 h55) (fun h55 => ?_)
    refine lv_iload_n hx hb zd_M_comes_58 rfl (lv_at hl 0 rfl) ?_
    refine lv_if_ne (tgt := 67) hx hb zd_M_comes_59 (by decide) (fun h59 => ?_) (fun h59 => absurd h59 (by decide))
    refine lv_aload_n hx hb zd_M_comes_67 rfl (lv_at hl 3 rfl) ?_
    refine zR_get 32 (by decide) hx hb hts hown hK hP (zl_M_101 hts) rfl rfl zd_M_comes_68 ?_
    refine lv_sipush (v := 300) hx hb zd_M_comes_71 (by decide) ?_
    refine zR_ld 31 (by decide) (j := 300) hx hb hK hP (by decide) (show 300 < 301 from by omega) zd_M_comes_74 ?_
    refine lv_iconst (v := 2) hx hb zd_M_comes_75 (by decide) ?_
    refine lv_icmp_ne (tgt := 100) hx hb zd_M_comes_76 (by decide) (fun h76 => ?_) (fun h76 => absurd (e31.symm.trans h76) (by decide))
    refine lv_aload_n hx hb zd_M_comes_100 rfl (lv_at hl 3 rfl) ?_
    refine zR_get 32 (by decide) hx hb hts hown hK hP (zl_M_101 hts) rfl rfl zd_M_comes_101 ?_
    refine lv_sipush (v := 300) hx hb zd_M_comes_104 (by decide) ?_
    refine zR_ld 31 (by decide) (j := 300) hx hb hK hP (by decide) (show 300 < 301 from by omega) zd_M_comes_107 ?_
    refine lv_iconst (v := 3) hx hb zd_M_comes_108 (by decide) ?_
    refine lv_icmp_ne (tgt := 163) hx hb zd_M_comes_109 (by decide) (fun h109 => ?_) (fun h109 => absurd (e31.symm.trans h109) (by decide))
    refine lv_aload_n hx hb zd_M_comes_163 rfl (lv_at hl 3 rfl) ?_
    refine zR_get 32 (by decide) hx hb hts hown hK hP (zl_M_101 hts) rfl rfl zd_M_comes_164 ?_
    refine lv_sipush (v := 300) hx hb zd_M_comes_167 (by decide) ?_
    refine zR_ld 31 (by decide) (j := 300) hx hb hK hP (by decide) (show 300 < 301 from by omega) zd_M_comes_170 ?_
    refine lv_iconst (v := 4) hx hb zd_M_comes_171 (by decide) ?_
    refine lv_icmp_ne (tgt := 179) hx hb zd_M_comes_172 (by decide) (fun h172 => ?_) (fun h172 => absurd (e31.symm.trans h172) (by decide))
    exact zR_vret hx hb hr hlk hK hP hS (by simp [zcomes, h31, h32, h33, z_r, z_p, zdeaf, h28, h55, h59, h76, h109, h172]) zd_M_comes_179
  · refine lv_aload_n hx hb zd_M_comes_31 rfl (lv_at hl 2 rfl) ?_
    refine zR_get 5 (by decide) hx hb hts hown hK hP (zl_M_23 hts) rfl rfl zd_M_comes_32 ?_
    refine lv_iload_n hx hb zd_M_comes_35 rfl (lv_at hl 1 rfl) ?_
    refine zR_zld 5 (by decide) (j := r) hx hb hK hP rfl (show r < 9 from by omega) zd_M_comes_36 ?_
    refine lv_if_eq (tgt := 44) hx hb zd_M_comes_37 (by decide) (fun h37 => ?_) (fun h37 => ?_)
    · refine lv_iconst (v := 0) hx hb zd_M_comes_44 (by decide) ?_
      refine lv_istore_n hx hb zd_M_comes_45 rfl hl (by decide) rfl (fun ls hl => ?_)
      have hl : lv_has ls 4 [(3, .int 0), (2, .int (nI (4 * r + p))), (1, .int (nI r)), (0, .ref rb)] := hl
      refine lv_aload_n hx hb zd_M_comes_46 rfl (lv_at hl 3 rfl) ?_
      refine zR_get 32 (by decide) hx hb hts hown hK hP (zl_M_101 hts) rfl rfl zd_M_comes_47 ?_
      refine lv_sipush (v := 300) hx hb zd_M_comes_50 (by decide) ?_
      refine zR_ld 31 (by decide) (j := 300) hx hb hK hP (by decide) (show 300 < 301 from by omega) zd_M_comes_53 ?_
      refine lv_iconst (v := 1) hx hb zd_M_comes_54 (by decide) ?_
      refine lv_icmp_ne (tgt := 67) hx hb zd_M_comes_55 (by decide) (fun h55 => absurd e31 h55) (fun h55 => ?_)
      refine lv_iload_n hx hb zd_M_comes_58 rfl (lv_at hl 0 rfl) ?_
      refine lv_if_ne (tgt := 67) hx hb zd_M_comes_59 (by decide) (fun h59 => absurd h59 (by decide)) (fun h59 => ?_)
      refine lv_aload_n hx hb zd_M_comes_62 rfl (lv_at hl 3 rfl) ?_
      refine lv_iload_n hx hb zd_M_comes_63 rfl (lv_at hl 1 rfl) ?_
      refine zR_callv (nA := 1) (As := [.int (nI (4 * r + p))]) (rest := []) (zm_storeComes l D ka rb M hL (4 * r + p) (by omega)) (zg_M_storeComes zk_M_177) rfl (by decide) ⟨rfl, rfl⟩ ⟨Nat.le_of_ble_eq_true rfl, Nat.le_of_ble_eq_true rfl⟩ hx hb hml hts hown hK hP hS (fun _ h => h) hl.1 rfl rfl (Nat.le_of_ble_eq_true rfl) ⟨Nat.zero_le _, Nat.zero_le _⟩ zd_M_comes_64 (fun H locs hP hS => ?_)
      have e31 : zstoreComes M (4 * r + p) 31 300 = 1 := by rw [zstoreComes_300 hL (by decide) (by decide)]; exact h31
      refine lv_aload_n hx hb zd_M_comes_67 rfl (lv_at hl 3 rfl) ?_
      refine zR_get 32 (by decide) hx hb hts hown hK hP (zl_M_101 hts) rfl rfl zd_M_comes_68 ?_
      refine lv_sipush (v := 300) hx hb zd_M_comes_71 (by decide) ?_
      refine zR_ld 31 (by decide) (j := 300) hx hb hK hP (by decide) (show 300 < 301 from by omega) zd_M_comes_74 ?_
      refine lv_iconst (v := 2) hx hb zd_M_comes_75 (by decide) ?_
      refine lv_icmp_ne (tgt := 100) hx hb zd_M_comes_76 (by decide) (fun h76 => ?_) (fun h76 => absurd (e31.symm.trans h76) (by decide))
      refine lv_aload_n hx hb zd_M_comes_100 rfl (lv_at hl 3 rfl) ?_
      refine zR_get 32 (by decide) hx hb hts hown hK hP (zl_M_101 hts) rfl rfl zd_M_comes_101 ?_
      refine lv_sipush (v := 300) hx hb zd_M_comes_104 (by decide) ?_
      refine zR_ld 31 (by decide) (j := 300) hx hb hK hP (by decide) (show 300 < 301 from by omega) zd_M_comes_107 ?_
      refine lv_iconst (v := 3) hx hb zd_M_comes_108 (by decide) ?_
      refine lv_icmp_ne (tgt := 163) hx hb zd_M_comes_109 (by decide) (fun h109 => ?_) (fun h109 => absurd (e31.symm.trans h109) (by decide))
      refine lv_aload_n hx hb zd_M_comes_163 rfl (lv_at hl 3 rfl) ?_
      refine zR_get 32 (by decide) hx hb hts hown hK hP (zl_M_101 hts) rfl rfl zd_M_comes_164 ?_
      refine lv_sipush (v := 300) hx hb zd_M_comes_167 (by decide) ?_
      refine zR_ld 31 (by decide) (j := 300) hx hb hK hP (by decide) (show 300 < 301 from by omega) zd_M_comes_170 ?_
      refine lv_iconst (v := 4) hx hb zd_M_comes_171 (by decide) ?_
      refine lv_icmp_ne (tgt := 179) hx hb zd_M_comes_172 (by decide) (fun h172 => ?_) (fun h172 => absurd (e31.symm.trans h172) (by decide))
      exact zR_vret hx hb hr hlk hK hP hS (by simp [zcomes, h31, h32, h33, z_r, z_p, zdeaf, h28, h37, h55, h59, h76, h109, h172]) zd_M_comes_179
    · refine lv_iconst (v := 1) hx hb zd_M_comes_40 (by decide) ?_
      refine lv_goto (tgt := 45) hx hb zd_M_comes_41 (by decide) ?_
      refine lv_istore_n hx hb zd_M_comes_45 rfl hl (by decide) rfl (fun ls hl => ?_)
      have hl : lv_has ls 4 [(3, .int 1), (2, .int (nI (4 * r + p))), (1, .int (nI r)), (0, .ref rb)] := hl
      refine lv_aload_n hx hb zd_M_comes_46 rfl (lv_at hl 3 rfl) ?_
      refine zR_get 32 (by decide) hx hb hts hown hK hP (zl_M_101 hts) rfl rfl zd_M_comes_47 ?_
      refine lv_sipush (v := 300) hx hb zd_M_comes_50 (by decide) ?_
      refine zR_ld 31 (by decide) (j := 300) hx hb hK hP (by decide) (show 300 < 301 from by omega) zd_M_comes_53 ?_
      refine lv_iconst (v := 1) hx hb zd_M_comes_54 (by decide) ?_
      refine lv_icmp_ne (tgt := 67) hx hb zd_M_comes_55 (by decide) (fun h55 => absurd e31 h55) (fun h55 => ?_)
      refine lv_iload_n hx hb zd_M_comes_58 rfl (lv_at hl 0 rfl) ?_
      refine lv_if_ne (tgt := 67) hx hb zd_M_comes_59 (by decide) (fun h59 => ?_) (fun h59 => absurd h59 (by decide))
      refine lv_aload_n hx hb zd_M_comes_67 rfl (lv_at hl 3 rfl) ?_
      refine zR_get 32 (by decide) hx hb hts hown hK hP (zl_M_101 hts) rfl rfl zd_M_comes_68 ?_
      refine lv_sipush (v := 300) hx hb zd_M_comes_71 (by decide) ?_
      refine zR_ld 31 (by decide) (j := 300) hx hb hK hP (by decide) (show 300 < 301 from by omega) zd_M_comes_74 ?_
      refine lv_iconst (v := 2) hx hb zd_M_comes_75 (by decide) ?_
      refine lv_icmp_ne (tgt := 100) hx hb zd_M_comes_76 (by decide) (fun h76 => ?_) (fun h76 => absurd (e31.symm.trans h76) (by decide))
      refine lv_aload_n hx hb zd_M_comes_100 rfl (lv_at hl 3 rfl) ?_
      refine zR_get 32 (by decide) hx hb hts hown hK hP (zl_M_101 hts) rfl rfl zd_M_comes_101 ?_
      refine lv_sipush (v := 300) hx hb zd_M_comes_104 (by decide) ?_
      refine zR_ld 31 (by decide) (j := 300) hx hb hK hP (by decide) (show 300 < 301 from by omega) zd_M_comes_107 ?_
      refine lv_iconst (v := 3) hx hb zd_M_comes_108 (by decide) ?_
      refine lv_icmp_ne (tgt := 163) hx hb zd_M_comes_109 (by decide) (fun h109 => ?_) (fun h109 => absurd (e31.symm.trans h109) (by decide))
      refine lv_aload_n hx hb zd_M_comes_163 rfl (lv_at hl 3 rfl) ?_
      refine zR_get 32 (by decide) hx hb hts hown hK hP (zl_M_101 hts) rfl rfl zd_M_comes_164 ?_
      refine lv_sipush (v := 300) hx hb zd_M_comes_167 (by decide) ?_
      refine zR_ld 31 (by decide) (j := 300) hx hb hK hP (by decide) (show 300 < 301 from by omega) zd_M_comes_170 ?_
      refine lv_iconst (v := 4) hx hb zd_M_comes_171 (by decide) ?_
      refine lv_icmp_ne (tgt := 179) hx hb zd_M_comes_172 (by decide) (fun h172 => ?_) (fun h172 => absurd (e31.symm.trans h172) (by decide))
      exact zR_vret hx hb hr hlk hK hP hS (by simp [zcomes, h31, h32, h33, z_r, z_p, zdeaf, h28, h37, h55, h59, h76, h109, h172]) zd_M_comes_179
set_option maxRecDepth 100000 in
set_option maxHeartbeats 4000000 in
theorem zm_comes2 (l : Launch) (D : va_G) (ka : Nat → ClassId) (rb : Nat) (M : zM) (hL : zLt M) (r p : Nat) (hr0 : r < 9) (hp : p < 4) (h31 : M 31 300 = 2) (h32 : M 32 300 = nI r) (h33 : M 33 300 = nI p) : Met l zy_M_comes (.code zy_M_comes zc_M_comes 4 none :: zAll) ({ frames := 4, cells := 0, slots := 0, locals := 94 }) (va_Pc [.ref rb] (zRW D ka rb M)) (zRQv D ka rb (zcomes M)) 0 0 (zRA rb) := by
  refine z_met (by decide) (Nat.le_of_ble_eq_true rfl) ?_
  intro pg e s m below meth c hx hb hml hr hts hown hlk hnm hB ls hl
  obtain ⟨hP, hK⟩ := hB
  have hS : va_S (zRA rb) s.heap s.heap [] := va_S.rf
  have hl : lv_has ls 4 [(0, .ref rb)] := hl
  have e31 := h31
  have z_r : zix (nI r) = r := zix_n (by omega)
  have z_p : zix (nI p) = p := zix_n (by omega)
  refine lv_aload_n hx hb zd_M_comes_0 rfl (lv_at hl 0 rfl) ?_
  refine zR_get 33 (by decide) hx hb hts hown hK hP (zl_M_104 hts) rfl rfl zd_M_comes_1 ?_
  refine lv_sipush (v := 300) hx hb zd_M_comes_4 (by decide) ?_
  refine zR_ld 32 (by decide) (j := 300) hx hb hK hP (by decide) (show 300 < 301 from by omega) zd_M_comes_7 ?_
  refine z_top h32 ?_
  refine lv_istore_n hx hb zd_M_comes_8 rfl hl (by decide) rfl (fun ls hl => ?_)
  have hl : lv_has ls 4 [(1, .int (nI r)), (0, .ref rb)] := hl
  refine lv_iconst (v := 4) hx hb zd_M_comes_9 (by decide) ?_
  refine lv_iload_n hx hb zd_M_comes_10 rfl (lv_at hl 0 rfl) ?_
  refine lv_imul hx hb zd_M_comes_11 ?_
  refine z_top (zn_m4 _) ?_
  refine lv_aload_n hx hb zd_M_comes_12 rfl (lv_at hl 1 rfl) ?_
  refine zR_get 34 (by decide) hx hb hts hown hK hP (zl_M_107 hts) rfl rfl zd_M_comes_13 ?_
  refine lv_sipush (v := 300) hx hb zd_M_comes_16 (by decide) ?_
  refine zR_ld 33 (by decide) (j := 300) hx hb hK hP (by decide) (show 300 < 301 from by omega) zd_M_comes_19 ?_
  refine z_top h33 ?_
  refine lv_iadd hx hb zd_M_comes_20 ?_
  refine z_top (nI_add _ _) ?_
  refine lv_istore_n hx hb zd_M_comes_21 rfl hl (by decide) rfl (fun ls hl => ?_)
  have hl : lv_has ls 4 [(2, .int (nI (4 * r + p))), (1, .int (nI r)), (0, .ref rb)] := hl
  refine lv_aload_n hx hb zd_M_comes_22 rfl (lv_at hl 2 rfl) ?_
  refine zR_get 4 (by decide) hx hb hts hown hK hP (zl_M_20 hts) rfl rfl zd_M_comes_23 ?_
  refine lv_iload_n hx hb zd_M_comes_26 rfl (lv_at hl 1 rfl) ?_
  refine zR_zld 4 (by decide) (j := r) hx hb hK hP rfl (show r < 9 from by omega) zd_M_comes_27 ?_
  refine lv_if_ne (tgt := 40) hx hb zd_M_comes_28 (by decide) (fun h28 => ?_) (fun h28 => ?_)
  · refine lv_iconst (v := 1) hx hb zd_M_comes_40 (by decide) ?_
    refine lv_goto (tgt := 45) hx hb zd_M_comes_41 (by decide) ?_
    refine lv_istore_n hx hb zd_M_comes_45 rfl hl (by decide) rfl (fun ls hl => ?_)
    have hl : lv_has ls 4 [(3, .int 1), (2, .int (nI (4 * r + p))), (1, .int (nI r)), (0, .ref rb)] := hl
    refine lv_aload_n hx hb zd_M_comes_46 rfl (lv_at hl 3 rfl) ?_
    refine zR_get 32 (by decide) hx hb hts hown hK hP (zl_M_101 hts) rfl rfl zd_M_comes_47 ?_
    refine lv_sipush (v := 300) hx hb zd_M_comes_50 (by decide) ?_
    refine zR_ld 31 (by decide) (j := 300) hx hb hK hP (by decide) (show 300 < 301 from by omega) zd_M_comes_53 ?_
    refine lv_iconst (v := 1) hx hb zd_M_comes_54 (by decide) ?_
    refine lv_icmp_ne (tgt := 67) hx hb zd_M_comes_55 (by decide) (fun h55 => ?_) (fun h55 => absurd (e31.symm.trans h55) (by decide))
    refine lv_aload_n hx hb zd_M_comes_67 rfl (lv_at hl 3 rfl) ?_
    refine zR_get 32 (by decide) hx hb hts hown hK hP (zl_M_101 hts) rfl rfl zd_M_comes_68 ?_
    refine lv_sipush (v := 300) hx hb zd_M_comes_71 (by decide) ?_
    refine zR_ld 31 (by decide) (j := 300) hx hb hK hP (by decide) (show 300 < 301 from by omega) zd_M_comes_74 ?_
    refine lv_iconst (v := 2) hx hb zd_M_comes_75 (by decide) ?_
    refine lv_icmp_ne (tgt := 100) hx hb zd_M_comes_76 (by decide) (fun h76 => absurd e31 h76) (fun h76 => ?_)
    refine lv_aload_n hx hb zd_M_comes_79 rfl (lv_at hl 3 rfl) ?_
    refine lv_aload_n hx hb zd_M_comes_80 rfl (lv_at hl 3 rfl) ?_
    refine zR_get 34 (by decide) hx hb hts hown hK hP (zl_M_107 hts) rfl rfl zd_M_comes_81 ?_
    refine lv_sipush (v := 300) hx hb zd_M_comes_84 (by decide) ?_
    refine zR_ld 33 (by decide) (j := 300) hx hb hK hP (by decide) (show 300 < 301 from by omega) zd_M_comes_87 ?_
    refine z_top h33 ?_
    refine lv_iload_n hx hb zd_M_comes_88 rfl (lv_at hl 2 rfl) ?_
    refine lv_aload_n hx hb zd_M_comes_89 rfl (lv_at hl 3 rfl) ?_
    refine zR_get 36 (by decide) hx hb hts hown hK hP (zl_M_113 hts) rfl rfl zd_M_comes_90 ?_
    refine lv_sipush (v := 300) hx hb zd_M_comes_93 (by decide) ?_
    refine zR_ld 35 (by decide) (j := 300) hx hb hK hP (by decide) (show 300 < 301 from by omega) zd_M_comes_96 ?_
    refine zR_callv (nA := 3) (As := [.int (nI p), .int (nI r), .int (M 35 300)]) (rest := []) (zm_receiptComes l D ka rb M p r (by omega) (by omega) (M 35 300)) (zg_M_receiptComes zk_M_180) rfl (by decide) ⟨rfl, rfl⟩ ⟨Nat.le_of_ble_eq_true rfl, Nat.le_of_ble_eq_true rfl⟩ hx hb hml hts hown hK hP hS (fun _ h => h) hl.1 rfl rfl (Nat.le_of_ble_eq_true rfl) ⟨Nat.zero_le _, Nat.zero_le _⟩ zd_M_comes_97 (fun H locs hP hS => ?_)
    have e31 : zrcComes M p r (M 35 300) 31 300 = 2 := by rw [zrcComes_k (by decide)]; exact h31
    refine lv_aload_n hx hb zd_M_comes_100 rfl (lv_at hl 3 rfl) ?_
    refine zR_get 32 (by decide) hx hb hts hown hK hP (zl_M_101 hts) rfl rfl zd_M_comes_101 ?_
    refine lv_sipush (v := 300) hx hb zd_M_comes_104 (by decide) ?_
    refine zR_ld 31 (by decide) (j := 300) hx hb hK hP (by decide) (show 300 < 301 from by omega) zd_M_comes_107 ?_
    refine lv_iconst (v := 3) hx hb zd_M_comes_108 (by decide) ?_
    refine lv_icmp_ne (tgt := 163) hx hb zd_M_comes_109 (by decide) (fun h109 => ?_) (fun h109 => absurd (e31.symm.trans h109) (by decide))
    refine lv_aload_n hx hb zd_M_comes_163 rfl (lv_at hl 3 rfl) ?_
    refine zR_get 32 (by decide) hx hb hts hown hK hP (zl_M_101 hts) rfl rfl zd_M_comes_164 ?_
    refine lv_sipush (v := 300) hx hb zd_M_comes_167 (by decide) ?_
    refine zR_ld 31 (by decide) (j := 300) hx hb hK hP (by decide) (show 300 < 301 from by omega) zd_M_comes_170 ?_
    refine lv_iconst (v := 4) hx hb zd_M_comes_171 (by decide) ?_
    refine lv_icmp_ne (tgt := 179) hx hb zd_M_comes_172 (by decide) (fun h172 => ?_) (fun h172 => absurd (e31.symm.trans h172) (by decide))
    exact zR_vret hx hb hr hlk hK hP hS (by simp [zcomes, h31, h32, h33, z_r, z_p, zdeaf, h28, h55, h76, h109, h172]) zd_M_comes_179
  · refine lv_aload_n hx hb zd_M_comes_31 rfl (lv_at hl 2 rfl) ?_
    refine zR_get 5 (by decide) hx hb hts hown hK hP (zl_M_23 hts) rfl rfl zd_M_comes_32 ?_
    refine lv_iload_n hx hb zd_M_comes_35 rfl (lv_at hl 1 rfl) ?_
    refine zR_zld 5 (by decide) (j := r) hx hb hK hP rfl (show r < 9 from by omega) zd_M_comes_36 ?_
    refine lv_if_eq (tgt := 44) hx hb zd_M_comes_37 (by decide) (fun h37 => ?_) (fun h37 => ?_)
    · refine lv_iconst (v := 0) hx hb zd_M_comes_44 (by decide) ?_
      refine lv_istore_n hx hb zd_M_comes_45 rfl hl (by decide) rfl (fun ls hl => ?_)
      have hl : lv_has ls 4 [(3, .int 0), (2, .int (nI (4 * r + p))), (1, .int (nI r)), (0, .ref rb)] := hl
      refine lv_aload_n hx hb zd_M_comes_46 rfl (lv_at hl 3 rfl) ?_
      refine zR_get 32 (by decide) hx hb hts hown hK hP (zl_M_101 hts) rfl rfl zd_M_comes_47 ?_
      refine lv_sipush (v := 300) hx hb zd_M_comes_50 (by decide) ?_
      refine zR_ld 31 (by decide) (j := 300) hx hb hK hP (by decide) (show 300 < 301 from by omega) zd_M_comes_53 ?_
      refine lv_iconst (v := 1) hx hb zd_M_comes_54 (by decide) ?_
      refine lv_icmp_ne (tgt := 67) hx hb zd_M_comes_55 (by decide) (fun h55 => ?_) (fun h55 => absurd (e31.symm.trans h55) (by decide))
      refine lv_aload_n hx hb zd_M_comes_67 rfl (lv_at hl 3 rfl) ?_
      refine zR_get 32 (by decide) hx hb hts hown hK hP (zl_M_101 hts) rfl rfl zd_M_comes_68 ?_
      refine lv_sipush (v := 300) hx hb zd_M_comes_71 (by decide) ?_
      refine zR_ld 31 (by decide) (j := 300) hx hb hK hP (by decide) (show 300 < 301 from by omega) zd_M_comes_74 ?_
      refine lv_iconst (v := 2) hx hb zd_M_comes_75 (by decide) ?_
      refine lv_icmp_ne (tgt := 100) hx hb zd_M_comes_76 (by decide) (fun h76 => absurd e31 h76) (fun h76 => ?_)
      refine lv_aload_n hx hb zd_M_comes_79 rfl (lv_at hl 3 rfl) ?_
      refine lv_aload_n hx hb zd_M_comes_80 rfl (lv_at hl 3 rfl) ?_
      refine zR_get 34 (by decide) hx hb hts hown hK hP (zl_M_107 hts) rfl rfl zd_M_comes_81 ?_
      refine lv_sipush (v := 300) hx hb zd_M_comes_84 (by decide) ?_
      refine zR_ld 33 (by decide) (j := 300) hx hb hK hP (by decide) (show 300 < 301 from by omega) zd_M_comes_87 ?_
      refine z_top h33 ?_
      refine lv_iload_n hx hb zd_M_comes_88 rfl (lv_at hl 2 rfl) ?_
      refine lv_aload_n hx hb zd_M_comes_89 rfl (lv_at hl 3 rfl) ?_
      refine zR_get 36 (by decide) hx hb hts hown hK hP (zl_M_113 hts) rfl rfl zd_M_comes_90 ?_
      refine lv_sipush (v := 300) hx hb zd_M_comes_93 (by decide) ?_
      refine zR_ld 35 (by decide) (j := 300) hx hb hK hP (by decide) (show 300 < 301 from by omega) zd_M_comes_96 ?_
      refine zR_callv (nA := 3) (As := [.int (nI p), .int (nI r), .int (M 35 300)]) (rest := []) (zm_receiptComes l D ka rb M p r (by omega) (by omega) (M 35 300)) (zg_M_receiptComes zk_M_180) rfl (by decide) ⟨rfl, rfl⟩ ⟨Nat.le_of_ble_eq_true rfl, Nat.le_of_ble_eq_true rfl⟩ hx hb hml hts hown hK hP hS (fun _ h => h) hl.1 rfl rfl (Nat.le_of_ble_eq_true rfl) ⟨Nat.zero_le _, Nat.zero_le _⟩ zd_M_comes_97 (fun H locs hP hS => ?_)
      have e31 : zrcComes M p r (M 35 300) 31 300 = 2 := by rw [zrcComes_k (by decide)]; exact h31
      refine lv_aload_n hx hb zd_M_comes_100 rfl (lv_at hl 3 rfl) ?_
      refine zR_get 32 (by decide) hx hb hts hown hK hP (zl_M_101 hts) rfl rfl zd_M_comes_101 ?_
      refine lv_sipush (v := 300) hx hb zd_M_comes_104 (by decide) ?_
      refine zR_ld 31 (by decide) (j := 300) hx hb hK hP (by decide) (show 300 < 301 from by omega) zd_M_comes_107 ?_
      refine lv_iconst (v := 3) hx hb zd_M_comes_108 (by decide) ?_
      refine lv_icmp_ne (tgt := 163) hx hb zd_M_comes_109 (by decide) (fun h109 => ?_) (fun h109 => absurd (e31.symm.trans h109) (by decide))
      refine lv_aload_n hx hb zd_M_comes_163 rfl (lv_at hl 3 rfl) ?_
      refine zR_get 32 (by decide) hx hb hts hown hK hP (zl_M_101 hts) rfl rfl zd_M_comes_164 ?_
      refine lv_sipush (v := 300) hx hb zd_M_comes_167 (by decide) ?_
      refine zR_ld 31 (by decide) (j := 300) hx hb hK hP (by decide) (show 300 < 301 from by omega) zd_M_comes_170 ?_
      refine lv_iconst (v := 4) hx hb zd_M_comes_171 (by decide) ?_
      refine lv_icmp_ne (tgt := 179) hx hb zd_M_comes_172 (by decide) (fun h172 => ?_) (fun h172 => absurd (e31.symm.trans h172) (by decide))
      exact zR_vret hx hb hr hlk hK hP hS (by simp [zcomes, h31, h32, h33, z_r, z_p, zdeaf, h28, h37, h55, h76, h109, h172]) zd_M_comes_179
    · refine lv_iconst (v := 1) hx hb zd_M_comes_40 (by decide) ?_
      refine lv_goto (tgt := 45) hx hb zd_M_comes_41 (by decide) ?_
      refine lv_istore_n hx hb zd_M_comes_45 rfl hl (by decide) rfl (fun ls hl => ?_)
      have hl : lv_has ls 4 [(3, .int 1), (2, .int (nI (4 * r + p))), (1, .int (nI r)), (0, .ref rb)] := hl
      refine lv_aload_n hx hb zd_M_comes_46 rfl (lv_at hl 3 rfl) ?_
      refine zR_get 32 (by decide) hx hb hts hown hK hP (zl_M_101 hts) rfl rfl zd_M_comes_47 ?_
      refine lv_sipush (v := 300) hx hb zd_M_comes_50 (by decide) ?_
      refine zR_ld 31 (by decide) (j := 300) hx hb hK hP (by decide) (show 300 < 301 from by omega) zd_M_comes_53 ?_
      refine lv_iconst (v := 1) hx hb zd_M_comes_54 (by decide) ?_
      refine lv_icmp_ne (tgt := 67) hx hb zd_M_comes_55 (by decide) (fun h55 => ?_) (fun h55 => absurd (e31.symm.trans h55) (by decide))
      refine lv_aload_n hx hb zd_M_comes_67 rfl (lv_at hl 3 rfl) ?_
      refine zR_get 32 (by decide) hx hb hts hown hK hP (zl_M_101 hts) rfl rfl zd_M_comes_68 ?_
      refine lv_sipush (v := 300) hx hb zd_M_comes_71 (by decide) ?_
      refine zR_ld 31 (by decide) (j := 300) hx hb hK hP (by decide) (show 300 < 301 from by omega) zd_M_comes_74 ?_
      refine lv_iconst (v := 2) hx hb zd_M_comes_75 (by decide) ?_
      refine lv_icmp_ne (tgt := 100) hx hb zd_M_comes_76 (by decide) (fun h76 => absurd e31 h76) (fun h76 => ?_)
      refine lv_aload_n hx hb zd_M_comes_79 rfl (lv_at hl 3 rfl) ?_
      refine lv_aload_n hx hb zd_M_comes_80 rfl (lv_at hl 3 rfl) ?_
      refine zR_get 34 (by decide) hx hb hts hown hK hP (zl_M_107 hts) rfl rfl zd_M_comes_81 ?_
      refine lv_sipush (v := 300) hx hb zd_M_comes_84 (by decide) ?_
      refine zR_ld 33 (by decide) (j := 300) hx hb hK hP (by decide) (show 300 < 301 from by omega) zd_M_comes_87 ?_
      refine z_top h33 ?_
      refine lv_iload_n hx hb zd_M_comes_88 rfl (lv_at hl 2 rfl) ?_
      refine lv_aload_n hx hb zd_M_comes_89 rfl (lv_at hl 3 rfl) ?_
      refine zR_get 36 (by decide) hx hb hts hown hK hP (zl_M_113 hts) rfl rfl zd_M_comes_90 ?_
      refine lv_sipush (v := 300) hx hb zd_M_comes_93 (by decide) ?_
      refine zR_ld 35 (by decide) (j := 300) hx hb hK hP (by decide) (show 300 < 301 from by omega) zd_M_comes_96 ?_
      refine zR_callv (nA := 3) (As := [.int (nI p), .int (nI r), .int (M 35 300)]) (rest := []) (zm_receiptComes l D ka rb M p r (by omega) (by omega) (M 35 300)) (zg_M_receiptComes zk_M_180) rfl (by decide) ⟨rfl, rfl⟩ ⟨Nat.le_of_ble_eq_true rfl, Nat.le_of_ble_eq_true rfl⟩ hx hb hml hts hown hK hP hS (fun _ h => h) hl.1 rfl rfl (Nat.le_of_ble_eq_true rfl) ⟨Nat.zero_le _, Nat.zero_le _⟩ zd_M_comes_97 (fun H locs hP hS => ?_)
      have e31 : zrcComes M p r (M 35 300) 31 300 = 2 := by rw [zrcComes_k (by decide)]; exact h31
      refine lv_aload_n hx hb zd_M_comes_100 rfl (lv_at hl 3 rfl) ?_
      refine zR_get 32 (by decide) hx hb hts hown hK hP (zl_M_101 hts) rfl rfl zd_M_comes_101 ?_
      refine lv_sipush (v := 300) hx hb zd_M_comes_104 (by decide) ?_
      refine zR_ld 31 (by decide) (j := 300) hx hb hK hP (by decide) (show 300 < 301 from by omega) zd_M_comes_107 ?_
      refine lv_iconst (v := 3) hx hb zd_M_comes_108 (by decide) ?_
      refine lv_icmp_ne (tgt := 163) hx hb zd_M_comes_109 (by decide) (fun h109 => ?_) (fun h109 => absurd (e31.symm.trans h109) (by decide))
      refine lv_aload_n hx hb zd_M_comes_163 rfl (lv_at hl 3 rfl) ?_
      refine zR_get 32 (by decide) hx hb hts hown hK hP (zl_M_101 hts) rfl rfl zd_M_comes_164 ?_
      refine lv_sipush (v := 300) hx hb zd_M_comes_167 (by decide) ?_
      refine zR_ld 31 (by decide) (j := 300) hx hb hK hP (by decide) (show 300 < 301 from by omega) zd_M_comes_170 ?_
      refine lv_iconst (v := 4) hx hb zd_M_comes_171 (by decide) ?_
      refine lv_icmp_ne (tgt := 179) hx hb zd_M_comes_172 (by decide) (fun h172 => ?_) (fun h172 => absurd (e31.symm.trans h172) (by decide))
      exact zR_vret hx hb hr hlk hK hP hS (by simp [zcomes, h31, h32, h33, z_r, z_p, zdeaf, h28, h37, h55, h76, h109, h172]) zd_M_comes_179
set_option maxRecDepth 100000 in
set_option maxHeartbeats 4000000 in
theorem zm_comes3 (l : Launch) (D : va_G) (ka : Nat → ClassId) (rb : Nat) (M : zM) (hL : zLt M) (r p : Nat) (hr0 : r < 9) (hp : p < 4) (h31 : M 31 300 = 3) (h32 : M 32 300 = nI r) (h33 : M 33 300 = nI p) : Met l zy_M_comes (.code zy_M_comes zc_M_comes 4 none :: zAll) ({ frames := 4, cells := 0, slots := 0, locals := 94 }) (va_Pc [.ref rb] (zRW D ka rb M)) (zRQv D ka rb (zcomes M)) 0 0 (zRA rb) := by
  refine z_met (by decide) (Nat.le_of_ble_eq_true rfl) ?_
  intro pg e s m below meth c hx hb hml hr hts hown hlk hnm hB ls hl
  obtain ⟨hP, hK⟩ := hB
  have hS : va_S (zRA rb) s.heap s.heap [] := va_S.rf
  have hl : lv_has ls 4 [(0, .ref rb)] := hl
  have e31 := h31
  have z_r : zix (nI r) = r := zix_n (by omega)
  have z_p : zix (nI p) = p := zix_n (by omega)
  refine lv_aload_n hx hb zd_M_comes_0 rfl (lv_at hl 0 rfl) ?_
  refine zR_get 33 (by decide) hx hb hts hown hK hP (zl_M_104 hts) rfl rfl zd_M_comes_1 ?_
  refine lv_sipush (v := 300) hx hb zd_M_comes_4 (by decide) ?_
  refine zR_ld 32 (by decide) (j := 300) hx hb hK hP (by decide) (show 300 < 301 from by omega) zd_M_comes_7 ?_
  refine z_top h32 ?_
  refine lv_istore_n hx hb zd_M_comes_8 rfl hl (by decide) rfl (fun ls hl => ?_)
  have hl : lv_has ls 4 [(1, .int (nI r)), (0, .ref rb)] := hl
  refine lv_iconst (v := 4) hx hb zd_M_comes_9 (by decide) ?_
  refine lv_iload_n hx hb zd_M_comes_10 rfl (lv_at hl 0 rfl) ?_
  refine lv_imul hx hb zd_M_comes_11 ?_
  refine z_top (zn_m4 _) ?_
  refine lv_aload_n hx hb zd_M_comes_12 rfl (lv_at hl 1 rfl) ?_
  refine zR_get 34 (by decide) hx hb hts hown hK hP (zl_M_107 hts) rfl rfl zd_M_comes_13 ?_
  refine lv_sipush (v := 300) hx hb zd_M_comes_16 (by decide) ?_
  refine zR_ld 33 (by decide) (j := 300) hx hb hK hP (by decide) (show 300 < 301 from by omega) zd_M_comes_19 ?_
  refine z_top h33 ?_
  refine lv_iadd hx hb zd_M_comes_20 ?_
  refine z_top (nI_add _ _) ?_
  refine lv_istore_n hx hb zd_M_comes_21 rfl hl (by decide) rfl (fun ls hl => ?_)
  have hl : lv_has ls 4 [(2, .int (nI (4 * r + p))), (1, .int (nI r)), (0, .ref rb)] := hl
  refine lv_aload_n hx hb zd_M_comes_22 rfl (lv_at hl 2 rfl) ?_
  refine zR_get 4 (by decide) hx hb hts hown hK hP (zl_M_20 hts) rfl rfl zd_M_comes_23 ?_
  refine lv_iload_n hx hb zd_M_comes_26 rfl (lv_at hl 1 rfl) ?_
  refine zR_zld 4 (by decide) (j := r) hx hb hK hP rfl (show r < 9 from by omega) zd_M_comes_27 ?_
  refine lv_if_ne (tgt := 40) hx hb zd_M_comes_28 (by decide) (fun h28 => ?_) (fun h28 => ?_)
  · refine lv_iconst (v := 1) hx hb zd_M_comes_40 (by decide) ?_
    refine lv_goto (tgt := 45) hx hb zd_M_comes_41 (by decide) ?_
    refine lv_istore_n hx hb zd_M_comes_45 rfl hl (by decide) rfl (fun ls hl => ?_)
    have hl : lv_has ls 4 [(3, .int 1), (2, .int (nI (4 * r + p))), (1, .int (nI r)), (0, .ref rb)] := hl
    refine lv_aload_n hx hb zd_M_comes_46 rfl (lv_at hl 3 rfl) ?_
    refine zR_get 32 (by decide) hx hb hts hown hK hP (zl_M_101 hts) rfl rfl zd_M_comes_47 ?_
    refine lv_sipush (v := 300) hx hb zd_M_comes_50 (by decide) ?_
    refine zR_ld 31 (by decide) (j := 300) hx hb hK hP (by decide) (show 300 < 301 from by omega) zd_M_comes_53 ?_
    refine lv_iconst (v := 1) hx hb zd_M_comes_54 (by decide) ?_
    refine lv_icmp_ne (tgt := 67) hx hb zd_M_comes_55 (by decide) (fun h55 => ?_) (fun h55 => absurd (e31.symm.trans h55) (by decide))
    refine lv_aload_n hx hb zd_M_comes_67 rfl (lv_at hl 3 rfl) ?_
    refine zR_get 32 (by decide) hx hb hts hown hK hP (zl_M_101 hts) rfl rfl zd_M_comes_68 ?_
    refine lv_sipush (v := 300) hx hb zd_M_comes_71 (by decide) ?_
    refine zR_ld 31 (by decide) (j := 300) hx hb hK hP (by decide) (show 300 < 301 from by omega) zd_M_comes_74 ?_
    refine lv_iconst (v := 2) hx hb zd_M_comes_75 (by decide) ?_
    refine lv_icmp_ne (tgt := 100) hx hb zd_M_comes_76 (by decide) (fun h76 => ?_) (fun h76 => absurd (e31.symm.trans h76) (by decide))
    refine lv_aload_n hx hb zd_M_comes_100 rfl (lv_at hl 3 rfl) ?_
    refine zR_get 32 (by decide) hx hb hts hown hK hP (zl_M_101 hts) rfl rfl zd_M_comes_101 ?_
    refine lv_sipush (v := 300) hx hb zd_M_comes_104 (by decide) ?_
    refine zR_ld 31 (by decide) (j := 300) hx hb hK hP (by decide) (show 300 < 301 from by omega) zd_M_comes_107 ?_
    refine lv_iconst (v := 3) hx hb zd_M_comes_108 (by decide) ?_
    refine lv_icmp_ne (tgt := 163) hx hb zd_M_comes_109 (by decide) (fun h109 => absurd e31 h109) (fun h109 => ?_)
    refine lv_iload_n hx hb zd_M_comes_112 rfl (lv_at hl 0 rfl) ?_
    refine lv_if_ne (tgt := 163) hx hb zd_M_comes_113 (by decide) (fun h113 => ?_) (fun h113 => absurd h113 (by decide))
    refine lv_aload_n hx hb zd_M_comes_163 rfl (lv_at hl 3 rfl) ?_
    refine zR_get 32 (by decide) hx hb hts hown hK hP (zl_M_101 hts) rfl rfl zd_M_comes_164 ?_
    refine lv_sipush (v := 300) hx hb zd_M_comes_167 (by decide) ?_
    refine zR_ld 31 (by decide) (j := 300) hx hb hK hP (by decide) (show 300 < 301 from by omega) zd_M_comes_170 ?_
    refine lv_iconst (v := 4) hx hb zd_M_comes_171 (by decide) ?_
    refine lv_icmp_ne (tgt := 179) hx hb zd_M_comes_172 (by decide) (fun h172 => ?_) (fun h172 => absurd (e31.symm.trans h172) (by decide))
    exact zR_vret hx hb hr hlk hK hP hS (by simp [zcomes, h31, h32, h33, z_r, z_p, zdeaf, h28, h55, h76, h109, h113, h172]) zd_M_comes_179
  · refine lv_aload_n hx hb zd_M_comes_31 rfl (lv_at hl 2 rfl) ?_
    refine zR_get 5 (by decide) hx hb hts hown hK hP (zl_M_23 hts) rfl rfl zd_M_comes_32 ?_
    refine lv_iload_n hx hb zd_M_comes_35 rfl (lv_at hl 1 rfl) ?_
    refine zR_zld 5 (by decide) (j := r) hx hb hK hP rfl (show r < 9 from by omega) zd_M_comes_36 ?_
    refine lv_if_eq (tgt := 44) hx hb zd_M_comes_37 (by decide) (fun h37 => ?_) (fun h37 => ?_)
    · refine lv_iconst (v := 0) hx hb zd_M_comes_44 (by decide) ?_
      refine lv_istore_n hx hb zd_M_comes_45 rfl hl (by decide) rfl (fun ls hl => ?_)
      have hl : lv_has ls 4 [(3, .int 0), (2, .int (nI (4 * r + p))), (1, .int (nI r)), (0, .ref rb)] := hl
      refine lv_aload_n hx hb zd_M_comes_46 rfl (lv_at hl 3 rfl) ?_
      refine zR_get 32 (by decide) hx hb hts hown hK hP (zl_M_101 hts) rfl rfl zd_M_comes_47 ?_
      refine lv_sipush (v := 300) hx hb zd_M_comes_50 (by decide) ?_
      refine zR_ld 31 (by decide) (j := 300) hx hb hK hP (by decide) (show 300 < 301 from by omega) zd_M_comes_53 ?_
      refine lv_iconst (v := 1) hx hb zd_M_comes_54 (by decide) ?_
      refine lv_icmp_ne (tgt := 67) hx hb zd_M_comes_55 (by decide) (fun h55 => ?_) (fun h55 => absurd (e31.symm.trans h55) (by decide))
      refine lv_aload_n hx hb zd_M_comes_67 rfl (lv_at hl 3 rfl) ?_
      refine zR_get 32 (by decide) hx hb hts hown hK hP (zl_M_101 hts) rfl rfl zd_M_comes_68 ?_
      refine lv_sipush (v := 300) hx hb zd_M_comes_71 (by decide) ?_
      refine zR_ld 31 (by decide) (j := 300) hx hb hK hP (by decide) (show 300 < 301 from by omega) zd_M_comes_74 ?_
      refine lv_iconst (v := 2) hx hb zd_M_comes_75 (by decide) ?_
      refine lv_icmp_ne (tgt := 100) hx hb zd_M_comes_76 (by decide) (fun h76 => ?_) (fun h76 => absurd (e31.symm.trans h76) (by decide))
      refine lv_aload_n hx hb zd_M_comes_100 rfl (lv_at hl 3 rfl) ?_
      refine zR_get 32 (by decide) hx hb hts hown hK hP (zl_M_101 hts) rfl rfl zd_M_comes_101 ?_
      refine lv_sipush (v := 300) hx hb zd_M_comes_104 (by decide) ?_
      refine zR_ld 31 (by decide) (j := 300) hx hb hK hP (by decide) (show 300 < 301 from by omega) zd_M_comes_107 ?_
      refine lv_iconst (v := 3) hx hb zd_M_comes_108 (by decide) ?_
      refine lv_icmp_ne (tgt := 163) hx hb zd_M_comes_109 (by decide) (fun h109 => absurd e31 h109) (fun h109 => ?_)
      refine lv_iload_n hx hb zd_M_comes_112 rfl (lv_at hl 0 rfl) ?_
      refine lv_if_ne (tgt := 163) hx hb zd_M_comes_113 (by decide) (fun h113 => absurd h113 (by decide)) (fun h113 => ?_)
      refine lv_aload_n hx hb zd_M_comes_116 rfl (lv_at hl 3 rfl) ?_
      refine lv_iload_n hx hb zd_M_comes_117 rfl (lv_at hl 2 rfl) ?_
      refine lv_aload_n hx hb zd_M_comes_118 rfl (lv_at hl 3 rfl) ?_
      refine zR_get 34 (by decide) hx hb hts hown hK hP (zl_M_107 hts) rfl rfl zd_M_comes_119 ?_
      refine lv_sipush (v := 300) hx hb zd_M_comes_122 (by decide) ?_
      refine zR_ld 33 (by decide) (j := 300) hx hb hK hP (by decide) (show 300 < 301 from by omega) zd_M_comes_125 ?_
      refine z_top h33 ?_
      refine lv_aload_n hx hb zd_M_comes_126 rfl (lv_at hl 3 rfl) ?_
      refine zR_get 35 (by decide) hx hb hts hown hK hP (zl_M_110 hts) rfl rfl zd_M_comes_127 ?_
      refine lv_sipush (v := 300) hx hb zd_M_comes_130 (by decide) ?_
      refine zR_ld 34 (by decide) (j := 300) hx hb hK hP (by decide) (show 300 < 301 from by omega) zd_M_comes_133 ?_
      refine lv_aload_n hx hb zd_M_comes_134 rfl (lv_at hl 3 rfl) ?_
      refine zR_get 36 (by decide) hx hb hts hown hK hP (zl_M_113 hts) rfl rfl zd_M_comes_135 ?_
      refine lv_sipush (v := 300) hx hb zd_M_comes_138 (by decide) ?_
      refine zR_ld 35 (by decide) (j := 300) hx hb hK hP (by decide) (show 300 < 301 from by omega) zd_M_comes_141 ?_
      refine lv_aload_n hx hb zd_M_comes_142 rfl (lv_at hl 3 rfl) ?_
      refine zR_get 6 (by decide) hx hb hts hown hK hP (zl_M_26 hts) rfl rfl zd_M_comes_143 ?_
      refine lv_iload_n hx hb zd_M_comes_146 rfl (lv_at hl 1 rfl) ?_
      refine zR_ld 6 (by decide) (j := (4 * r + p)) hx hb hK hP rfl (show (4 * r + p) < 36 from by omega) zd_M_comes_147 ?_
      refine lv_aload_n hx hb zd_M_comes_148 rfl (lv_at hl 3 rfl) ?_
      refine zR_get 7 (by decide) hx hb hts hown hK hP (zl_M_29 hts) rfl rfl zd_M_comes_149 ?_
      refine lv_iload_n hx hb zd_M_comes_152 rfl (lv_at hl 1 rfl) ?_
      refine zR_ld 7 (by decide) (j := (4 * r + p)) hx hb hK hP rfl (show (4 * r + p) < 36 from by omega) zd_M_comes_153 ?_
      refine lv_aload_n hx hb zd_M_comes_154 rfl (lv_at hl 3 rfl) ?_
      refine zR_get 8 (by decide) hx hb hts hown hK hP (zl_M_32 hts) rfl rfl zd_M_comes_155 ?_
      refine lv_iload_n hx hb zd_M_comes_158 rfl (lv_at hl 1 rfl) ?_
      refine zR_ld 8 (by decide) (j := (4 * r + p)) hx hb hK hP rfl (show (4 * r + p) < 36 from by omega) zd_M_comes_159 ?_
      refine zR_callv (nA := 7) (As := [.int (nI r), .int (nI p), .int (M 34 300), .int (M 35 300), .int (M 6 (4 * r + p)), .int (M 7 (4 * r + p)), .int (M 8 (4 * r + p))]) (rest := []) (zm_sendTell l D ka rb M hL (nI r) (nI p) (M 34 300) (M 35 300) (M 6 (4 * r + p)) (M 7 (4 * r + p)) (M 8 (4 * r + p))) (zg_M_sendTell zk_M_184) rfl (by decide) ⟨rfl, rfl⟩ ⟨Nat.le_of_ble_eq_true rfl, Nat.le_of_ble_eq_true rfl⟩ hx hb hml hts hown hK hP hS (fun _ h => h) hl.1 rfl rfl (Nat.le_of_ble_eq_true rfl) ⟨Nat.zero_le _, Nat.zero_le _⟩ zd_M_comes_160 (fun H locs hP hS => ?_)
      have e31 : zsendTell M (nI r) (nI p) (M 34 300) (M 35 300) (M 6 (4 * r + p)) (M 7 (4 * r + p)) (M 8 (4 * r + p)) 31 300 = 3 := by rw [zsendTell_300 hL (by decide) (by decide)]; exact h31
      refine lv_aload_n hx hb zd_M_comes_163 rfl (lv_at hl 3 rfl) ?_
      refine zR_get 32 (by decide) hx hb hts hown hK hP (zl_M_101 hts) rfl rfl zd_M_comes_164 ?_
      refine lv_sipush (v := 300) hx hb zd_M_comes_167 (by decide) ?_
      refine zR_ld 31 (by decide) (j := 300) hx hb hK hP (by decide) (show 300 < 301 from by omega) zd_M_comes_170 ?_
      refine lv_iconst (v := 4) hx hb zd_M_comes_171 (by decide) ?_
      refine lv_icmp_ne (tgt := 179) hx hb zd_M_comes_172 (by decide) (fun h172 => ?_) (fun h172 => absurd (e31.symm.trans h172) (by decide))
      exact zR_vret hx hb hr hlk hK hP hS (by simp [zcomes, h31, h32, h33, z_r, z_p, zdeaf, h28, h37, h55, h76, h109, h113, h172]) zd_M_comes_179
    · refine lv_iconst (v := 1) hx hb zd_M_comes_40 (by decide) ?_
      refine lv_goto (tgt := 45) hx hb zd_M_comes_41 (by decide) ?_
      refine lv_istore_n hx hb zd_M_comes_45 rfl hl (by decide) rfl (fun ls hl => ?_)
      have hl : lv_has ls 4 [(3, .int 1), (2, .int (nI (4 * r + p))), (1, .int (nI r)), (0, .ref rb)] := hl
      refine lv_aload_n hx hb zd_M_comes_46 rfl (lv_at hl 3 rfl) ?_
      refine zR_get 32 (by decide) hx hb hts hown hK hP (zl_M_101 hts) rfl rfl zd_M_comes_47 ?_
      refine lv_sipush (v := 300) hx hb zd_M_comes_50 (by decide) ?_
      refine zR_ld 31 (by decide) (j := 300) hx hb hK hP (by decide) (show 300 < 301 from by omega) zd_M_comes_53 ?_
      refine lv_iconst (v := 1) hx hb zd_M_comes_54 (by decide) ?_
      refine lv_icmp_ne (tgt := 67) hx hb zd_M_comes_55 (by decide) (fun h55 => ?_) (fun h55 => absurd (e31.symm.trans h55) (by decide))
      refine lv_aload_n hx hb zd_M_comes_67 rfl (lv_at hl 3 rfl) ?_
      refine zR_get 32 (by decide) hx hb hts hown hK hP (zl_M_101 hts) rfl rfl zd_M_comes_68 ?_
      refine lv_sipush (v := 300) hx hb zd_M_comes_71 (by decide) ?_
      refine zR_ld 31 (by decide) (j := 300) hx hb hK hP (by decide) (show 300 < 301 from by omega) zd_M_comes_74 ?_
      refine lv_iconst (v := 2) hx hb zd_M_comes_75 (by decide) ?_
      refine lv_icmp_ne (tgt := 100) hx hb zd_M_comes_76 (by decide) (fun h76 => ?_) (fun h76 => absurd (e31.symm.trans h76) (by decide))
      refine lv_aload_n hx hb zd_M_comes_100 rfl (lv_at hl 3 rfl) ?_
      refine zR_get 32 (by decide) hx hb hts hown hK hP (zl_M_101 hts) rfl rfl zd_M_comes_101 ?_
      refine lv_sipush (v := 300) hx hb zd_M_comes_104 (by decide) ?_
      refine zR_ld 31 (by decide) (j := 300) hx hb hK hP (by decide) (show 300 < 301 from by omega) zd_M_comes_107 ?_
      refine lv_iconst (v := 3) hx hb zd_M_comes_108 (by decide) ?_
      refine lv_icmp_ne (tgt := 163) hx hb zd_M_comes_109 (by decide) (fun h109 => absurd e31 h109) (fun h109 => ?_)
      refine lv_iload_n hx hb zd_M_comes_112 rfl (lv_at hl 0 rfl) ?_
      refine lv_if_ne (tgt := 163) hx hb zd_M_comes_113 (by decide) (fun h113 => ?_) (fun h113 => absurd h113 (by decide))
      refine lv_aload_n hx hb zd_M_comes_163 rfl (lv_at hl 3 rfl) ?_
      refine zR_get 32 (by decide) hx hb hts hown hK hP (zl_M_101 hts) rfl rfl zd_M_comes_164 ?_
      refine lv_sipush (v := 300) hx hb zd_M_comes_167 (by decide) ?_
      refine zR_ld 31 (by decide) (j := 300) hx hb hK hP (by decide) (show 300 < 301 from by omega) zd_M_comes_170 ?_
      refine lv_iconst (v := 4) hx hb zd_M_comes_171 (by decide) ?_
      refine lv_icmp_ne (tgt := 179) hx hb zd_M_comes_172 (by decide) (fun h172 => ?_) (fun h172 => absurd (e31.symm.trans h172) (by decide))
      exact zR_vret hx hb hr hlk hK hP hS (by simp [zcomes, h31, h32, h33, z_r, z_p, zdeaf, h28, h37, h55, h76, h109, h113, h172]) zd_M_comes_179
set_option maxRecDepth 100000 in
set_option maxHeartbeats 4000000 in
theorem zm_comes4 (l : Launch) (D : va_G) (ka : Nat → ClassId) (rb : Nat) (M : zM) (hL : zLt M) (r p d q : Nat) (hr0 : r < 9) (hp : p < 4) (h31 : M 31 300 = 4) (h32 : M 32 300 = nI r) (h33 : M 33 300 = nI p) (hd : d < 3) (hq : q < 4) (ha : M 16 d = nI q) (h34 : M 34 300 = nI d) : Met l zy_M_comes (.code zy_M_comes zc_M_comes 4 none :: zAll) ({ frames := 4, cells := 0, slots := 0, locals := 94 }) (va_Pc [.ref rb] (zRW D ka rb M)) (zRQv D ka rb (zcomes M)) 0 0 (zRA rb) := by
  refine z_met (by decide) (Nat.le_of_ble_eq_true rfl) ?_
  intro pg e s m below meth c hx hb hml hr hts hown hlk hnm hB ls hl
  obtain ⟨hP, hK⟩ := hB
  have hS : va_S (zRA rb) s.heap s.heap [] := va_S.rf
  have hl : lv_has ls 4 [(0, .ref rb)] := hl
  have e31 := h31
  have z_r : zix (nI r) = r := zix_n (by omega)
  have z_p : zix (nI p) = p := zix_n (by omega)
  have z_d : zix (nI d) = d := zix_n (by omega)
  refine lv_aload_n hx hb zd_M_comes_0 rfl (lv_at hl 0 rfl) ?_
  refine zR_get 33 (by decide) hx hb hts hown hK hP (zl_M_104 hts) rfl rfl zd_M_comes_1 ?_
  refine lv_sipush (v := 300) hx hb zd_M_comes_4 (by decide) ?_
  refine zR_ld 32 (by decide) (j := 300) hx hb hK hP (by decide) (show 300 < 301 from by omega) zd_M_comes_7 ?_
  refine z_top h32 ?_
  refine lv_istore_n hx hb zd_M_comes_8 rfl hl (by decide) rfl (fun ls hl => ?_)
  have hl : lv_has ls 4 [(1, .int (nI r)), (0, .ref rb)] := hl
  refine lv_iconst (v := 4) hx hb zd_M_comes_9 (by decide) ?_
  refine lv_iload_n hx hb zd_M_comes_10 rfl (lv_at hl 0 rfl) ?_
  refine lv_imul hx hb zd_M_comes_11 ?_
  refine z_top (zn_m4 _) ?_
  refine lv_aload_n hx hb zd_M_comes_12 rfl (lv_at hl 1 rfl) ?_
  refine zR_get 34 (by decide) hx hb hts hown hK hP (zl_M_107 hts) rfl rfl zd_M_comes_13 ?_
  refine lv_sipush (v := 300) hx hb zd_M_comes_16 (by decide) ?_
  refine zR_ld 33 (by decide) (j := 300) hx hb hK hP (by decide) (show 300 < 301 from by omega) zd_M_comes_19 ?_
  refine z_top h33 ?_
  refine lv_iadd hx hb zd_M_comes_20 ?_
  refine z_top (nI_add _ _) ?_
  refine lv_istore_n hx hb zd_M_comes_21 rfl hl (by decide) rfl (fun ls hl => ?_)
  have hl : lv_has ls 4 [(2, .int (nI (4 * r + p))), (1, .int (nI r)), (0, .ref rb)] := hl
  refine lv_aload_n hx hb zd_M_comes_22 rfl (lv_at hl 2 rfl) ?_
  refine zR_get 4 (by decide) hx hb hts hown hK hP (zl_M_20 hts) rfl rfl zd_M_comes_23 ?_
  refine lv_iload_n hx hb zd_M_comes_26 rfl (lv_at hl 1 rfl) ?_
  refine zR_zld 4 (by decide) (j := r) hx hb hK hP rfl (show r < 9 from by omega) zd_M_comes_27 ?_
  refine lv_if_ne (tgt := 40) hx hb zd_M_comes_28 (by decide) (fun h28 => ?_) (fun h28 => ?_)
  · refine lv_iconst (v := 1) hx hb zd_M_comes_40 (by decide) ?_
    refine lv_goto (tgt := 45) hx hb zd_M_comes_41 (by decide) ?_
    refine lv_istore_n hx hb zd_M_comes_45 rfl hl (by decide) rfl (fun ls hl => ?_)
    have hl : lv_has ls 4 [(3, .int 1), (2, .int (nI (4 * r + p))), (1, .int (nI r)), (0, .ref rb)] := hl
    refine lv_aload_n hx hb zd_M_comes_46 rfl (lv_at hl 3 rfl) ?_
    refine zR_get 32 (by decide) hx hb hts hown hK hP (zl_M_101 hts) rfl rfl zd_M_comes_47 ?_
    refine lv_sipush (v := 300) hx hb zd_M_comes_50 (by decide) ?_
    refine zR_ld 31 (by decide) (j := 300) hx hb hK hP (by decide) (show 300 < 301 from by omega) zd_M_comes_53 ?_
    refine lv_iconst (v := 1) hx hb zd_M_comes_54 (by decide) ?_
    refine lv_icmp_ne (tgt := 67) hx hb zd_M_comes_55 (by decide) (fun h55 => ?_) (fun h55 => absurd (e31.symm.trans h55) (by decide))
    refine lv_aload_n hx hb zd_M_comes_67 rfl (lv_at hl 3 rfl) ?_
    refine zR_get 32 (by decide) hx hb hts hown hK hP (zl_M_101 hts) rfl rfl zd_M_comes_68 ?_
    refine lv_sipush (v := 300) hx hb zd_M_comes_71 (by decide) ?_
    refine zR_ld 31 (by decide) (j := 300) hx hb hK hP (by decide) (show 300 < 301 from by omega) zd_M_comes_74 ?_
    refine lv_iconst (v := 2) hx hb zd_M_comes_75 (by decide) ?_
    refine lv_icmp_ne (tgt := 100) hx hb zd_M_comes_76 (by decide) (fun h76 => ?_) (fun h76 => absurd (e31.symm.trans h76) (by decide))
    refine lv_aload_n hx hb zd_M_comes_100 rfl (lv_at hl 3 rfl) ?_
    refine zR_get 32 (by decide) hx hb hts hown hK hP (zl_M_101 hts) rfl rfl zd_M_comes_101 ?_
    refine lv_sipush (v := 300) hx hb zd_M_comes_104 (by decide) ?_
    refine zR_ld 31 (by decide) (j := 300) hx hb hK hP (by decide) (show 300 < 301 from by omega) zd_M_comes_107 ?_
    refine lv_iconst (v := 3) hx hb zd_M_comes_108 (by decide) ?_
    refine lv_icmp_ne (tgt := 163) hx hb zd_M_comes_109 (by decide) (fun h109 => ?_) (fun h109 => absurd (e31.symm.trans h109) (by decide))
    refine lv_aload_n hx hb zd_M_comes_163 rfl (lv_at hl 3 rfl) ?_
    refine zR_get 32 (by decide) hx hb hts hown hK hP (zl_M_101 hts) rfl rfl zd_M_comes_164 ?_
    refine lv_sipush (v := 300) hx hb zd_M_comes_167 (by decide) ?_
    refine zR_ld 31 (by decide) (j := 300) hx hb hK hP (by decide) (show 300 < 301 from by omega) zd_M_comes_170 ?_
    refine lv_iconst (v := 4) hx hb zd_M_comes_171 (by decide) ?_
    refine lv_icmp_ne (tgt := 179) hx hb zd_M_comes_172 (by decide) (fun h172 => absurd e31 h172) (fun h172 => ?_)
    refine lv_aload_n hx hb zd_M_comes_175 rfl (lv_at hl 3 rfl) ?_
    refine zR_callv (nA := 0) (As := []) (rest := []) (zm_tellComes l D ka rb M hL d r q (by omega) (by omega) (by omega) ha h34 h32) (zg_M_tellComes zk_M_187) rfl (by decide) ⟨rfl, rfl⟩ ⟨Nat.le_of_ble_eq_true rfl, Nat.le_of_ble_eq_true rfl⟩ hx hb hml hts hown hK hP hS (fun _ h => h) hl.1 rfl rfl (Nat.le_of_ble_eq_true rfl) ⟨Nat.zero_le _, Nat.zero_le _⟩ zd_M_comes_176 (fun H locs hP hS => ?_)
    exact zR_vret hx hb hr hlk hK hP hS (by simp [zcomes, h31, h32, h33, z_r, z_p, h34, z_d, zdeaf, h28, h55, h76, h109, h172]) zd_M_comes_179
  · refine lv_aload_n hx hb zd_M_comes_31 rfl (lv_at hl 2 rfl) ?_
    refine zR_get 5 (by decide) hx hb hts hown hK hP (zl_M_23 hts) rfl rfl zd_M_comes_32 ?_
    refine lv_iload_n hx hb zd_M_comes_35 rfl (lv_at hl 1 rfl) ?_
    refine zR_zld 5 (by decide) (j := r) hx hb hK hP rfl (show r < 9 from by omega) zd_M_comes_36 ?_
    refine lv_if_eq (tgt := 44) hx hb zd_M_comes_37 (by decide) (fun h37 => ?_) (fun h37 => ?_)
    · refine lv_iconst (v := 0) hx hb zd_M_comes_44 (by decide) ?_
      refine lv_istore_n hx hb zd_M_comes_45 rfl hl (by decide) rfl (fun ls hl => ?_)
      have hl : lv_has ls 4 [(3, .int 0), (2, .int (nI (4 * r + p))), (1, .int (nI r)), (0, .ref rb)] := hl
      refine lv_aload_n hx hb zd_M_comes_46 rfl (lv_at hl 3 rfl) ?_
      refine zR_get 32 (by decide) hx hb hts hown hK hP (zl_M_101 hts) rfl rfl zd_M_comes_47 ?_
      refine lv_sipush (v := 300) hx hb zd_M_comes_50 (by decide) ?_
      refine zR_ld 31 (by decide) (j := 300) hx hb hK hP (by decide) (show 300 < 301 from by omega) zd_M_comes_53 ?_
      refine lv_iconst (v := 1) hx hb zd_M_comes_54 (by decide) ?_
      refine lv_icmp_ne (tgt := 67) hx hb zd_M_comes_55 (by decide) (fun h55 => ?_) (fun h55 => absurd (e31.symm.trans h55) (by decide))
      refine lv_aload_n hx hb zd_M_comes_67 rfl (lv_at hl 3 rfl) ?_
      refine zR_get 32 (by decide) hx hb hts hown hK hP (zl_M_101 hts) rfl rfl zd_M_comes_68 ?_
      refine lv_sipush (v := 300) hx hb zd_M_comes_71 (by decide) ?_
      refine zR_ld 31 (by decide) (j := 300) hx hb hK hP (by decide) (show 300 < 301 from by omega) zd_M_comes_74 ?_
      refine lv_iconst (v := 2) hx hb zd_M_comes_75 (by decide) ?_
      refine lv_icmp_ne (tgt := 100) hx hb zd_M_comes_76 (by decide) (fun h76 => ?_) (fun h76 => absurd (e31.symm.trans h76) (by decide))
      refine lv_aload_n hx hb zd_M_comes_100 rfl (lv_at hl 3 rfl) ?_
      refine zR_get 32 (by decide) hx hb hts hown hK hP (zl_M_101 hts) rfl rfl zd_M_comes_101 ?_
      refine lv_sipush (v := 300) hx hb zd_M_comes_104 (by decide) ?_
      refine zR_ld 31 (by decide) (j := 300) hx hb hK hP (by decide) (show 300 < 301 from by omega) zd_M_comes_107 ?_
      refine lv_iconst (v := 3) hx hb zd_M_comes_108 (by decide) ?_
      refine lv_icmp_ne (tgt := 163) hx hb zd_M_comes_109 (by decide) (fun h109 => ?_) (fun h109 => absurd (e31.symm.trans h109) (by decide))
      refine lv_aload_n hx hb zd_M_comes_163 rfl (lv_at hl 3 rfl) ?_
      refine zR_get 32 (by decide) hx hb hts hown hK hP (zl_M_101 hts) rfl rfl zd_M_comes_164 ?_
      refine lv_sipush (v := 300) hx hb zd_M_comes_167 (by decide) ?_
      refine zR_ld 31 (by decide) (j := 300) hx hb hK hP (by decide) (show 300 < 301 from by omega) zd_M_comes_170 ?_
      refine lv_iconst (v := 4) hx hb zd_M_comes_171 (by decide) ?_
      refine lv_icmp_ne (tgt := 179) hx hb zd_M_comes_172 (by decide) (fun h172 => absurd e31 h172) (fun h172 => ?_)
      refine lv_aload_n hx hb zd_M_comes_175 rfl (lv_at hl 3 rfl) ?_
      refine zR_callv (nA := 0) (As := []) (rest := []) (zm_tellComes l D ka rb M hL d r q (by omega) (by omega) (by omega) ha h34 h32) (zg_M_tellComes zk_M_187) rfl (by decide) ⟨rfl, rfl⟩ ⟨Nat.le_of_ble_eq_true rfl, Nat.le_of_ble_eq_true rfl⟩ hx hb hml hts hown hK hP hS (fun _ h => h) hl.1 rfl rfl (Nat.le_of_ble_eq_true rfl) ⟨Nat.zero_le _, Nat.zero_le _⟩ zd_M_comes_176 (fun H locs hP hS => ?_)
      exact zR_vret hx hb hr hlk hK hP hS (by simp [zcomes, h31, h32, h33, z_r, z_p, h34, z_d, zdeaf, h28, h37, h55, h76, h109, h172]) zd_M_comes_179
    · refine lv_iconst (v := 1) hx hb zd_M_comes_40 (by decide) ?_
      refine lv_goto (tgt := 45) hx hb zd_M_comes_41 (by decide) ?_
      refine lv_istore_n hx hb zd_M_comes_45 rfl hl (by decide) rfl (fun ls hl => ?_)
      have hl : lv_has ls 4 [(3, .int 1), (2, .int (nI (4 * r + p))), (1, .int (nI r)), (0, .ref rb)] := hl
      refine lv_aload_n hx hb zd_M_comes_46 rfl (lv_at hl 3 rfl) ?_
      refine zR_get 32 (by decide) hx hb hts hown hK hP (zl_M_101 hts) rfl rfl zd_M_comes_47 ?_
      refine lv_sipush (v := 300) hx hb zd_M_comes_50 (by decide) ?_
      refine zR_ld 31 (by decide) (j := 300) hx hb hK hP (by decide) (show 300 < 301 from by omega) zd_M_comes_53 ?_
      refine lv_iconst (v := 1) hx hb zd_M_comes_54 (by decide) ?_
      refine lv_icmp_ne (tgt := 67) hx hb zd_M_comes_55 (by decide) (fun h55 => ?_) (fun h55 => absurd (e31.symm.trans h55) (by decide))
      refine lv_aload_n hx hb zd_M_comes_67 rfl (lv_at hl 3 rfl) ?_
      refine zR_get 32 (by decide) hx hb hts hown hK hP (zl_M_101 hts) rfl rfl zd_M_comes_68 ?_
      refine lv_sipush (v := 300) hx hb zd_M_comes_71 (by decide) ?_
      refine zR_ld 31 (by decide) (j := 300) hx hb hK hP (by decide) (show 300 < 301 from by omega) zd_M_comes_74 ?_
      refine lv_iconst (v := 2) hx hb zd_M_comes_75 (by decide) ?_
      refine lv_icmp_ne (tgt := 100) hx hb zd_M_comes_76 (by decide) (fun h76 => ?_) (fun h76 => absurd (e31.symm.trans h76) (by decide))
      refine lv_aload_n hx hb zd_M_comes_100 rfl (lv_at hl 3 rfl) ?_
      refine zR_get 32 (by decide) hx hb hts hown hK hP (zl_M_101 hts) rfl rfl zd_M_comes_101 ?_
      refine lv_sipush (v := 300) hx hb zd_M_comes_104 (by decide) ?_
      refine zR_ld 31 (by decide) (j := 300) hx hb hK hP (by decide) (show 300 < 301 from by omega) zd_M_comes_107 ?_
      refine lv_iconst (v := 3) hx hb zd_M_comes_108 (by decide) ?_
      refine lv_icmp_ne (tgt := 163) hx hb zd_M_comes_109 (by decide) (fun h109 => ?_) (fun h109 => absurd (e31.symm.trans h109) (by decide))
      refine lv_aload_n hx hb zd_M_comes_163 rfl (lv_at hl 3 rfl) ?_
      refine zR_get 32 (by decide) hx hb hts hown hK hP (zl_M_101 hts) rfl rfl zd_M_comes_164 ?_
      refine lv_sipush (v := 300) hx hb zd_M_comes_167 (by decide) ?_
      refine zR_ld 31 (by decide) (j := 300) hx hb hK hP (by decide) (show 300 < 301 from by omega) zd_M_comes_170 ?_
      refine lv_iconst (v := 4) hx hb zd_M_comes_171 (by decide) ?_
      refine lv_icmp_ne (tgt := 179) hx hb zd_M_comes_172 (by decide) (fun h172 => absurd e31 h172) (fun h172 => ?_)
      refine lv_aload_n hx hb zd_M_comes_175 rfl (lv_at hl 3 rfl) ?_
      refine zR_callv (nA := 0) (As := []) (rest := []) (zm_tellComes l D ka rb M hL d r q (by omega) (by omega) (by omega) ha h34 h32) (zg_M_tellComes zk_M_187) rfl (by decide) ⟨rfl, rfl⟩ ⟨Nat.le_of_ble_eq_true rfl, Nat.le_of_ble_eq_true rfl⟩ hx hb hml hts hown hK hP hS (fun _ h => h) hl.1 rfl rfl (Nat.le_of_ble_eq_true rfl) ⟨Nat.zero_le _, Nat.zero_le _⟩ zd_M_comes_176 (fun H locs hP hS => ?_)
      exact zR_vret hx hb hr hlk hK hP hS (by simp [zcomes, h31, h32, h33, z_r, z_p, h34, z_d, zdeaf, h28, h37, h55, h76, h109, h172]) zd_M_comes_179
theorem zm_comes (l : Launch) (D : va_G) (ka : Nat → ClassId) (rb : Nat) (M : zM) (hL : zLt M) (hk : zlok M 300) (hA : zokA M) : Met l zy_M_comes (.code zy_M_comes zc_M_comes 4 none :: zAll) ({ frames := 4, cells := 0, slots := 0, locals := 94 }) (va_Pc [.ref rb] (zRW D ka rb M)) (zRQv D ka rb (zcomes M)) 0 0 (zRA rb) := by
  obtain ⟨⟨r, hr, h32⟩, ⟨p, hp, h33⟩, hk⟩ := hk
  rcases hk with ⟨h31, -⟩ | h31 | ⟨h31, -⟩ | ⟨h31, d, hd, h34⟩
  · exact zm_comes1 l D ka rb M hL r p hr hp h31 h32 h33
  · exact zm_comes2 l D ka rb M hL r p hr hp h31 h32 h33
  · exact zm_comes3 l D ka rb M hL r p hr hp h31 h32 h33
  · obtain ⟨q, hq, ha⟩ := hA d hd
    exact zm_comes4 l D ka rb M hL r p d q hr hp h31 h32 h33 hd hq ha h34
set_option maxRecDepth 100000 in
set_option maxHeartbeats 4000000 in
theorem zm_deliver (l : Launch) (D : va_G) (ka : Nat → ClassId) (rb : Nat) (M : zM) (hO : zOk M) (i0 : Int32) : Met l zy_M_deliver (.code zy_M_deliver zc_M_deliver 2 (some .boolean) :: zAll) ({ frames := 5, cells := 0, slots := 0, locals := 117 }) (va_Pc [.ref rb, .int i0] (zRW D ka rb M)) (zRQi D ka rb (zf_deliver M i0) (zg_deliver M i0)) 0 0 (zRA rb) := by
  refine z_met (by decide) (Nat.le_of_ble_eq_true rfl) ?_
  intro pg e s m below meth c hx hb hml hr hts hown hlk hnm hB ls hl
  obtain ⟨hP, hK⟩ := hB
  have hS : va_S (zRA rb) s.heap s.heap [] := va_S.rf
  have hl : lv_has ls 2 [(0, .ref rb), (1, .int i0)] := hl
  have hL := zOk_lt hO
  obtain ⟨⟨n, hn1, hn, hn2⟩, hA, -⟩ := id hO
  have hz : zix (M 0 1) = n := by rw [hn]; exact zix_n (by omega)
  refine lv_aload_n hx hb zd_M_deliver_0 rfl (lv_at hl 0 rfl) ?_
  refine lv_iload_n hx hb zd_M_deliver_1 rfl (lv_at hl 1 rfl) ?_
  refine zR_calli (nA := 1) (As := [.int i0]) (rest := []) (zm_takeOut l D ka rb M hL i0) (zg_M_takeOut zk_M_144) rfl (by decide) ⟨rfl, rfl⟩ ⟨Nat.le_of_ble_eq_true rfl, Nat.le_of_ble_eq_true rfl⟩ hx hb hml hts hown hK hP hS (fun _ h => h) hl.1 rfl rfl (Nat.le_of_ble_eq_true rfl) ⟨Nat.zero_le _, Nat.zero_le _⟩ zd_M_deliver_2 (fun H locs hP hS _ _ => ?_)
  refine lv_if_ne (tgt := 10) hx hb zd_M_deliver_5 (by decide) (fun h5 => ?_) (fun h5 => ?_)
  · have c5 : zbl i0 (M 0 1) := zb_1 h5
    obtain ⟨i, h_i, rfl⟩ := zbl_of (n := n) (by omega) (by rw [← hn]; exact c5)
    have z_i : zix (nI i) = i := zix_n (by omega)
    have eT : zg_take M (nI i) = ztake M i n := by rw [zg_take, if_pos c5, z_i, hz]
    rw [eT] at hP
    refine lv_aload_n hx hb zd_M_deliver_10 rfl (lv_at hl 0 rfl) ?_
    refine zR_callv (nA := 0) (As := []) (rest := []) (zm_comes l D ka rb (ztake M i n) (ztake_lt hn1) (ztake_lok (hn2 i h_i)) (by unfold zokA; rw [ztake_k (by decide) (by decide)]; exact hA)) (zg_M_comes zk_M_190) rfl (by decide) ⟨rfl, rfl⟩ ⟨Nat.le_of_ble_eq_true rfl, Nat.le_of_ble_eq_true rfl⟩ hx hb hml hts hown hK hP hS (fun _ h => h) hl.1 rfl rfl (Nat.le_of_ble_eq_true rfl) ⟨Nat.zero_le _, Nat.zero_le _⟩ zd_M_deliver_11 (fun H locs hP hS => ?_)
    refine lv_iconst (v := 1) hx hb zd_M_deliver_14 (by decide) ?_
    exact zR_zret hx hb hr hlk hK hP hS rfl (zb_t c5).symm (by rw [zg_deliver, if_pos c5, zdeliver, z_i, hz]) zd_M_deliver_15
  · have c5 : ¬ zbl i0 (M 0 1) := zb_0 h5
    refine lv_iconst (v := 0) hx hb zd_M_deliver_8 (by decide) ?_
    exact zR_zret hx hb hr hlk hK hP hS rfl (zb_f c5).symm (by rw [zg_take, zg_deliver, if_neg c5, if_neg c5]) zd_M_deliver_9
