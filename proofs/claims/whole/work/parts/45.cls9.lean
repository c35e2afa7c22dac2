set_option maxRecDepth 100000 in
set_option maxHeartbeats 4000000 in
theorem zc_m_X_bring1 (l : Launch) (D : va_G) (ka : Nat → ClassId) (cb : Nat) (P : List Nat) (C : zC) (A : zA) (M : zM) (hRep : zRep cb P C A M) (hO : zOk M) (j r p : Nat) (hj : j < 300) (hr0 : r < 9) (hp : p < 4) (h31 : M 31 300 = 1) (h32 : M 32 300 = nI r) (h33 : M 33 300 = nI p) (hLj : zLRc cb P C A M j 300) : Met l zy_X_bring (.code zy_X_bring zc_X_bring 2 none :: zAll) ({ frames := 4, cells := 0, slots := 0, locals := 97 }) (va_Pc [.ref cb, .ref (cb + (42 + j))] (zCW D ka cb P C A)) (va_Qv (fun (_ : Unit) => True) (fun _ t => zCS D ka cb (zcomes M) t) (zCA cb)) 0 0 (zCA cb) := by
  refine z_met (by decide) (Nat.le_of_ble_eq_true rfl) ?_
  intro pg e s m below meth c hx hb hml hr hts hown hlk hnm hB ls hl
  obtain ⟨hP, hQ, hz, hK⟩ := hB
  have hS : va_S (zCA cb) s.heap s.heap [] := va_S.rf
  have hl : lv_has ls 2 [(0, .ref cb), (1, .ref (cb + (42 + j)))] := hl
  have hL := zOk_lt hO
  have hWk := hO.2.2.2.1
  have z_r : zix (nI r) = r := zix_n (by omega)
  have z_p : zix (nI p) = p := zix_n (by omega)
  obtain ⟨a, ha1, ha⟩ := hLj.2.2.2.2.2.1 h31
  refine lv_aload_n hx hb zd_X_bring_0 rfl (lv_at hl 1 rfl) ?_
  refine zr_get hx hb hts zin_L hown hK hP (zCL_in (by omega)) (zCE_let ka cb C A (j := j) (by omega)) rfl 0 (by decide) (zl_X_124 hts) rfl rfl zd_X_bring_1 ?_
  refine z_top (y := M 31 300) hLj.1 ?_
  refine lv_tableIn (x := (M 31 300)) (off := 28) (tgt := 32) hx hb zd_X_bring_4 (by rw [h31]; decide) (by rw [h31]; decide) (by rw [h31]; rfl) (by decide) ?_
  refine lv_aload_n hx hb zd_X_bring_32 rfl (lv_at hl 0 rfl) ?_
  refine lv_aload_n hx hb zd_X_bring_33 rfl (lv_at hl 1 rfl) ?_
  refine zr_get hx hb hts zin_L hown hK hP (zCL_in (by omega)) (zCE_let ka cb C A (j := j) (by omega)) rfl 1 (by decide) (zl_X_129 hts) rfl rfl zd_X_bring_34 ?_
  refine z_top (y := nI r) (hLj.2.1.trans h32) ?_
  refine lv_aload_n hx hb zd_X_bring_37 rfl (lv_at hl 1 rfl) ?_
  refine zr_get hx hb hts zin_L hown hK hP (zCL_in (by omega)) (zCE_let ka cb C A (j := j) (by omega)) rfl 2 (by decide) (zl_X_132 hts) rfl rfl zd_X_bring_38 ?_
  refine z_top (y := nI p) (hLj.2.2.1.trans h33) ?_
  refine lv_aload_n hx hb zd_X_bring_41 rfl (lv_at hl 1 rfl) ?_
  refine zr_get hx hb hts zin_L hown hK hP (zCL_in (by omega)) (zCE_let ka cb C A (j := j) (by omega)) rfl 4 (by decide) (zl_X_138 hts) rfl rfl zd_X_bring_42 ?_
  refine z_top (y := M 35 300) hLj.2.2.2.2.1 ?_
  refine lv_aload_n hx hb zd_X_bring_45 rfl (lv_at hl 1 rfl) ?_
  refine zr_get hx hb hts zin_L hown hK hP (zCL_in (by omega)) (zCE_let ka cb C A (j := j) (by omega)) rfl 5 (by decide) (zl_X_150 hts) rfl rfl zd_X_bring_46 ?_
  refine z_topr (v := .ref a) (congrArg va_rf ha1) ?_
  refine zK_callv (nA := 4) (As := [.int (nI r), .int (nI p), .int (M 35 300), .ref a]) (rest := []) zCW_blind (zc_m_X_bringStore l D ka cb P C A M hRep hL r p a hr0 hp ha h32 h33) (zg_X_bringStore zk_X_216) (by decide) ⟨rfl, rfl⟩ ⟨Nat.le_of_ble_eq_true rfl, Nat.le_of_ble_eq_true rfl⟩ hx hb hml hts hown (zC_recv hK hP zCL_0 (zCE_x ka cb C A) rfl) (zC_U hK hP hQ hz hS) hS (fun _ h => h) hl.1 rfl rfl (Nat.le_of_ble_eq_true rfl) ⟨Nat.le_of_ble_eq_true rfl, Nat.le_of_ble_eq_true rfl⟩ zd_X_bring_49 (fun t locs hvm hB hS _ _ => ?_)
  obtain ⟨P, C, A, ⟨hP, hQ, -, -⟩, hRep⟩ := hB
  generalize t.heap = H at hP hS ⊢
  refine lv_goto (tgt := 121) hx hb zd_X_bring_52 (by decide) ?_
  exact zK_vret hx hb hr hlk hS (fun t ht hW => ⟨_, _, _, zC_U hK hP hQ hz hS t ht hW, (zRep_eq hRep (by simp [zcomes, h31, h32, h33, z_r, z_p]))⟩) zd_X_bring_121
set_option maxRecDepth 100000 in
set_option maxHeartbeats 4000000 in
theorem zc_m_X_bring2 (l : Launch) (D : va_G) (ka : Nat → ClassId) (cb : Nat) (P : List Nat) (C : zC) (A : zA) (M : zM) (hRep : zRep cb P C A M) (hO : zOk M) (j r p : Nat) (hj : j < 300) (hr0 : r < 9) (hp : p < 4) (h31 : M 31 300 = 2) (h32 : M 32 300 = nI r) (h33 : M 33 300 = nI p) (hLj : zLRc cb P C A M j 300) : Met l zy_X_bring (.code zy_X_bring zc_X_bring 2 none :: zAll) ({ frames := 4, cells := 0, slots := 0, locals := 97 }) (va_Pc [.ref cb, .ref (cb + (42 + j))] (zCW D ka cb P C A)) (va_Qv (fun (_ : Unit) => True) (fun _ t => zCS D ka cb (zcomes M) t) (zCA cb)) 0 0 (zCA cb) := by
  refine z_met (by decide) (Nat.le_of_ble_eq_true rfl) ?_
  intro pg e s m below meth c hx hb hml hr hts hown hlk hnm hB ls hl
  obtain ⟨hP, hQ, hz, hK⟩ := hB
  have hS : va_S (zCA cb) s.heap s.heap [] := va_S.rf
  have hl : lv_has ls 2 [(0, .ref cb), (1, .ref (cb + (42 + j)))] := hl
  have hL := zOk_lt hO
  have hWk := hO.2.2.2.1
  have z_r : zix (nI r) = r := zix_n (by omega)
  have z_p : zix (nI p) = p := zix_n (by omega)
  obtain ⟨la, g1, g2, g3, -⟩ := zr_lat hRep hp
  refine lv_aload_n hx hb zd_X_bring_0 rfl (lv_at hl 1 rfl) ?_
  refine zr_get hx hb hts zin_L hown hK hP (zCL_in (by omega)) (zCE_let ka cb C A (j := j) (by omega)) rfl 0 (by decide) (zl_X_124 hts) rfl rfl zd_X_bring_1 ?_
  refine z_top (y := M 31 300) hLj.1 ?_
  refine lv_tableIn (x := (M 31 300)) (off := 51) (tgt := 55) hx hb zd_X_bring_4 (by rw [h31]; decide) (by rw [h31]; decide) (by rw [h31]; rfl) (by decide) ?_
  refine lv_aload_n hx hb zd_X_bring_55 rfl (lv_at hl 0 rfl) ?_
  refine zr_get hx hb hts zin_X hown hK hP zCL_0 (zCE_x ka cb C A) rfl 2 (by decide) (zl_X_38 hts) rfl rfl zd_X_bring_56 ?_
  refine lv_aload_n hx hb zd_X_bring_59 rfl (lv_at hl 1 rfl) ?_
  refine zr_get hx hb hts zin_L hown hK hP (zCL_in (by omega)) (zCE_let ka cb C A (j := j) (by omega)) rfl 2 (by decide) (zl_X_132 hts) rfl rfl zd_X_bring_60 ?_
  refine z_top (y := nI p) (hLj.2.2.1.trans h33) ?_
  refine zr_aald (v := .ref (cb + (22 + 2 * p))) hx hb hK hP (zCL_in (by omega)) 5 (zCE_wris ka cb C A) rfl (j := p) rfl (show p < 4 from by omega) (by decide) rfl zd_X_bring_63 ?_
  refine lv_aload_n hx hb zd_X_bring_64 rfl (lv_at hl 1 rfl) ?_
  refine zr_get hx hb hts zin_L hown hK hP (zCL_in (by omega)) (zCE_let ka cb C A (j := j) (by omega)) rfl 1 (by decide) (zl_X_129 hts) rfl rfl zd_X_bring_65 ?_
  refine z_top (y := nI r) (hLj.2.1.trans h32) ?_
  refine lv_aload_n hx hb zd_X_bring_68 rfl (lv_at hl 1 rfl) ?_
  refine zr_get hx hb hts zin_L hown hK hP (zCL_in (by omega)) (zCE_let ka cb C A (j := j) (by omega)) rfl 4 (by decide) (zl_X_138 hts) rfl rfl zd_X_bring_69 ?_
  refine z_top (y := M 35 300) hLj.2.2.2.2.1 ?_
  refine zK_callv (nA := 2) (As := [.int (nI r), .int (M 35 300)]) (rest := []) zCW_blind (zc_m_W_hear l D ka cb P C A p r la hp hr0 g1 g2 (M 35 300)) (zg_W_hear zk_X_220) (by decide) ⟨rfl, rfl⟩ ⟨Nat.le_of_ble_eq_true rfl, Nat.le_of_ble_eq_true rfl⟩ hx hb hml hts hown (zC_recv hK hP (zCL_in (by omega)) (zCE_wri ka cb C A (p := p) (by omega)) rfl) (zC_U hK hP hQ hz hS) hS (fun _ h => h) hl.1 rfl rfl (Nat.le_of_ble_eq_true rfl) ⟨Nat.le_of_ble_eq_true rfl, Nat.le_of_ble_eq_true rfl⟩ zd_X_bring_72 (fun t locs hvm hB hS _ _ => ?_)
  obtain ⟨hP, -, -, -⟩ := hB
  generalize t.heap = H at hP hS ⊢
  have hRep := zRep_hearW hRep hp hr0 g1 (hWk p hp) (M 35 300)
  refine lv_goto (tgt := 121) hx hb zd_X_bring_75 (by decide) ?_
  exact zK_vret hx hb hr hlk hS (fun t ht hW => ⟨_, _, _, zC_U hK hP hQ hz hS t ht hW, (zRep_eq hRep (by simp [zcomes, h31, h32, h33, z_r, z_p]))⟩) zd_X_bring_121
set_option maxRecDepth 100000 in
set_option maxHeartbeats 4000000 in
theorem zc_m_X_bring3 (l : Launch) (D : va_G) (ka : Nat → ClassId) (cb : Nat) (P : List Nat) (C : zC) (A : zA) (M : zM) (hRep : zRep cb P C A M) (hO : zOk M) (j r p : Nat) (hj : j < 300) (hr0 : r < 9) (hp : p < 4) (h31 : M 31 300 = 3) (h32 : M 32 300 = nI r) (h33 : M 33 300 = nI p) (hLj : zLRc cb P C A M j 300) : Met l zy_X_bring (.code zy_X_bring zc_X_bring 2 none :: zAll) ({ frames := 4, cells := 0, slots := 0, locals := 97 }) (va_Pc [.ref cb, .ref (cb + (42 + j))] (zCW D ka cb P C A)) (va_Qv (fun (_ : Unit) => True) (fun _ t => zCS D ka cb (zcomes M) t) (zCA cb)) 0 0 (zCA cb) := by
  refine z_met (by decide) (Nat.le_of_ble_eq_true rfl) ?_
  intro pg e s m below meth c hx hb hml hr hts hown hlk hnm hB ls hl
  obtain ⟨hP, hQ, hz, hK⟩ := hB
  have hS : va_S (zCA cb) s.heap s.heap [] := va_S.rf
  have hl : lv_has ls 2 [(0, .ref cb), (1, .ref (cb + (42 + j)))] := hl
  have hL := zOk_lt hO
  have hWk := hO.2.2.2.1
  have z_r : zix (nI r) = r := zix_n (by omega)
  have z_p : zix (nI p) = p := zix_n (by omega)
  refine lv_aload_n hx hb zd_X_bring_0 rfl (lv_at hl 1 rfl) ?_
  refine zr_get hx hb hts zin_L hown hK hP (zCL_in (by omega)) (zCE_let ka cb C A (j := j) (by omega)) rfl 0 (by decide) (zl_X_124 hts) rfl rfl zd_X_bring_1 ?_
  refine z_top (y := M 31 300) hLj.1 ?_
  refine lv_tableIn (x := (M 31 300)) (off := 74) (tgt := 78) hx hb zd_X_bring_4 (by rw [h31]; decide) (by rw [h31]; decide) (by rw [h31]; rfl) (by decide) ?_
  refine lv_aload_n hx hb zd_X_bring_78 rfl (lv_at hl 0 rfl) ?_
  refine lv_aload_n hx hb zd_X_bring_79 rfl (lv_at hl 1 rfl) ?_
  refine zr_get hx hb hts zin_L hown hK hP (zCL_in (by omega)) (zCE_let ka cb C A (j := j) (by omega)) rfl 1 (by decide) (zl_X_129 hts) rfl rfl zd_X_bring_80 ?_
  refine z_top (y := nI r) (hLj.2.1.trans h32) ?_
  refine lv_aload_n hx hb zd_X_bring_83 rfl (lv_at hl 1 rfl) ?_
  refine zr_get hx hb hts zin_L hown hK hP (zCL_in (by omega)) (zCE_let ka cb C A (j := j) (by omega)) rfl 2 (by decide) (zl_X_132 hts) rfl rfl zd_X_bring_84 ?_
  refine z_top (y := nI p) (hLj.2.2.1.trans h33) ?_
  refine lv_aload_n hx hb zd_X_bring_87 rfl (lv_at hl 1 rfl) ?_
  refine zr_get hx hb hts zin_L hown hK hP (zCL_in (by omega)) (zCE_let ka cb C A (j := j) (by omega)) rfl 3 (by decide) (zl_X_135 hts) rfl rfl zd_X_bring_88 ?_
  refine z_top (y := M 34 300) hLj.2.2.2.1 ?_
  refine lv_aload_n hx hb zd_X_bring_91 rfl (lv_at hl 1 rfl) ?_
  refine zr_get hx hb hts zin_L hown hK hP (zCL_in (by omega)) (zCE_let ka cb C A (j := j) (by omega)) rfl 4 (by decide) (zl_X_138 hts) rfl rfl zd_X_bring_92 ?_
  refine z_top (y := M 35 300) hLj.2.2.2.2.1 ?_
  refine zK_callv (nA := 4) (As := [.int (nI r), .int (nI p), .int (M 34 300), .int (M 35 300)]) (rest := []) zCW_blind (zc_m_X_bringAsk l D ka cb P C A M hRep hL r p hr0 hp (M 34 300) (M 35 300)) (zg_X_bringAsk zk_X_223) (by decide) ⟨rfl, rfl⟩ ⟨Nat.le_of_ble_eq_true rfl, Nat.le_of_ble_eq_true rfl⟩ hx hb hml hts hown (zC_recv hK hP zCL_0 (zCE_x ka cb C A) rfl) (zC_U hK hP hQ hz hS) hS (fun _ h => h) hl.1 rfl rfl (Nat.le_of_ble_eq_true rfl) ⟨Nat.le_of_ble_eq_true rfl, Nat.le_of_ble_eq_true rfl⟩ zd_X_bring_95 (fun t locs hvm hB hS _ _ => ?_)
  obtain ⟨P, C, A, ⟨hP, hQ, -, -⟩, hRep⟩ := hB
  generalize t.heap = H at hP hS ⊢
  refine lv_goto (tgt := 121) hx hb zd_X_bring_98 (by decide) ?_
  exact zK_vret hx hb hr hlk hS (fun t ht hW => ⟨_, _, _, zC_U hK hP hQ hz hS t ht hW, (zRep_eq hRep (by simp [zcomes, h31, h32, h33, z_r, z_p]))⟩) zd_X_bring_121
set_option maxRecDepth 100000 in
set_option maxHeartbeats 4000000 in
theorem zc_m_X_bring4 (l : Launch) (D : va_G) (ka : Nat → ClassId) (cb : Nat) (P : List Nat) (C : zC) (A : zA) (M : zM) (hRep : zRep cb P C A M) (hO : zOk M) (j r p d : Nat) (hj : j < 300) (hr0 : r < 9) (hp : p < 4) (h31 : M 31 300 = 4) (h32 : M 32 300 = nI r) (h33 : M 33 300 = nI p) (hLj : zLRc cb P C A M j 300) (hd : d < 3) (h34 : M 34 300 = nI d) : Met l zy_X_bring (.code zy_X_bring zc_X_bring 2 none :: zAll) ({ frames := 4, cells := 0, slots := 0, locals := 97 }) (va_Pc [.ref cb, .ref (cb + (42 + j))] (zCW D ka cb P C A)) (va_Qv (fun (_ : Unit) => True) (fun _ t => zCS D ka cb (zcomes M) t) (zCA cb)) 0 0 (zCA cb) := by
  refine z_met (by decide) (Nat.le_of_ble_eq_true rfl) ?_
  intro pg e s m below meth c hx hb hml hr hts hown hlk hnm hB ls hl
  obtain ⟨hP, hQ, hz, hK⟩ := hB
  have hS : va_S (zCA cb) s.heap s.heap [] := va_S.rf
  have hl : lv_has ls 2 [(0, .ref cb), (1, .ref (cb + (42 + j)))] := hl
  have hL := zOk_lt hO
  have hWk := hO.2.2.2.1
  have z_r : zix (nI r) = r := zix_n (by omega)
  have z_p : zix (nI p) = p := zix_n (by omega)
  have z_d : zix (nI d) = d := zix_n (by omega)
  obtain ⟨a, ha1, ha⟩ := hLj.2.2.2.2.2.2 h31
  refine lv_aload_n hx hb zd_X_bring_0 rfl (lv_at hl 1 rfl) ?_
  refine zr_get hx hb hts zin_L hown hK hP (zCL_in (by omega)) (zCE_let ka cb C A (j := j) (by omega)) rfl 0 (by decide) (zl_X_124 hts) rfl rfl zd_X_bring_1 ?_
  refine z_top (y := M 31 300) hLj.1 ?_
  refine lv_tableOut (x := (M 31 300)) (tgt := 101) hx hb zd_X_bring_4 (by rw [h31]; decide) (by decide) ?_
  refine lv_aload_n hx hb zd_X_bring_101 rfl (lv_at hl 0 rfl) ?_
  refine lv_aload_n hx hb zd_X_bring_102 rfl (lv_at hl 1 rfl) ?_
  refine zr_get hx hb hts zin_L hown hK hP (zCL_in (by omega)) (zCE_let ka cb C A (j := j) (by omega)) rfl 1 (by decide) (zl_X_129 hts) rfl rfl zd_X_bring_103 ?_
  refine z_top (y := nI r) (hLj.2.1.trans h32) ?_
  refine lv_aload_n hx hb zd_X_bring_106 rfl (lv_at hl 1 rfl) ?_
  refine zr_get hx hb hts zin_L hown hK hP (zCL_in (by omega)) (zCE_let ka cb C A (j := j) (by omega)) rfl 3 (by decide) (zl_X_135 hts) rfl rfl zd_X_bring_107 ?_
  refine z_top (y := nI d) (hLj.2.2.2.1.trans h34) ?_
  refine lv_aload_n hx hb zd_X_bring_110 rfl (lv_at hl 1 rfl) ?_
  refine zr_get hx hb hts zin_L hown hK hP (zCL_in (by omega)) (zCE_let ka cb C A (j := j) (by omega)) rfl 4 (by decide) (zl_X_138 hts) rfl rfl zd_X_bring_111 ?_
  refine z_top (y := M 35 300) hLj.2.2.2.2.1 ?_
  refine lv_aload_n hx hb zd_X_bring_114 rfl (lv_at hl 1 rfl) ?_
  refine zr_get hx hb hts zin_L hown hK hP (zCL_in (by omega)) (zCE_let ka cb C A (j := j) (by omega)) rfl 5 (by decide) (zl_X_150 hts) rfl rfl zd_X_bring_115 ?_
  refine z_topr (v := .ref a) (congrArg va_rf ha1) ?_
  refine zK_callv (nA := 4) (As := [.int (nI r), .int (nI d), .int (M 35 300), .ref a]) (rest := []) zCW_blind (zc_m_X_bringTell l D ka cb P C A M hRep hO r d a hr0 hd ha) (zg_X_bringTell zk_X_227) (by decide) ⟨rfl, rfl⟩ ⟨Nat.le_of_ble_eq_true rfl, Nat.le_of_ble_eq_true rfl⟩ hx hb hml hts hown (zC_recv hK hP zCL_0 (zCE_x ka cb C A) rfl) (zC_U hK hP hQ hz hS) hS (fun _ h => h) hl.1 rfl rfl (Nat.le_of_ble_eq_true rfl) ⟨Nat.le_of_ble_eq_true rfl, Nat.le_of_ble_eq_true rfl⟩ zd_X_bring_118 (fun t locs hvm hB hS _ _ => ?_)
  obtain ⟨P, C, A, ⟨hP, hQ, -, -⟩, hRep⟩ := hB
  generalize t.heap = H at hP hS ⊢
  exact zK_vret hx hb hr hlk hS (fun t ht hW => ⟨_, _, _, zC_U hK hP hQ hz hS t ht hW, (zRep_eq hRep (by simp [zcomes, h31, h32, h33, z_r, z_p, h34, z_d]))⟩) zd_X_bring_121
theorem zc_m_X_bring (l : Launch) (D : va_G) (ka : Nat → ClassId) (cb : Nat) (P : List Nat) (C : zC) (A : zA) (M : zM) (hRep : zRep cb P C A M) (hO : zOk M) (hk : zlok M 300) (j : Nat) (hj : j < 300) (hLj : zLRc cb P C A M j 300) : Met l zy_X_bring (.code zy_X_bring zc_X_bring 2 none :: zAll) ({ frames := 4, cells := 0, slots := 0, locals := 97 }) (va_Pc [.ref cb, .ref (cb + (42 + j))] (zCW D ka cb P C A)) (va_Qv (fun (_ : Unit) => True) (fun _ t => zCS D ka cb (zcomes M) t) (zCA cb)) 0 0 (zCA cb) := by
  obtain ⟨⟨r, hr, h32⟩, ⟨p, hp, h33⟩, hk⟩ := hk
  rcases hk with ⟨h31, -⟩ | h31 | ⟨h31, -⟩ | ⟨h31, d, hd, h34⟩
  · exact zc_m_X_bring1 l D ka cb P C A M hRep hO j r p hj hr hp h31 h32 h33 hLj
  · exact zc_m_X_bring2 l D ka cb P C A M hRep hO j r p hj hr hp h31 h32 h33 hLj
  · exact zc_m_X_bring3 l D ka cb P C A M hRep hO j r p hj hr hp h31 h32 h33 hLj
  · exact zc_m_X_bring4 l D ka cb P C A M hRep hO j r p d hj hr hp h31 h32 h33 hLj hd h34
set_option maxRecDepth 100000 in
set_option maxHeartbeats 4000000 in
theorem zc_m_X_lose (l : Launch) (D : va_G) (ka : Nat → ClassId) (cb : Nat) (M : zM) (hL : zLt M) (i0 : Int32) : Met l zy_X_lose (.code zy_X_lose zc_X_lose 2 (some .boolean) :: zAll) ({ frames := 1, cells := 0, slots := 0, locals := 23 }) (va_Pc [.ref cb, .int i0] (zCS D ka cb M)) (va_Qi (fun rr (_ : Unit) => rr = (zf_deliver M i0)) (fun _ t => zCS D ka cb (zg_take M i0) t) (zCA cb)) 0 0 (zCA cb) := by
  refine z_met (by decide) (Nat.le_of_ble_eq_true rfl) ?_
  intro pg e s m below meth c hx hb hml hr hts hown hlk hnm hB ls hl
  obtain ⟨P, C, A, ⟨hP, hQ, hz, hK⟩, hRep⟩ := hB
  have hS : va_S (zCA cb) s.heap s.heap [] := va_S.rf
  have hl : lv_has ls 2 [(0, .ref cb), (1, .int i0)] := hl
  obtain ⟨n, hn1, hn⟩ := id hL
  have hz0 : zix (M 0 1) = n := by rw [hn]; exact zix_n (by omega)
  obtain ⟨σ, hσ, hinj, hLR⟩ := zr_post hRep
  refine lv_aload_n hx hb zd_X_lose_0 rfl (lv_at hl 0 rfl) ?_
  refine zr_get hx hb hts zin_X hown hK hP zCL_0 (zCE_x ka cb C A) rfl 4 (by decide) (zl_X_53 hts) rfl rfl zd_X_lose_1 ?_
  refine lv_iload_n hx hb zd_X_lose_4 rfl (lv_at hl 1 rfl) ?_
  refine zK_calls (nA := 1) (As := [.int i0]) (rest := []) zCW_blind (zc_m_O_has l D ka cb P C A i0) (zg_O_has zk_X_117) (by decide) ⟨rfl, rfl⟩ ⟨Nat.le_of_ble_eq_true rfl, Nat.le_of_ble_eq_true rfl⟩ hx hb hml hts hown (zC_recv hK hP (zCL_in (by omega)) (zCE_post ka cb C A) rfl) (zC_U hK hP hQ hz hS) hl.1 rfl rfl (Nat.le_of_ble_eq_true rfl) ⟨Nat.le_of_ble_eq_true rfl, Nat.le_of_ble_eq_true rfl⟩ zd_X_lose_5 ?_
  refine lv_if_ne (tgt := 13) hx hb zd_X_lose_8 (by decide) (fun h8 => ?_) (fun h8 => ?_)
  · have c8 := zb_1 h8
    rw [zr_count hRep] at c8
    obtain ⟨i, h_i, rfl⟩ := zbl_of (n := n) (by omega) (by rw [← hn]; exact c8)
    have z_i : zix (nI i) = i := zix_n (by omega)
    have hLi := hLR i (by rw [hz0]; exact h_i)
    refine lv_aload_n hx hb zd_X_lose_13 rfl (lv_at hl 0 rfl) ?_
    refine zr_get hx hb hts zin_X hown hK hP zCL_0 (zCE_x ka cb C A) rfl 4 (by decide) (zl_X_53 hts) rfl rfl zd_X_lose_14 ?_
    refine lv_iload_n hx hb zd_X_lose_17 rfl (lv_at hl 1 rfl) ?_
    refine zK_callr (nA := 1) (As := [.int (nI i)]) (rest := []) zCW_blind (zc_m_O_take l D ka cb P C A n i σ ((zr_count hRep).trans hn) hn1 h_i hσ) (zg_O_take zk_X_139) (by decide) ⟨rfl, rfl⟩ ⟨Nat.le_of_ble_eq_true rfl, Nat.le_of_ble_eq_true rfl⟩ hx hb hml hts hown (zC_recv hK hP (zCL_in (by omega)) (zCE_post ka cb C A) rfl) (zC_U hK hP hQ hz hS) hS (fun _ h => h) hl.1 rfl rfl (Nat.le_of_ble_eq_true rfl) ⟨Nat.le_of_ble_eq_true rfl, Nat.le_of_ble_eq_true rfl⟩ zd_X_lose_18 (fun t locs hvm hB hS => ?_)
    obtain ⟨hP, -, -, -⟩ := hB
    generalize t.heap = H at hP hS ⊢
    have hsi := (hσ i (by omega)).2
    obtain ⟨hRep, hLj⟩ := zRep_take hRep hn1 hn hσ hinj hLR h_i
    refine lv_pop hx hb zd_X_lose_21 rfl ?_
    refine lv_iconst (v := 1) hx hb zd_X_lose_22 (by decide) ?_
    exact zK_zret hx hb hr hlk hS (fun t ht hW => ⟨_, _, _, zC_U hK hP hQ hz hS t ht hW, (zRep_eq hRep (by rw [zg_take, if_pos c8, z_i, hz0]))⟩) rfl (zb_t c8).symm zd_X_lose_23
  · have c8 := zb_0 h8
    rw [zr_count hRep] at c8
    refine lv_iconst (v := 0) hx hb zd_X_lose_11 (by decide) ?_
    exact zK_zret hx hb hr hlk hS (fun t ht hW => ⟨_, _, _, zC_U hK hP hQ hz hS t ht hW, (zRep_eq hRep (by rw [zg_take, if_neg c8]))⟩) rfl (zb_f c8).symm zd_X_lose_12
set_option maxRecDepth 100000 in
set_option maxHeartbeats 4000000 in
theorem zc_m_X_deliver (l : Launch) (D : va_G) (ka : Nat → ClassId) (cb : Nat) (M : zM) (hO : zOk M) (i0 : Int32) : Met l zy_X_deliver (.code zy_X_deliver zc_X_deliver 2 (some .boolean) :: zAll) ({ frames := 5, cells := 0, slots := 0, locals := 118 }) (va_Pc [.ref cb, .int i0] (zCS D ka cb M)) (va_Qi (fun rr (_ : Unit) => rr = (zf_deliver M i0)) (fun _ t => zCS D ka cb (zg_deliver M i0) t) (zCA cb)) 0 0 (zCA cb) := by
  refine z_met (by decide) (Nat.le_of_ble_eq_true rfl) ?_
  intro pg e s m below meth c hx hb hml hr hts hown hlk hnm hB ls hl
  obtain ⟨P, C, A, ⟨hP, hQ, hz, hK⟩, hRep⟩ := hB
  have hS : va_S (zCA cb) s.heap s.heap [] := va_S.rf
  have hl : lv_has ls 2 [(0, .ref cb), (1, .int i0)] := hl
  have hL := zOk_lt hO
  obtain ⟨n, hn1, hn, hn2⟩ := hO.1
  have hz0 : zix (M 0 1) = n := by rw [hn]; exact zix_n (by omega)
  obtain ⟨σ, hσ, hinj, hLR⟩ := zr_post hRep
  refine lv_aload_n hx hb zd_X_deliver_0 rfl (lv_at hl 0 rfl) ?_
  refine zr_get hx hb hts zin_X hown hK hP zCL_0 (zCE_x ka cb C A) rfl 4 (by decide) (zl_X_53 hts) rfl rfl zd_X_deliver_1 ?_
  refine lv_iload_n hx hb zd_X_deliver_4 rfl (lv_at hl 1 rfl) ?_
  refine zK_calls (nA := 1) (As := [.int i0]) (rest := []) zCW_blind (zc_m_O_has l D ka cb P C A i0) (zg_O_has zk_X_117) (by decide) ⟨rfl, rfl⟩ ⟨Nat.le_of_ble_eq_true rfl, Nat.le_of_ble_eq_true rfl⟩ hx hb hml hts hown (zC_recv hK hP (zCL_in (by omega)) (zCE_post ka cb C A) rfl) (zC_U hK hP hQ hz hS) hl.1 rfl rfl (Nat.le_of_ble_eq_true rfl) ⟨Nat.le_of_ble_eq_true rfl, Nat.le_of_ble_eq_true rfl⟩ zd_X_deliver_5 ?_
  refine lv_if_ne (tgt := 13) hx hb zd_X_deliver_8 (by decide) (fun h8 => ?_) (fun h8 => ?_)
  · have c8 := zb_1 h8
    rw [zr_count hRep] at c8
    obtain ⟨i, h_i, rfl⟩ := zbl_of (n := n) (by omega) (by rw [← hn]; exact c8)
    have z_i : zix (nI i) = i := zix_n (by omega)
    have hLi := hLR i (by rw [hz0]; exact h_i)
    refine lv_aload_n hx hb zd_X_deliver_13 rfl (lv_at hl 0 rfl) ?_
    refine lv_aload_n hx hb zd_X_deliver_14 rfl (lv_at hl 0 rfl) ?_
    refine zr_get hx hb hts zin_X hown hK hP zCL_0 (zCE_x ka cb C A) rfl 4 (by decide) (zl_X_53 hts) rfl rfl zd_X_deliver_15 ?_
    refine lv_iload_n hx hb zd_X_deliver_18 rfl (lv_at hl 1 rfl) ?_
    refine zK_callr (nA := 1) (As := [.int (nI i)]) (rest := [.ref cb]) zCW_blind (zc_m_O_take l D ka cb P C A n i σ ((zr_count hRep).trans hn) hn1 h_i hσ) (zg_O_take zk_X_139) (by decide) ⟨rfl, rfl⟩ ⟨Nat.le_of_ble_eq_true rfl, Nat.le_of_ble_eq_true rfl⟩ hx hb hml hts hown (zC_recv hK hP (zCL_in (by omega)) (zCE_post ka cb C A) rfl) (zC_U hK hP hQ hz hS) hS (fun _ h => h) hl.1 rfl rfl (Nat.le_of_ble_eq_true rfl) ⟨Nat.le_of_ble_eq_true rfl, Nat.le_of_ble_eq_true rfl⟩ zd_X_deliver_19 (fun t locs hvm hB hS => ?_)
    obtain ⟨hP, -, -, -⟩ := hB
    generalize t.heap = H at hP hS ⊢
    have hsi := (hσ i (by omega)).2
    obtain ⟨hRep, hLj⟩ := zRep_take hRep hn1 hn hσ hinj hLR h_i
    refine zK_callv (nA := 1) (As := [.ref (cb + (42 + σ i))]) (rest := []) zCW_blind (zc_m_X_bring l D ka cb P (zs3 C 13 0 0 (C 13 0 0 - 1)) (zAtk A i n) (ztake M i n) hRep (zOk_take hO hn1 hn h_i) (ztake_lok (hn2 i h_i)) (σ i) hsi hLj) (zg_X_bring zk_X_143) (by decide) ⟨rfl, rfl⟩ ⟨Nat.le_of_ble_eq_true rfl, Nat.le_of_ble_eq_true rfl⟩ hx hb hml hts hown (zC_recv hK hP zCL_0 (zCE_x ka cb (zs3 C 13 0 0 (C 13 0 0 - 1)) (zAtk A i n)) rfl) (zC_U hK hP hQ hz hS) hS (fun _ h => h) hl.1 rfl rfl (Nat.le_of_ble_eq_true rfl) ⟨Nat.le_of_ble_eq_true rfl, Nat.le_of_ble_eq_true rfl⟩ zd_X_deliver_22 (fun t locs hvm hB hS _ _ => ?_)
    obtain ⟨P, C, A, ⟨hP, hQ, -, -⟩, hRep⟩ := hB
    generalize t.heap = H at hP hS ⊢
    refine lv_iconst (v := 1) hx hb zd_X_deliver_25 (by decide) ?_
    exact zK_zret hx hb hr hlk hS (fun t ht hW => ⟨_, _, _, zC_U hK hP hQ hz hS t ht hW, (zRep_eq hRep (by rw [zg_deliver, if_pos c8, zdeliver, z_i, hz0]))⟩) rfl (zb_t c8).symm zd_X_deliver_26
  · have c8 := zb_0 h8
    rw [zr_count hRep] at c8
    refine lv_iconst (v := 0) hx hb zd_X_deliver_11 (by decide) ?_
    exact zK_zret hx hb hr hlk hS (fun t ht hW => ⟨_, _, _, zC_U hK hP hQ hz hS t ht hW, (zRep_eq hRep (by rw [zg_deliver, if_neg c8]))⟩) rfl (zb_f c8).symm zd_X_deliver_12
set_option maxRecDepth 100000 in
set_option maxHeartbeats 4000000 in
theorem zc_m_X_twin (l : Launch) (D : va_G) (ka : Nat → ClassId) (cb : Nat) (M : zM) (hL : zLt M) (i0 : Int32) : Met l zy_X_twin (.code zy_X_twin zc_X_twin 3 (some .boolean) :: zAll) ({ frames := 2, cells := 0, slots := 0, locals := 47 }) (va_Pc [.ref cb, .int i0] (zCS D ka cb M)) (va_Qi (fun rr (_ : Unit) => rr = (zf_twin M i0)) (fun _ t => zCS D ka cb (zg_twin M i0) t) (zCA cb)) 0 0 (zCA cb) := by
  refine z_met (by decide) (Nat.le_of_ble_eq_true rfl) ?_
  intro pg e s m below meth c hx hb hml hr hts hown hlk hnm hB ls hl
  obtain ⟨P, C, A, ⟨hP, hQ, hz, hK⟩, hRep⟩ := hB
  have hS : va_S (zCA cb) s.heap s.heap [] := va_S.rf
  have hl : lv_has ls 3 [(0, .ref cb), (1, .int i0)] := hl
  obtain ⟨n, hn1, hn⟩ := id hL
  have hz0 : zix (M 0 1) = n := by rw [hn]; exact zix_n (by omega)
  obtain ⟨σ, hσ, hinj, hLR⟩ := zr_post hRep
  refine lv_aload_n hx hb zd_X_twin_0 rfl (lv_at hl 0 rfl) ?_
  refine zr_get hx hb hts zin_X hown hK hP zCL_0 (zCE_x ka cb C A) rfl 4 (by decide) (zl_X_53 hts) rfl rfl zd_X_twin_1 ?_
  refine lv_iload_n hx hb zd_X_twin_4 rfl (lv_at hl 1 rfl) ?_
  refine zK_calls (nA := 1) (As := [.int i0]) (rest := []) zCW_blind (zc_m_O_has l D ka cb P C A i0) (zg_O_has zk_X_117) (by decide) ⟨rfl, rfl⟩ ⟨Nat.le_of_ble_eq_true rfl, Nat.le_of_ble_eq_true rfl⟩ hx hb hml hts hown (zC_recv hK hP (zCL_in (by omega)) (zCE_post ka cb C A) rfl) (zC_U hK hP hQ hz hS) hl.1 rfl rfl (Nat.le_of_ble_eq_true rfl) ⟨Nat.le_of_ble_eq_true rfl, Nat.le_of_ble_eq_true rfl⟩ zd_X_twin_5 ?_
  refine lv_if_eq (tgt := 21) hx hb zd_X_twin_8 (by decide) (fun h8 => ?_) (fun h8 => ?_)
  · have c8 := zb_0 h8
    rw [zr_count hRep] at c8
    refine lv_iconst (v := 0) hx hb zd_X_twin_21 (by decide) ?_
    exact zK_zret hx hb hr hlk hS (fun t ht hW => ⟨_, _, _, zC_U hK hP hQ hz hS t ht hW, (zRep_eq hRep (by rw [zg_twin, if_neg (fun q => c8 q.1)]))⟩) rfl (zb_f (fun q => c8 q.1)).symm zd_X_twin_22
  · have c8 := zb_1 h8
    rw [zr_count hRep] at c8
    obtain ⟨i, h_i, rfl⟩ := zbl_of (n := n) (by omega) (by rw [← hn]; exact c8)
    have z_i : zix (nI i) = i := zix_n (by omega)
    have hLi := hLR i (by rw [hz0]; exact h_i)
    refine lv_aload_n hx hb zd_X_twin_11 rfl (lv_at hl 0 rfl) ?_
    refine zr_get hx hb hts zin_X hown hK hP zCL_0 (zCE_x ka cb C A) rfl 4 (by decide) (zl_X_53 hts) rfl rfl zd_X_twin_12 ?_
    refine zK_calls (nA := 0) (As := []) (rest := []) zCW_blind (zc_m_O_isFull l D ka cb P C A) (zg_O_isFull zk_X_147) (by decide) ⟨rfl, rfl⟩ ⟨Nat.le_of_ble_eq_true rfl, Nat.le_of_ble_eq_true rfl⟩ hx hb hml hts hown (zC_recv hK hP (zCL_in (by omega)) (zCE_post ka cb C A) rfl) (zC_U hK hP hQ hz hS) hl.1 rfl rfl (Nat.le_of_ble_eq_true rfl) ⟨Nat.le_of_ble_eq_true rfl, Nat.le_of_ble_eq_true rfl⟩ zd_X_twin_15 ?_
    refine lv_if_eq (tgt := 23) hx hb zd_X_twin_18 (by decide) (fun h18 => ?_) (fun h18 => ?_)
    · have c18 := zb_0 h18
      rw [zr_count hRep] at c18
      have hn3 : n < 300 := Nat.lt_of_not_le (fun q => c18 (by rw [hn]; exact nI_nlt (b := 300) q (by omega)))
      have c18b : ¬ M 0 1 = 300 := by rw [hn, zn_eq300 hn1]; omega
      refine lv_aload_n hx hb zd_X_twin_23 rfl (lv_at hl 0 rfl) ?_
      refine zr_get hx hb hts zin_X hown hK hP zCL_0 (zCE_x ka cb C A) rfl 4 (by decide) (zl_X_53 hts) rfl rfl zd_X_twin_24 ?_
      refine zr_get hx hb hts zin_O hown hK hP (zCL_in (by omega)) (zCE_post ka cb C A) rfl 0 (by decide) (zl_X_120 hts) rfl rfl zd_X_twin_27 ?_
      refine lv_iload_n hx hb zd_X_twin_30 rfl (lv_at hl 1 rfl) ?_
      refine zr_aald (v := va_rf (A 5 0 i)) hx hb hK hP (zCL_in (by omega)) 3 (zCE_row ka cb C A) rfl (j := i) rfl (show i < 300 from by omega) (by decide) rfl zd_X_twin_31 ?_
      have hs1 := (hσ i (by omega)).1
      have hs2 := (hσ i (by omega)).2
      refine z_topr (v := .ref (cb + (42 + σ i))) (congrArg va_rf hs1) ?_
      refine lv_astore_n hx hb zd_X_twin_32 rfl hl (by decide) rfl (fun ls hl => ?_)
      have hl : lv_has ls 3 [(2, .ref (cb + (42 + σ i))), (0, .ref cb), (1, .int (nI i))] := hl
      refine lv_aload_n hx hb zd_X_twin_33 rfl (lv_at hl 1 rfl) ?_
      refine zr_get hx hb hts zin_X hown hK hP zCL_0 (zCE_x ka cb C A) rfl 4 (by decide) (zl_X_53 hts) rfl rfl zd_X_twin_34 ?_
      refine lv_aload_n hx hb zd_X_twin_37 rfl (lv_at hl 0 rfl) ?_
      refine zr_get hx hb hts zin_L hown hK hP (zCL_in (by omega)) (zCE_let ka cb C A (j := σ i) (by omega)) rfl 0 (by decide) (zl_X_124 hts) rfl rfl zd_X_twin_38 ?_
      refine z_top (y := M 31 i) hLi.1 ?_
      refine lv_aload_n hx hb zd_X_twin_41 rfl (lv_at hl 0 rfl) ?_
      refine zr_get hx hb hts zin_L hown hK hP (zCL_in (by omega)) (zCE_let ka cb C A (j := σ i) (by omega)) rfl 1 (by decide) (zl_X_129 hts) rfl rfl zd_X_twin_42 ?_
      refine z_top (y := M 32 i) hLi.2.1 ?_
      refine lv_aload_n hx hb zd_X_twin_45 rfl (lv_at hl 0 rfl) ?_
      refine zr_get hx hb hts zin_L hown hK hP (zCL_in (by omega)) (zCE_let ka cb C A (j := σ i) (by omega)) rfl 2 (by decide) (zl_X_132 hts) rfl rfl zd_X_twin_46 ?_
      refine z_top (y := M 33 i) hLi.2.2.1 ?_
      refine lv_aload_n hx hb zd_X_twin_49 rfl (lv_at hl 0 rfl) ?_
      refine zr_get hx hb hts zin_L hown hK hP (zCL_in (by omega)) (zCE_let ka cb C A (j := σ i) (by omega)) rfl 3 (by decide) (zl_X_135 hts) rfl rfl zd_X_twin_50 ?_
      refine z_top (y := M 34 i) hLi.2.2.2.1 ?_
      refine lv_aload_n hx hb zd_X_twin_53 rfl (lv_at hl 0 rfl) ?_
      refine zr_get hx hb hts zin_L hown hK hP (zCL_in (by omega)) (zCE_let ka cb C A (j := σ i) (by omega)) rfl 4 (by decide) (zl_X_138 hts) rfl rfl zd_X_twin_54 ?_
      refine z_top (y := M 35 i) hLi.2.2.2.2.1 ?_
      refine lv_aload_n hx hb zd_X_twin_57 rfl (lv_at hl 0 rfl) ?_
      refine zr_get hx hb hts zin_L hown hK hP (zCL_in (by omega)) (zCE_let ka cb C A (j := σ i) (by omega)) rfl 5 (by decide) (zl_X_150 hts) rfl rfl zd_X_twin_58 ?_
      refine zK_callv (nA := 6) (As := [.int (M 31 i), .int (M 32 i), .int (M 33 i), .int (M 34 i), .int (M 35 i), va_rf (A 6 (σ i) 0)]) (rest := []) zCW_blind (zc_m_O_send l D ka cb P C A n σ ((zr_count hRep).trans hn) hn1 hσ (M 31 i) (M 32 i) (M 33 i) (M 34 i) (M 35 i) (A 6 (σ i) 0)) (zg_O_send zk_X_153) (by decide) ⟨rfl, rfl⟩ ⟨Nat.le_of_ble_eq_true rfl, Nat.le_of_ble_eq_true rfl⟩ hx hb hml hts hown (zC_recv hK hP (zCL_in (by omega)) (zCE_post ka cb C A) rfl) (zC_U hK hP hQ hz hS) hS (fun _ h => h) hl.1 rfl rfl (Nat.le_of_ble_eq_true rfl) ⟨Nat.le_of_ble_eq_true rfl, Nat.le_of_ble_eq_true rfl⟩ zd_X_twin_61 (fun t locs hvm hB hS _ _ => ?_)
      obtain ⟨hP, -, -, -⟩ := hB
      generalize t.heap = H at hP hS ⊢
      refine lv_iconst (v := 1) hx hb zd_X_twin_64 (by decide) ?_
      exact zK_zret hx hb hr hlk hS (fun t ht hW => ⟨_, _, _, zC_U hK hP hQ hz hS t ht hW, (zRep_eq (zRep_send hRep hn1 hn hσ hinj hLR (pn := M 36 i) (lo := M 37 i) (hi := M 38 i) hLi.2.2.2.2.2.1 hLi.2.2.2.2.2.2) (by rw [ztwin_eq hn3 hn, zg_twin, if_pos ⟨c8, c18b⟩, z_i, hz0]))⟩) rfl (zb_t ⟨c8, c18b⟩).symm zd_X_twin_65
    · have c18 := zb_1 h18
      rw [zr_count hRep] at c18
      have c18b : M 0 1 = 300 := by rw [hn, zn_eq300 hn1]; exact Nat.le_antisymm hn1 (Nat.le_of_not_lt (fun q => c18 (by rw [hn]; exact nI_lt (b := 300) q (by decide))))
      refine lv_iconst (v := 0) hx hb zd_X_twin_21 (by decide) ?_
      exact zK_zret hx hb hr hlk hS (fun t ht hW => ⟨_, _, _, zC_U hK hP hQ hz hS t ht hW, (zRep_eq hRep (by rw [zg_twin, if_neg (fun q => q.2 c18b)]))⟩) rfl (zb_f (fun q => q.2 c18b)).symm zd_X_twin_22
