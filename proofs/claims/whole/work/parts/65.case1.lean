-- the law's cases, written by gen_law.py
section ZJC0
variable {p : Program} {l : Launch} {e : Env} {s : State} {m : MethodId} {args : Array Value} {below : List Frame} {meth : Method} {c : Code} {H : Heap} {locs : List Loc} {cells slots : Nat} {Q : State → Prop}
variable {b L cb : Nat} {xs : Nat → Int32} {ls : Array Slot} {D : va_G} {ka : Nat → ClassId} {M : zM}
theorem zj_hall (hC : zJC p s m c args b L xs D ka cb) (hO : zOk M) (hJ : zJS D ka cb M M H) (hS : va_S (zGA cb) s.heap H locs) {i : Nat} (hi : i + 6 ≤ L) (hL : L ≤ 3073) (hl : lv_has ls 4 [(3, .int (nI i)), (2, .ref (cb + 346)), (1, .ref cb), (0, .ref b)]) (hc : cells + 1 ≤ 655885) (hs : slots + 3 ≤ 7134594)
    (kk : ∀ (H1 : Heap) (locs1 : List Loc) (M1 : zM), zOk M1 → zJS D ka cb M1 M1 H1 → va_S (zGA cb) s.heap H1 locs1 → W p l e room_1 s m args below meth c H1 locs1 (cells + 1) (slots + 3) Q (F0 m 854 ls [])) : W p l e room_1 s m args below meth c H locs cells slots Q (F0 m 152 ls []) := by
  obtain ⟨hx, hb, -⟩ := id hC
  refine lv_aload_n hx hb zd_J_law_152 rfl (lv_at hl 2 rfl) ?_
  refine zJ_arg 1 hC hS hl hi hL (by decide) (by decide) zd_J_law_153 zd_J_law_154 zd_J_law_155 zd_J_law_156 zd_J_law_157 ?_
  refine zJ_arg 2 hC hS hl hi hL (by decide) (by decide) zd_J_law_158 zd_J_law_159 zd_J_law_160 zd_J_law_161 zd_J_law_162 ?_
  refine zJ_ci (nA := 2) (As := [.int (xs (i + 1)), .int (xs (i + 2))]) (rest := []) (zc_m_X_hall l D ka cb M (xs (i + 1)) (xs (i + 2))) (zg_X_hall zk_J_21) rfl (by decide) ⟨rfl, rfl⟩ ⟨Nat.le_of_ble_eq_true rfl, Nat.le_of_ble_eq_true rfl⟩ hC hJ hS hl.1 rfl rfl (Nat.le_of_ble_eq_true rfl) ⟨show cells + 0 ≤ 655885 by omega, show slots + 0 ≤ 7134594 by omega⟩ zd_J_law_163 (fun H locs hJ hS => ?_)
  refine lv_aload_n hx hb zd_J_law_166 rfl (lv_at hl 1 rfl) ?_
  refine zJ_arg 1 hC hS hl hi hL (by decide) (by decide) zd_J_law_167 zd_J_law_168 zd_J_law_169 zd_J_law_170 zd_J_law_171 ?_
  refine zJ_arg 2 hC hS hl hi hL (by decide) (by decide) zd_J_law_172 zd_J_law_173 zd_J_law_174 zd_J_law_175 zd_J_law_176 ?_
  refine zJ_ri (nA := 2) (As := [.int (xs (i + 1)), .int (xs (i + 2))]) (rest := [.int _]) (zm_hall l D ka (cb + 346) M (xs (i + 1)) (xs (i + 2))) (zg_M_hall zk_J_25) rfl (by decide) ⟨rfl, rfl⟩ ⟨Nat.le_of_ble_eq_true rfl, Nat.le_of_ble_eq_true rfl⟩ hC hJ hS hl.1 rfl rfl (Nat.le_of_ble_eq_true rfl) ⟨show cells + 0 ≤ 655885 by omega, show slots + 0 ≤ 7134594 by omega⟩ zd_J_law_177 (fun H locs hJ hS => ?_)
  refine lv_icmp_eq (tgt := 854) hx hb zd_J_law_180 (by decide) (fun _ => ?_) (fun h => absurd rfl h)
  refine W.widen (k := cells + 1) (n := slots + 3) (by omega) (by omega) ?_
  exact kk H locs _ (zOg_hall hO _ _) hJ hS
theorem zj_write (hC : zJC p s m c args b L xs D ka cb) (hO : zOk M) (hJ : zJS D ka cb M M H) (hS : va_S (zGA cb) s.heap H locs) {i : Nat} (hi : i + 6 ≤ L) (hL : L ≤ 3073) (hl : lv_has ls 4 [(3, .int (nI i)), (2, .ref (cb + 346)), (1, .ref cb), (0, .ref b)]) (hc : cells + 1 ≤ 655885) (hs : slots + 3 ≤ 7134594)
    (kk : ∀ (H1 : Heap) (locs1 : List Loc) (M1 : zM), zOk M1 → zJS D ka cb M1 M1 H1 → va_S (zGA cb) s.heap H1 locs1 → W p l e room_1 s m args below meth c H1 locs1 (cells + 1) (slots + 3) Q (F0 m 854 ls [])) : W p l e room_1 s m args below meth c H locs cells slots Q (F0 m 185 ls []) := by
  obtain ⟨hx, hb, -⟩ := id hC
  refine lv_aload_n hx hb zd_J_law_185 rfl (lv_at hl 2 rfl) ?_
  refine zJ_arg 1 hC hS hl hi hL (by decide) (by decide) zd_J_law_186 zd_J_law_187 zd_J_law_188 zd_J_law_189 zd_J_law_190 ?_
  refine zJ_arg 2 hC hS hl hi hL (by decide) (by decide) zd_J_law_191 zd_J_law_192 zd_J_law_193 zd_J_law_194 zd_J_law_195 ?_
  refine zJ_arg 3 hC hS hl hi hL (by decide) (by decide) zd_J_law_196 zd_J_law_197 zd_J_law_198 zd_J_law_199 zd_J_law_200 ?_
  refine zJ_ci (nA := 3) (As := [.int (xs (i + 1)), .int (xs (i + 2)), .int (xs (i + 3))]) (rest := []) (zc_m_X_write l D ka cb M (zOk_lt hO) (xs (i + 1)) (xs (i + 2)) (xs (i + 3))) (zg_X_write zk_J_26) rfl (by decide) ⟨rfl, rfl⟩ ⟨Nat.le_of_ble_eq_true rfl, Nat.le_of_ble_eq_true rfl⟩ hC hJ hS hl.1 rfl rfl (Nat.le_of_ble_eq_true rfl) ⟨show cells + 1 ≤ 655885 by omega, show slots + 3 ≤ 7134594 by omega⟩ zd_J_law_201 (fun H locs hJ hS => ?_)
  refine lv_aload_n hx hb zd_J_law_204 rfl (lv_at hl 1 rfl) ?_
  refine zJ_arg 1 hC hS hl hi hL (by decide) (by decide) zd_J_law_205 zd_J_law_206 zd_J_law_207 zd_J_law_208 zd_J_law_209 ?_
  refine zJ_arg 2 hC hS hl hi hL (by decide) (by decide) zd_J_law_210 zd_J_law_211 zd_J_law_212 zd_J_law_213 zd_J_law_214 ?_
  refine zJ_arg 3 hC hS hl hi hL (by decide) (by decide) zd_J_law_215 zd_J_law_216 zd_J_law_217 zd_J_law_218 zd_J_law_219 ?_
  refine zJ_ri (nA := 3) (As := [.int (xs (i + 1)), .int (xs (i + 2)), .int (xs (i + 3))]) (rest := [.int _]) (zm_write l D ka (cb + 346) M (zOk_lt hO) (xs (i + 1)) (xs (i + 2)) (xs (i + 3))) (zg_M_write zk_J_30) rfl (by decide) ⟨rfl, rfl⟩ ⟨Nat.le_of_ble_eq_true rfl, Nat.le_of_ble_eq_true rfl⟩ hC hJ hS hl.1 rfl rfl (Nat.le_of_ble_eq_true rfl) ⟨show cells + 1 ≤ 655885 by omega, show slots + 3 ≤ 7134594 by omega⟩ zd_J_law_220 (fun H locs hJ hS => ?_)
  refine lv_icmp_eq (tgt := 854) hx hb zd_J_law_223 (by decide) (fun _ => ?_) (fun h => absurd rfl h)
  refine W.widen (k := cells + 1) (n := slots + 3) (by omega) (by omega) ?_
  exact kk H locs _ (zOg_write hO _ _ _) hJ hS
theorem zj_read (hC : zJC p s m c args b L xs D ka cb) (hO : zOk M) (hJ : zJS D ka cb M M H) (hS : va_S (zGA cb) s.heap H locs) {i : Nat} (hi : i + 6 ≤ L) (hL : L ≤ 3073) (hl : lv_has ls 4 [(3, .int (nI i)), (2, .ref (cb + 346)), (1, .ref cb), (0, .ref b)]) (hc : cells + 1 ≤ 655885) (hs : slots + 3 ≤ 7134594)
    (kk : ∀ (H1 : Heap) (locs1 : List Loc) (M1 : zM), zOk M1 → zJS D ka cb M1 M1 H1 → va_S (zGA cb) s.heap H1 locs1 → W p l e room_1 s m args below meth c H1 locs1 (cells + 1) (slots + 3) Q (F0 m 854 ls [])) : W p l e room_1 s m args below meth c H locs cells slots Q (F0 m 228 ls []) := by
  obtain ⟨hx, hb, -⟩ := id hC
  refine lv_aload_n hx hb zd_J_law_228 rfl (lv_at hl 2 rfl) ?_
  refine zJ_arg 1 hC hS hl hi hL (by decide) (by decide) zd_J_law_229 zd_J_law_230 zd_J_law_231 zd_J_law_232 zd_J_law_233 ?_
  refine zJ_arg 2 hC hS hl hi hL (by decide) (by decide) zd_J_law_234 zd_J_law_235 zd_J_law_236 zd_J_law_237 zd_J_law_238 ?_
  refine zJ_ci (nA := 2) (As := [.int (xs (i + 1)), .int (xs (i + 2))]) (rest := []) (zc_m_X_read l D ka cb M (zOk_lt hO) (xs (i + 1)) (xs (i + 2))) (zg_X_read zk_J_31) rfl (by decide) ⟨rfl, rfl⟩ ⟨Nat.le_of_ble_eq_true rfl, Nat.le_of_ble_eq_true rfl⟩ hC hJ hS hl.1 rfl rfl (Nat.le_of_ble_eq_true rfl) ⟨show cells + 0 ≤ 655885 by omega, show slots + 0 ≤ 7134594 by omega⟩ zd_J_law_239 (fun H locs hJ hS => ?_)
  refine lv_aload_n hx hb zd_J_law_242 rfl (lv_at hl 1 rfl) ?_
  refine zJ_arg 1 hC hS hl hi hL (by decide) (by decide) zd_J_law_243 zd_J_law_244 zd_J_law_245 zd_J_law_246 zd_J_law_247 ?_
  refine zJ_arg 2 hC hS hl hi hL (by decide) (by decide) zd_J_law_248 zd_J_law_249 zd_J_law_250 zd_J_law_251 zd_J_law_252 ?_
  refine zJ_ri (nA := 2) (As := [.int (xs (i + 1)), .int (xs (i + 2))]) (rest := [.int _]) (zm_read l D ka (cb + 346) M (zOk_lt hO) (xs (i + 1)) (xs (i + 2))) (zg_M_read zk_J_35) rfl (by decide) ⟨rfl, rfl⟩ ⟨Nat.le_of_ble_eq_true rfl, Nat.le_of_ble_eq_true rfl⟩ hC hJ hS hl.1 rfl rfl (Nat.le_of_ble_eq_true rfl) ⟨show cells + 0 ≤ 655885 by omega, show slots + 0 ≤ 7134594 by omega⟩ zd_J_law_253 (fun H locs hJ hS => ?_)
  refine lv_icmp_eq (tgt := 854) hx hb zd_J_law_256 (by decide) (fun _ => ?_) (fun h => absurd rfl h)
  refine W.widen (k := cells + 1) (n := slots + 3) (by omega) (by omega) ?_
  exact kk H locs _ (zOg_read hO _ _) hJ hS
theorem zj_storeAgain (hC : zJC p s m c args b L xs D ka cb) (hO : zOk M) (hJ : zJS D ka cb M M H) (hS : va_S (zGA cb) s.heap H locs) {i : Nat} (hi : i + 6 ≤ L) (hL : L ≤ 3073) (hl : lv_has ls 4 [(3, .int (nI i)), (2, .ref (cb + 346)), (1, .ref cb), (0, .ref b)]) (hc : cells + 1 ≤ 655885) (hs : slots + 3 ≤ 7134594)
    (kk : ∀ (H1 : Heap) (locs1 : List Loc) (M1 : zM), zOk M1 → zJS D ka cb M1 M1 H1 → va_S (zGA cb) s.heap H1 locs1 → W p l e room_1 s m args below meth c H1 locs1 (cells + 1) (slots + 3) Q (F0 m 854 ls [])) : W p l e room_1 s m args below meth c H locs cells slots Q (F0 m 261 ls []) := by
  obtain ⟨hx, hb, -⟩ := id hC
  refine lv_aload_n hx hb zd_J_law_261 rfl (lv_at hl 2 rfl) ?_
  refine zJ_arg 1 hC hS hl hi hL (by decide) (by decide) zd_J_law_262 zd_J_law_263 zd_J_law_264 zd_J_law_265 zd_J_law_266 ?_
  refine zJ_ci (nA := 1) (As := [.int (xs (i + 1))]) (rest := []) (zc_m_X_storeAgain l D ka cb M (zOk_lt hO) (xs (i + 1))) (zg_X_storeAgain zk_J_36) rfl (by decide) ⟨rfl, rfl⟩ ⟨Nat.le_of_ble_eq_true rfl, Nat.le_of_ble_eq_true rfl⟩ hC hJ hS hl.1 rfl rfl (Nat.le_of_ble_eq_true rfl) ⟨show cells + 0 ≤ 655885 by omega, show slots + 0 ≤ 7134594 by omega⟩ zd_J_law_267 (fun H locs hJ hS => ?_)
  refine lv_aload_n hx hb zd_J_law_270 rfl (lv_at hl 1 rfl) ?_
  refine zJ_arg 1 hC hS hl hi hL (by decide) (by decide) zd_J_law_271 zd_J_law_272 zd_J_law_273 zd_J_law_274 zd_J_law_275 ?_
  refine zJ_ri (nA := 1) (As := [.int (xs (i + 1))]) (rest := [.int _]) (zm_storeAgain l D ka (cb + 346) M (zOk_lt hO) (xs (i + 1))) (zg_M_storeAgain zk_J_40) rfl (by decide) ⟨rfl, rfl⟩ ⟨Nat.le_of_ble_eq_true rfl, Nat.le_of_ble_eq_true rfl⟩ hC hJ hS hl.1 rfl rfl (Nat.le_of_ble_eq_true rfl) ⟨show cells + 0 ≤ 655885 by omega, show slots + 0 ≤ 7134594 by omega⟩ zd_J_law_276 (fun H locs hJ hS => ?_)
  refine lv_icmp_eq (tgt := 854) hx hb zd_J_law_279 (by decide) (fun _ => ?_) (fun h => absurd rfl h)
  refine W.widen (k := cells + 1) (n := slots + 3) (by omega) (by omega) ?_
  exact kk H locs _ (zOg_storeAgain hO _) hJ hS
theorem zj_askAgain (hC : zJC p s m c args b L xs D ka cb) (hO : zOk M) (hJ : zJS D ka cb M M H) (hS : va_S (zGA cb) s.heap H locs) {i : Nat} (hi : i + 6 ≤ L) (hL : L ≤ 3073) (hl : lv_has ls 4 [(3, .int (nI i)), (2, .ref (cb + 346)), (1, .ref cb), (0, .ref b)]) (hc : cells + 1 ≤ 655885) (hs : slots + 3 ≤ 7134594)
    (kk : ∀ (H1 : Heap) (locs1 : List Loc) (M1 : zM), zOk M1 → zJS D ka cb M1 M1 H1 → va_S (zGA cb) s.heap H1 locs1 → W p l e room_1 s m args below meth c H1 locs1 (cells + 1) (slots + 3) Q (F0 m 854 ls [])) : W p l e room_1 s m args below meth c H locs cells slots Q (F0 m 284 ls []) := by
  obtain ⟨hx, hb, -⟩ := id hC
  refine lv_aload_n hx hb zd_J_law_284 rfl (lv_at hl 2 rfl) ?_
  refine zJ_arg 1 hC hS hl hi hL (by decide) (by decide) zd_J_law_285 zd_J_law_286 zd_J_law_287 zd_J_law_288 zd_J_law_289 ?_
  refine zJ_ci (nA := 1) (As := [.int (xs (i + 1))]) (rest := []) (zc_m_X_askAgain l D ka cb M (zOk_lt hO) (xs (i + 1))) (zg_X_askAgain zk_J_41) rfl (by decide) ⟨rfl, rfl⟩ ⟨Nat.le_of_ble_eq_true rfl, Nat.le_of_ble_eq_true rfl⟩ hC hJ hS hl.1 rfl rfl (Nat.le_of_ble_eq_true rfl) ⟨show cells + 0 ≤ 655885 by omega, show slots + 0 ≤ 7134594 by omega⟩ zd_J_law_290 (fun H locs hJ hS => ?_)
  refine lv_aload_n hx hb zd_J_law_293 rfl (lv_at hl 1 rfl) ?_
  refine zJ_arg 1 hC hS hl hi hL (by decide) (by decide) zd_J_law_294 zd_J_law_295 zd_J_law_296 zd_J_law_297 zd_J_law_298 ?_
  refine zJ_ri (nA := 1) (As := [.int (xs (i + 1))]) (rest := [.int _]) (zm_askAgain l D ka (cb + 346) M (zOk_lt hO) (xs (i + 1))) (zg_M_askAgain zk_J_44) rfl (by decide) ⟨rfl, rfl⟩ ⟨Nat.le_of_ble_eq_true rfl, Nat.le_of_ble_eq_true rfl⟩ hC hJ hS hl.1 rfl rfl (Nat.le_of_ble_eq_true rfl) ⟨show cells + 0 ≤ 655885 by omega, show slots + 0 ≤ 7134594 by omega⟩ zd_J_law_299 (fun H locs hJ hS => ?_)
  refine lv_icmp_eq (tgt := 854) hx hb zd_J_law_302 (by decide) (fun _ => ?_) (fun h => absurd rfl h)
  refine W.widen (k := cells + 1) (n := slots + 3) (by omega) (by omega) ?_
  exact kk H locs _ (zOg_askAgain hO _) hJ hS
theorem zj_letters (hC : zJC p s m c args b L xs D ka cb) (hO : zOk M) (hJ : zJS D ka cb M M H) (hS : va_S (zGA cb) s.heap H locs) {i : Nat} (hi : i + 6 ≤ L) (hL : L ≤ 3073) (hl : lv_has ls 4 [(3, .int (nI i)), (2, .ref (cb + 346)), (1, .ref cb), (0, .ref b)]) (hc : cells + 1 ≤ 655885) (hs : slots + 3 ≤ 7134594)
    (kk : ∀ (H1 : Heap) (locs1 : List Loc) (M1 : zM), zOk M1 → zJS D ka cb M1 M1 H1 → va_S (zGA cb) s.heap H1 locs1 → W p l e room_1 s m args below meth c H1 locs1 (cells + 1) (slots + 3) Q (F0 m 854 ls [])) : W p l e room_1 s m args below meth c H locs cells slots Q (F0 m 307 ls []) := by
  obtain ⟨hx, hb, -⟩ := id hC
  refine lv_aload_n hx hb zd_J_law_307 rfl (lv_at hl 2 rfl) ?_
  refine zJ_cs (nA := 0) (As := []) (rest := []) (zc_m_X_letters l D ka cb M) (zg_X_letters zk_J_45) rfl (by decide) ⟨rfl, rfl⟩ ⟨Nat.le_of_ble_eq_true rfl, Nat.le_of_ble_eq_true rfl⟩ hC hJ hl.1 rfl rfl (Nat.le_of_ble_eq_true rfl) ⟨show cells ≤ 655885 by omega, show slots ≤ 7134594 by omega⟩ zd_J_law_308 ?_
  refine lv_aload_n hx hb zd_J_law_311 rfl (lv_at hl 1 rfl) ?_
  refine zJ_rs (nA := 0) (As := []) (rest := [.int _]) (zm_letters l D ka (cb + 346) M) (zg_M_letters zk_J_49) rfl (by decide) ⟨rfl, rfl⟩ ⟨Nat.le_of_ble_eq_true rfl, Nat.le_of_ble_eq_true rfl⟩ hC hJ hl.1 rfl rfl (Nat.le_of_ble_eq_true rfl) ⟨show cells ≤ 655885 by omega, show slots ≤ 7134594 by omega⟩ zd_J_law_312 ?_
  refine lv_icmp_eq (tgt := 854) hx hb zd_J_law_315 (by decide) (fun _ => ?_) (fun h => absurd rfl h)
  refine W.widen (k := cells + 1) (n := slots + 3) (by omega) (by omega) ?_
  exact kk H locs M hO hJ hS
theorem zj_letter (hC : zJC p s m c args b L xs D ka cb) (hO : zOk M) (hJ : zJS D ka cb M M H) (hS : va_S (zGA cb) s.heap H locs) {i : Nat} (hi : i + 6 ≤ L) (hL : L ≤ 3073) (hl : lv_has ls 4 [(3, .int (nI i)), (2, .ref (cb + 346)), (1, .ref cb), (0, .ref b)]) (hc : cells + 1 ≤ 655885) (hs : slots + 3 ≤ 7134594)
    (kk : ∀ (H1 : Heap) (locs1 : List Loc) (M1 : zM), zOk M1 → zJS D ka cb M1 M1 H1 → va_S (zGA cb) s.heap H1 locs1 → W p l e room_1 s m args below meth c H1 locs1 (cells + 1) (slots + 3) Q (F0 m 854 ls [])) : W p l e room_1 s m args below meth c H locs cells slots Q (F0 m 320 ls []) := by
  obtain ⟨hx, hb, -⟩ := id hC
  refine lv_aload_n hx hb zd_J_law_320 rfl (lv_at hl 2 rfl) ?_
  refine zJ_arg 1 hC hS hl hi hL (by decide) (by decide) zd_J_law_321 zd_J_law_322 zd_J_law_323 zd_J_law_324 zd_J_law_325 ?_
  refine zJ_arg 2 hC hS hl hi hL (by decide) (by decide) zd_J_law_326 zd_J_law_327 zd_J_law_328 zd_J_law_329 zd_J_law_330 ?_
  refine zJ_cs (nA := 2) (As := [.int (xs (i + 1)), .int (xs (i + 2))]) (rest := []) (zc_m_X_letter l D ka cb M (zOk_lt hO) (xs (i + 1)) (xs (i + 2))) (zg_X_letter zk_J_50) rfl (by decide) ⟨rfl, rfl⟩ ⟨Nat.le_of_ble_eq_true rfl, Nat.le_of_ble_eq_true rfl⟩ hC hJ hl.1 rfl rfl (Nat.le_of_ble_eq_true rfl) ⟨show cells ≤ 655885 by omega, show slots ≤ 7134594 by omega⟩ zd_J_law_331 ?_
  refine lv_aload_n hx hb zd_J_law_334 rfl (lv_at hl 1 rfl) ?_
  refine zJ_arg 1 hC hS hl hi hL (by decide) (by decide) zd_J_law_335 zd_J_law_336 zd_J_law_337 zd_J_law_338 zd_J_law_339 ?_
  refine zJ_arg 2 hC hS hl hi hL (by decide) (by decide) zd_J_law_340 zd_J_law_341 zd_J_law_342 zd_J_law_343 zd_J_law_344 ?_
  refine zJ_rs (nA := 2) (As := [.int (xs (i + 1)), .int (xs (i + 2))]) (rest := [.int _]) (zm_letter l D ka (cb + 346) M (zOk_lt hO) (xs (i + 1)) (xs (i + 2))) (zg_M_letter zk_J_53) rfl (by decide) ⟨rfl, rfl⟩ ⟨Nat.le_of_ble_eq_true rfl, Nat.le_of_ble_eq_true rfl⟩ hC hJ hl.1 rfl rfl (Nat.le_of_ble_eq_true rfl) ⟨show cells ≤ 655885 by omega, show slots ≤ 7134594 by omega⟩ zd_J_law_345 ?_
  refine lv_icmp_eq (tgt := 854) hx hb zd_J_law_348 (by decide) (fun _ => ?_) (fun h => absurd rfl h)
  refine W.widen (k := cells + 1) (n := slots + 3) (by omega) (by omega) ?_
  exact kk H locs M hO hJ hS
theorem zj_deliver (hC : zJC p s m c args b L xs D ka cb) (hO : zOk M) (hJ : zJS D ka cb M M H) (hS : va_S (zGA cb) s.heap H locs) {i : Nat} (hi : i + 6 ≤ L) (hL : L ≤ 3073) (hl : lv_has ls 4 [(3, .int (nI i)), (2, .ref (cb + 346)), (1, .ref cb), (0, .ref b)]) (hc : cells + 1 ≤ 655885) (hs : slots + 3 ≤ 7134594)
    (kk : ∀ (H1 : Heap) (locs1 : List Loc) (M1 : zM), zOk M1 → zJS D ka cb M1 M1 H1 → va_S (zGA cb) s.heap H1 locs1 → W p l e room_1 s m args below meth c H1 locs1 (cells + 1) (slots + 3) Q (F0 m 854 ls [])) : W p l e room_1 s m args below meth c H locs cells slots Q (F0 m 353 ls []) := by
  obtain ⟨hx, hb, -⟩ := id hC
  refine lv_aload_n hx hb zd_J_law_353 rfl (lv_at hl 2 rfl) ?_
  refine zJ_arg 1 hC hS hl hi hL (by decide) (by decide) zd_J_law_354 zd_J_law_355 zd_J_law_356 zd_J_law_357 zd_J_law_358 ?_
  refine zJ_ci (nA := 1) (As := [.int (xs (i + 1))]) (rest := []) (zc_m_X_deliver l D ka cb M hO (xs (i + 1))) (zg_X_deliver zk_J_54) rfl (by decide) ⟨rfl, rfl⟩ ⟨Nat.le_of_ble_eq_true rfl, Nat.le_of_ble_eq_true rfl⟩ hC hJ hS hl.1 rfl rfl (Nat.le_of_ble_eq_true rfl) ⟨show cells + 0 ≤ 655885 by omega, show slots + 0 ≤ 7134594 by omega⟩ zd_J_law_359 (fun H locs hJ hS => ?_)
  refine lv_aload_n hx hb zd_J_law_362 rfl (lv_at hl 1 rfl) ?_
  refine zJ_arg 1 hC hS hl hi hL (by decide) (by decide) zd_J_law_363 zd_J_law_364 zd_J_law_365 zd_J_law_366 zd_J_law_367 ?_
  refine zJ_ri (nA := 1) (As := [.int (xs (i + 1))]) (rest := [.int _]) (zm_deliver l D ka (cb + 346) M hO (xs (i + 1))) (zg_M_deliver zk_J_58) rfl (by decide) ⟨rfl, rfl⟩ ⟨Nat.le_of_ble_eq_true rfl, Nat.le_of_ble_eq_true rfl⟩ hC hJ hS hl.1 rfl rfl (Nat.le_of_ble_eq_true rfl) ⟨show cells + 0 ≤ 655885 by omega, show slots + 0 ≤ 7134594 by omega⟩ zd_J_law_368 (fun H locs hJ hS => ?_)
  refine lv_icmp_eq (tgt := 854) hx hb zd_J_law_371 (by decide) (fun _ => ?_) (fun h => absurd rfl h)
  refine W.widen (k := cells + 1) (n := slots + 3) (by omega) (by omega) ?_
  exact kk H locs _ (zOg_deliver hO _) hJ hS
end ZJC0
