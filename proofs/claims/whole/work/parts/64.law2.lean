-- the law's beginning: the classes by the tables, the two objects made
theorem zarr_p {args : Array Value} {s : State} {ty : FieldType} (h : (Cond.arrayClass ty).before args s = true) : ∃ cA : ClassId, ArrOfT s cA ty ∧ s.vm.findClass ("[" ++ ty.toString) = some cA := by
  obtain ⟨cA, kA, comp, h1, h2, h3⟩ := Cond.arrayClass_spec h
  exact ⟨cA, fun n z => ⟨(fun k h => by cases h), kA, h2, comp, h3⟩, h1⟩
theorem zarr_o {s : State} {C : String} (h : va_AO C s) : ∃ cA : ClassId, ArrOfT s cA (.object C) ∧ va_RA s cA (.object C) := by
  obtain ⟨comp, cA, kA, h1, -, h2, h3, h4⟩ := Cond.arrayOver_spec h
  exact ⟨cA, fun n z => ⟨(fun k h => by cases h), kA, h2, comp, h3⟩, kA, comp, h2, h3, h1, h4⟩
theorem zK_of {args : Array Value} {s : State} (hts : ∀ w ∈ lw_tbl, w.before args s = true) : ∃ (D : va_G) (ka : Nat → ClassId), va_K D vwCl (zty ka) s := by
  have ha := z_all hts
  obtain ⟨h2, h1, h3, h4, h5, -⟩ := zAO_of hts
  obtain ⟨k0, a0, b0⟩ := zarr_p (ha _ zac_int)
  obtain ⟨k1, a1, b1⟩ := zarr_p (ha _ zac_boolean)
  obtain ⟨k2, a2, b2⟩ := zarr_o h1
  obtain ⟨k3, a3, b3⟩ := zarr_o h5
  obtain ⟨k4, a4, b4⟩ := zarr_o h2
  obtain ⟨k5, a5, b5⟩ := zarr_o h3
  obtain ⟨k6, a6, b6⟩ := zarr_o h4
  obtain ⟨c0, i0, g0⟩ := u_known ha zin_L (ha _ zis_L)
  obtain ⟨c1, i1, g1⟩ := u_known ha zin_P (ha _ zis_P)
  obtain ⟨c2, i2, g2⟩ := u_known ha zin_O (ha _ zis_O)
  obtain ⟨c3, i3, g3⟩ := u_known ha zin_D (ha _ zis_D)
  obtain ⟨c4, i4, g4⟩ := u_known ha zin_R (ha _ zis_R)
  obtain ⟨c5, i5, g5⟩ := u_known ha zin_W (ha _ zis_W)
  obtain ⟨c6, i6, g6⟩ := u_known ha zin_X (ha _ zis_X)
  obtain ⟨c7, i7, g7⟩ := u_known ha zin_M (ha _ zis_M)
  refine ⟨(fun k => match k with | 0 => c0 | 1 => c1 | 2 => c2 | 3 => c3 | 4 => c4 | 5 => c5 | 6 => c6 | _ => c7, fun k => match k with | 0 => i0 | 1 => i1 | 2 => i2 | 3 => i3 | 4 => i4 | 5 => i5 | 6 => i6 | _ => i7), fun k => match k with | 0 => k0 | 1 => k1 | 2 => k2 | 3 => k3 | 4 => k4 | 5 => k5 | _ => k6, fun k q hq => ?_, fun k q hq => ?_⟩
  · have hk : k < 8 := (List.getElem?_eq_some_iff.mp hq).1
    rcases (show k = 0 ∨ k = 1 ∨ k = 2 ∨ k = 3 ∨ k = 4 ∨ k = 5 ∨ k = 6 ∨ k = 7 by omega) with rfl | rfl | rfl | rfl | rfl | rfl | rfl | rfl
    · obtain rfl := Option.some.inj (show some (zN_L, zT_L, 6) = some q from hq)
      exact g0
    · obtain rfl := Option.some.inj (show some (zN_P, zT_P, 3) = some q from hq)
      exact g1
    · obtain rfl := Option.some.inj (show some (zN_O, zT_O, 2) = some q from hq)
      exact g2
    · obtain rfl := Option.some.inj (show some (zN_D, zT_D, 9) = some q from hq)
      exact g3
    · obtain rfl := Option.some.inj (show some (zN_R, zT_R, 3) = some q from hq)
      exact g4
    · obtain rfl := Option.some.inj (show some (zN_W, zT_W, 5) = some q from hq)
      exact g5
    · obtain rfl := Option.some.inj (show some (zN_X, zT_X, 9) = some q from hq)
      exact g6
    · obtain rfl := Option.some.inj (show some (zN_M, zT_M, 40) = some q from hq)
      exact g7
  · have hk : k < 7 := (List.getElem?_eq_some_iff.mp hq).1
    rcases (show k = 0 ∨ k = 1 ∨ k = 2 ∨ k = 3 ∨ k = 4 ∨ k = 5 ∨ k = 6 by omega) with rfl | rfl | rfl | rfl | rfl | rfl | rfl
    · obtain rfl := Option.some.inj (show some (k0, FieldType.int) = some q from hq)
      exact ⟨a0, b0⟩
    · obtain rfl := Option.some.inj (show some (k1, FieldType.boolean) = some q from hq)
      exact ⟨a1, b1⟩
    · obtain rfl := Option.some.inj (show some (k2, FieldType.object "SpanBoard$Pair") = some q from hq)
      exact ⟨a2, b2⟩
    · obtain rfl := Option.some.inj (show some (k3, FieldType.object "SpanBoard$Letter") = some q from hq)
      exact ⟨a3, b3⟩
    · obtain rfl := Option.some.inj (show some (k4, FieldType.object "SpanBoard$Recorder") = some q from hq)
      exact ⟨a4, b4⟩
    · obtain rfl := Option.some.inj (show some (k5, FieldType.object "SpanBoard$Writer") = some q from hq)
      exact ⟨a5, b5⟩
    · obtain rfl := Option.some.inj (show some (k6, FieldType.object "SpanBoard$Reader") = some q from hq)
      exact ⟨a6, b6⟩
theorem zS_tr {a a1 : Nat} {H0 H H1 : Heap} {locs : List Loc} (h : va_S (zGA a) H0 H locs) (h1 : va_S (zGA a1) H H1 []) (ha : a ≤ a1) : va_S (zGA a) H0 H1 [] :=
  ⟨Nat.le_trans h.1 h1.1, fun q hq hn => (h1.2.1 q (Nat.lt_of_lt_of_le hq h.1) (fun h9 => hn (Nat.le_trans ha h9))).trans (h.2.1 q hq hn), fun q hq => by cases hq⟩
theorem zS_nil {A : Nat → Prop} {H0 H : Heap} {locs : List Loc} (h : va_S A H0 H locs) : va_S A H0 H [] := ⟨h.1, h.2.1, fun q hq => by cases hq⟩
theorem zRFk_0 (rb : Nat) : ∀ j, j < 40 → defaultValue (zt_M j) = vp_V (zRFk rb 0 0) j := by
  intro j hj
  rcases (show j = 0 ∨ j = 1 ∨ j = 2 ∨ j = 3 ∨ j = 4 ∨ j = 5 ∨ j = 6 ∨ j = 7 ∨ j = 8 ∨ j = 9 ∨ j = 10 ∨ j = 11 ∨ j = 12 ∨ j = 13 ∨ j = 14 ∨ j = 15 ∨ j = 16 ∨ j = 17 ∨ j = 18 ∨ j = 19 ∨ j = 20 ∨ j = 21 ∨ j = 22 ∨ j = 23 ∨ j = 24 ∨ j = 25 ∨ j = 26 ∨ j = 27 ∨ j = 28 ∨ j = 29 ∨ j = 30 ∨ j = 31 ∨ j = 32 ∨ j = 33 ∨ j = 34 ∨ j = 35 ∨ j = 36 ∨ j = 37 ∨ j = 38 ∨ j = 39 by omega) with rfl | rfl | rfl | rfl | rfl | rfl | rfl | rfl | rfl | rfl | rfl | rfl | rfl | rfl | rfl | rfl | rfl | rfl | rfl | rfl | rfl | rfl | rfl | rfl | rfl | rfl | rfl | rfl | rfl | rfl | rfl | rfl | rfl | rfl | rfl | rfl | rfl | rfl | rfl | rfl <;> rfl
section ZJB
variable {p : Program} {l : Launch} {e : Env} {s : State} {m : MethodId} {args : Array Value} {below : List Frame} {meth : Method} {c : Code} {H : Heap} {locs : List Loc} {cells slots : Nat} {Q : State → Prop}
variable {b L cb : Nat} {xs : Nat → Int32} {ls : Array Slot} {D : va_G} {ka : Nat → ClassId}
/-- the class's object: made and constructed -/
theorem zj_first (hL : L ≤ 3073) (hC : zJC p s m c args b L xs D ka cb) (hAO : zAO s) (hl : lv_has ls 4 [(0, .ref b)])
    (kk : ∀ (H1 : Heap) (ls' : Array Slot), zGP D cb 346 (zCE ka cb (zC0 (zclamp (zcel L xs 0))) (zA0 cb)) H1 → H1.size = cb + 346 → va_S (zGA cb) s.heap H1 [] → lv_has ls' 4 [(1, .ref cb), (0, .ref b)] → W p l e room_1 s m args below meth c H1 [] 346 2329 Q (F0 m 13 ls' [])) : W p l e room_1 s m args below meth c s.heap [] 0 0 Q (F0 m 0 ls []) := by
  have hC0 := hC
  obtain ⟨hx, hb, hml, hts, hown, hK, hX, hbl, hcb⟩ := hC
  have hS : va_S (zGA cb) s.heap s.heap [] := va_S.rf
  have hP : zGP D cb 0 (zCE ka cb (zC0 (zclamp (zcel L xs 0))) (zA0 cb)) s.heap := fun k q h => by simp [va_pl, zGL] at h
  refine zg_new (ci := zciX) (fs := [.int 0, .null, .null, .null, .null, .null, .null, .null, .null]) (C := zN_X) (T := zT_X) (N := 9) (n := 0) hx hb hts zin_X zt_X zto_X hown zcl_J_7 zis_X zit_X hK hP hS (Nat.le_of_eq hcb.symm) (by omega) rfl (fun j hj => by rcases (show j = 0 ∨ j = 1 ∨ j = 2 ∨ j = 3 ∨ j = 4 ∨ j = 5 ∨ j = 6 ∨ j = 7 ∨ j = 8 by omega) with rfl | rfl | rfl | rfl | rfl | rfl | rfl | rfl | rfl <;> rfl) (Nat.le_of_ble_eq_true rfl) (Nat.le_of_ble_eq_true rfl) zd_J_law_0 (fun H hP hS => ?_)
  have hP : zGP D cb 1 (zEX ka cb (zclamp (zcel L xs 0)) [.int 0, .null, .null, .null, .null, .null, .null, .null, .null]) H := hP
  refine lv_dup hx hb zd_J_law_3 rfl ?_
  refine lv_aload_n hx hb zd_J_law_4 rfl (lv_at hl 0 rfl) ?_
  refine lv_iconst (v := nI 0) hx hb zd_J_law_5 (by decide) ?_
  refine zJ_cell (by decide) hL hC0 hS hl.1 (Nat.le_of_ble_eq_true rfl) ⟨Nat.le_of_ble_eq_true rfl, Nat.le_of_ble_eq_true rfl⟩ zd_J_law_6 ?_
  refine zG_size (n := 1) (by decide) hP hS (by omega) (fun hz => ?_)
  refine zK_callI (nA := 1) (As := [.int (zcel L xs 0)]) (rest := [.ref cb]) zGV_blind (zi_X l D ka cb (zcel L xs 0)) zh_X_init zit_X zim_X_init zk_J_15 rfl (by decide) ⟨rfl, rfl⟩ ⟨(Nat.le_of_ble_eq_true rfl), (Nat.le_of_ble_eq_true rfl)⟩ hx hb hml hts hown (fun U hU hW => ⟨zG_U hK hP hS hz U hU hW, zAO_moved hW hAO⟩) hS (fun _ h => h) hl.1 rfl rfl (Nat.le_of_ble_eq_true rfl) ⟨(Nat.le_of_ble_eq_true rfl), (Nat.le_of_ble_eq_true rfl)⟩ zd_J_law_9 (fun t locs hvm hB hS hz hk => ?_)
  obtain ⟨hP, hsz, -⟩ := hB
  refine lv_astore_n (lv' := [(1, .ref cb), (0, .ref b)]) hx hb zd_J_law_12 rfl hl (by decide) rfl (fun ls hl => ?_)
  refine va_forget (fun q hq => ?_) ?_
  · have h : cb ≤ q.base := hS.2.2 q hq
    omega
  · exact kk t.heap ls hP hsz (zS_nil hS) hl
/-- the reference's object, and the loop's number -/
theorem zj_second (hL : L ≤ 3073) (hC : zJC p s m c args b L xs D ka cb) (hP : zGP D cb 346 (zCE ka cb (zC0 (zclamp (zcel L xs 0))) (zA0 cb)) H) (hsz : H.size = cb + 346) (hS : va_S (zGA cb) s.heap H []) (hl : lv_has ls 4 [(1, .ref cb), (0, .ref b)])
    (kk : ∀ (H1 : Heap) (ls' : Array Slot) (M : zM), zOk M → zJS D ka cb M M H1 → va_S (zGA cb) s.heap H1 [] → lv_has ls' 4 [(3, .int (nI 1)), (2, .ref (cb + 346)), (1, .ref cb), (0, .ref b)] → W p l e room_1 s m args below meth c H1 [] 385 5152 Q (F0 m 28 ls' [])) : W p l e room_1 s m args below meth c H [] 346 2329 Q (F0 m 13 ls []) := by
  have hC0 := hC
  obtain ⟨hx, hb, hml, hts, hown, hK, hX, hbl, hcb⟩ := hC
  refine va_new (ws := va_pl (zGL (cb + 346) 0) (zREk ka (cb + 346) 0 0)) (A := zGA (cb + 346)) (H0 := H) (ci := zciM) (fs := zRFk (cb + 346) 0 0) hx hb hts zin_M zt_M zto_M hown (hts _ zcl_J_18) (hts _ zis_M) (hts _ zit_M) hK (fun k q h => by simp [va_pl, zGL] at h) (zG_D (cb + 346) 0 _) va_S.rf (fun q h => ?_) rfl (zRFk_0 _) (Nat.le_of_ble_eq_true rfl) (Nat.le_of_ble_eq_true rfl) zd_J_law_13 (fun q H1 h1 h2 h3 => z_size (fun hz1 => ?_))
  · show cb + 346 ≤ q
    omega
  obtain ⟨rfl, h4⟩ := zG_at h1 h2 (by omega)
  have hP2 : zGP D (cb + 346) 1 (zREk ka (cb + 346) 0 0) H1 := zC_re (zREk_put ka (cb + 346) 0 0 0 0 rfl) h4
  have hP1 := zGP_keep (A1 := zGA (cb + 346)) hP h3.2.1 (fun q h => h)
  have hS1 : va_S (zGA cb) s.heap H1 [] := zS_tr hS h3 (Nat.le_add_right _ _)
  have hsz1 : H1.size = cb + 346 + 1 := by
    have := va_pl_lt (X := []) hP2 (zGL_in (a := cb + 346) (b0 := cb + 346) (n := 1) (by omega) (by omega))
    omega
  refine lv_dup hx hb zd_J_law_16 rfl ?_
  refine lv_aload_n hx hb zd_J_law_17 rfl (lv_at hl 1 rfl) ?_
  refine lv_iconst (v := nI 0) hx hb zd_J_law_18 (by decide) ?_
  refine zJ_cell (by decide) hL hC0 hS1 hl.1 (Nat.le_of_ble_eq_true rfl) ⟨Nat.le_of_ble_eq_true rfl, Nat.le_of_ble_eq_true rfl⟩ zd_J_law_19 ?_
  refine zK_callI (A0 := zGA (cb + 346)) (H0 := H1) (nA := 1) (As := [.int (zcel L xs 0)]) (rest := [.ref (cb + 346)]) zGW_blind (zm_init l D ka (cb + 346) (zcel L xs 0)) zh_M_init zit_M zim_M_init zk_J_20 rfl (by decide) ⟨rfl, rfl⟩ ⟨(Nat.le_of_ble_eq_true rfl), (Nat.le_of_ble_eq_true rfl)⟩ hx hb hml hts hown (fun U hU hW => ⟨by rw [hU]; exact hP2, by rw [hU]; exact hsz1, va_K.moved hW.alike hK⟩) va_S.rf (fun _ h => h) hl.1 rfl rfl (Nat.le_of_ble_eq_true rfl) ⟨(Nat.le_of_ble_eq_true rfl), (Nat.le_of_ble_eq_true rfl)⟩ zd_J_law_22 (fun t locs hvm hB hS2 hz hk => ?_)
  obtain ⟨⟨hR, -⟩, hsz2⟩ := hB
  have hP3 := zGP_keep (A1 := zGA (cb + 346)) hP1 hk (fun q h => h)
  refine lv_astore_n (lv' := [(2, .ref (cb + 346)), (1, .ref cb), (0, .ref b)]) hx hb zd_J_law_25 rfl hl (by decide) rfl (fun ls hl => ?_)
  refine lv_iconst (v := nI 1) hx hb zd_J_law_26 (by decide) ?_
  refine lv_istore_n (lv' := [(3, .int (nI 1)), (2, .ref (cb + 346)), (1, .ref cb), (0, .ref b)]) hx hb zd_J_law_27 rfl hl (by decide) rfl (fun ls hl => ?_)
  refine va_forget (fun q hq => ?_) ?_
  · have h : cb + 346 ≤ q.base := hS2.2.2 q hq
    omega
  · refine kk t.heap ls (zM0 (zclamp (zcel L xs 0))) (zOk_first _) ⟨⟨[], zC0 (zclamp (zcel L xs 0)), zA0 cb, ?_, ⟨List.nodup_nil, fun q h => by cases h⟩, zRep_0 cb _⟩, hR, by omega⟩ (zS_tr hS1 (zS_nil hS2) (Nat.le_add_right _ _)) hl
    show va_P D vwCl (va_pl (zCL cb []) _) t.heap
    unfold zCL
    rw [List.append_nil]
    exact hP3
end ZJB
