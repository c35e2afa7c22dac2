-- the law's cell: an int of the script, 0 behind its end
def zcel (L : Nat) (xs : Nat → Int32) (j : Nat) : Int32 := if j < L then xs j else 0
def zXW (b L : Nat) (xs : Nat → Int32) (U : State) : Prop := va_X b L xs U U.heap ∧ b < U.heap.size
theorem zXW_blind {b L : Nat} {xs : Nat → Int32} {As : List Value} : FrameBlind (va_Pc As (zXW b L xs)) := by
  intro a U g mk h
  obtain ⟨h1, h2, h3⟩ := h
  exact ⟨h1, va_X.moved (u := U) (U := U.calling g mk a) (Vm.Alike.refl U.vm) h2, h3⟩
set_option maxRecDepth 100000 in
set_option maxHeartbeats 4000000 in
theorem zj_cell (l : Launch) (b L : Nat) (xs : Nat → Int32) (hL : L ≤ 3073) (j : Nat) (hj : j < 10000) : Met l zy_J_cell (.code zy_J_cell zc_J_cell 2 (some .int) :: zAll) ({ frames := 1, cells := 0, slots := 0, locals := 32 }) (va_Pc [.ref b, .int (nI j)] (zXW b L xs)) (vp_Si (fun r => r = zcel L xs j)) 0 0 (fun _ => False) := by
  refine z_met (by decide) (Nat.le_of_ble_eq_true rfl) ?_
  intro pg e s m below meth c hx hb hml hr hts hown hlk hnm hB ls hl
  obtain ⟨hX, hbl⟩ := hB
  have hS : va_S (fun _ => False) s.heap s.heap [] := va_S.rf
  have hl : lv_has ls 2 [(0, .ref b), (1, .int (nI j))] := hl
  refine lv_iload_n hx hb zd_J_cell_0 rfl (lv_at hl 1 rfl) ?_
  refine lv_aload_n hx hb zd_J_cell_1 rfl (lv_at hl 0 rfl) ?_
  refine va_slen hx hb hX hbl (fun h => h) hS zd_J_cell_2 ?_
  by_cases h : j < L
  · refine lv_icmp_ge (tgt := 12) hx hb zd_J_cell_3 (by decide) (fun h9 => absurd h9 (nI_ge h (by omega))) (fun h9 => ?_)
    refine lv_aload_n hx hb zd_J_cell_6 rfl (lv_at hl 0 rfl) ?_
    refine lv_iload_n hx hb zd_J_cell_7 rfl (lv_at hl 1 rfl) ?_
    refine va_sld hx hb hX hbl (fun h => h) hS (fun h8 => h8.elim (fun q => absurd q (nI_pos (by omega))) (fun q => by rw [nI_clamp (by omega)] at q; omega)) zd_J_cell_8 ?_
    refine lv_goto (tgt := 13) hx hb zd_J_cell_9 (by decide) ?_
    exact zS_iret hx hb hr hlk rfl rfl (by rw [nI_clamp (by omega)]; exact (if_pos h).symm) zd_J_cell_13
  · refine lv_icmp_ge (tgt := 12) hx hb zd_J_cell_3 (by decide) (fun h9 => ?_) (fun h9 => absurd (nI_le (by omega) (by omega)) h9)
    refine lv_iconst (v := 0) hx hb zd_J_cell_12 (by decide) ?_
    exact zS_iret hx hb hr hlk rfl rfl (if_neg h).symm zd_J_cell_13
