set_option maxRecDepth 100000 in
set_option maxHeartbeats 4000000 in
theorem zm_deliverAll (l : Launch) (D : va_G) (ka : Nat → ClassId) (rb : Nat) (M : zM) (hO : zOk M) (n0 : Int32) : Met l zy_M_deliverAll (.code zy_M_deliverAll zc_M_deliverAll 3 (some .int) :: zAll) ({ frames := 6, cells := 0, slots := 0, locals := 138 }) (va_Pc [.ref rb, .int n0] (zRW D ka rb M)) (zRQi D ka rb (zf_deliverAll M n0) (zg_deliverAll M n0)) 0 0 (zRA rb) := by
  refine z_met (by decide) (Nat.le_of_ble_eq_true rfl) ?_
  intro pg e s m below meth c hx hb hml hr hts hown hlk hnm hB ls hl
  obtain ⟨hP, hK⟩ := hB
  have hS : va_S (zRA rb) s.heap s.heap [] := va_S.rf
  have hl : lv_has ls 3 [(0, .ref rb), (1, .int n0)] := hl
  refine lv_iconst (v := 0) hx hb zd_M_deliverAll_0 (by decide) ?_
  refine lv_istore_n hx hb zd_M_deliverAll_1 rfl hl (by decide) rfl (fun ls hl => ?_)
  have hl : lv_has ls 3 [(2, .int 0), (0, .ref rb), (1, .int n0)] := hl
  have L2 : ∀ (c0 : Nat) (N : zM) (k : Int32), zOk N → zmu N ≤ c0 → zdall c0 N n0 k = zdall (zmu M) M n0 0 → ∀ (H : Heap) (locs : List Loc) (ls : Array Slot), lv_has ls 3 [(0, .ref rb), (1, .int n0), (2, .int k)] → zRP D ka rb N H → va_S (zRA rb) s.heap H locs → W pg l e ({ frames := 6, cells := 0, slots := 0, locals := 138 }) s m (List.toArray [.ref rb, .int n0]) below meth c H locs 0 0 (MQ below (zRQi D ka rb (zf_deliverAll M n0) (zg_deliverAll M n0)) (List.toArray [.ref rb, .int n0]) s 0 0 (zRA rb)) (F0 m 2 ls []) := by
    intro c0
    induction c0 with
    | zero =>
      intro N k hO hmu he H locs ls hl hP hS
      refine lv_iload_n hx hb zd_M_deliverAll_2 rfl (lv_at hl 2 rfl) ?_
      refine lv_iload_n hx hb zd_M_deliverAll_3 rfl (lv_at hl 1 rfl) ?_
      refine lv_icmp_ge (tgt := 21) hx hb zd_M_deliverAll_4 (by decide) (fun h4 => ?_) (fun h4 => ?_)
      · refine lv_iload_n hx hb zd_M_deliverAll_21 rfl (lv_at hl 2 rfl) ?_
        exact zR_iret hx hb hr hlk hK hP hS (by rw [zf_deliverAll, ← he, zdall_stop (Or.inl h4)]) (by rw [zg_deliverAll, ← he, zdall_stop (Or.inl h4)]) zd_M_deliverAll_22
      · refine lv_aload_n hx hb zd_M_deliverAll_7 rfl (lv_at hl 0 rfl) ?_
        refine lv_iconst (v := 0) hx hb zd_M_deliverAll_8 (by decide) ?_
        refine zR_calli (nA := 1) (As := [.int 0]) (rest := []) (zm_deliver l D ka rb N hO 0) (zg_M_deliver zk_M_193) rfl (by decide) ⟨rfl, rfl⟩ ⟨Nat.le_of_ble_eq_true rfl, Nat.le_of_ble_eq_true rfl⟩ hx hb hml hts hown hK hP hS (fun _ h => h) hl.1 rfl rfl (Nat.le_of_ble_eq_true rfl) ⟨Nat.zero_le _, Nat.zero_le _⟩ zd_M_deliverAll_9 (fun H locs hP hS _ _ => ?_)
        refine lv_if_eq (tgt := 21) hx hb zd_M_deliverAll_12 (by decide) (fun h12 => ?_) (fun h12 => ?_)
        · have c12 := zb_0 h12
          have e0 := zbl_0 hO c12
          refine lv_iload_n hx hb zd_M_deliverAll_21 rfl (lv_at hl 2 rfl) ?_
          exact zR_iret hx hb hr hlk hK hP hS (by rw [zf_deliverAll, ← he, zdall_stop (Or.inr e0)]) (by rw [zg_deliverAll, ← he, zdall_stop (Or.inr e0), zg_deliver, if_neg c12]) zd_M_deliverAll_22
        · have c12 := zb_1 h12
          obtain ⟨b1, b2, b3, b4⟩ := zbl_1 hO c12
          rw [b4] at hP
          exact absurd hmu (by omega)
    | succ c0 ih =>
      intro N k hO hmu he H locs ls hl hP hS
      refine lv_iload_n hx hb zd_M_deliverAll_2 rfl (lv_at hl 2 rfl) ?_
      refine lv_iload_n hx hb zd_M_deliverAll_3 rfl (lv_at hl 1 rfl) ?_
      refine lv_icmp_ge (tgt := 21) hx hb zd_M_deliverAll_4 (by decide) (fun h4 => ?_) (fun h4 => ?_)
      · refine lv_iload_n hx hb zd_M_deliverAll_21 rfl (lv_at hl 2 rfl) ?_
        exact zR_iret hx hb hr hlk hK hP hS (by rw [zf_deliverAll, ← he, zdall_stop (Or.inl h4)]) (by rw [zg_deliverAll, ← he, zdall_stop (Or.inl h4)]) zd_M_deliverAll_22
      · refine lv_aload_n hx hb zd_M_deliverAll_7 rfl (lv_at hl 0 rfl) ?_
        refine lv_iconst (v := 0) hx hb zd_M_deliverAll_8 (by decide) ?_
        refine zR_calli (nA := 1) (As := [.int 0]) (rest := []) (zm_deliver l D ka rb N hO 0) (zg_M_deliver zk_M_193) rfl (by decide) ⟨rfl, rfl⟩ ⟨Nat.le_of_ble_eq_true rfl, Nat.le_of_ble_eq_true rfl⟩ hx hb hml hts hown hK hP hS (fun _ h => h) hl.1 rfl rfl (Nat.le_of_ble_eq_true rfl) ⟨Nat.zero_le _, Nat.zero_le _⟩ zd_M_deliverAll_9 (fun H locs hP hS _ _ => ?_)
        refine lv_if_eq (tgt := 21) hx hb zd_M_deliverAll_12 (by decide) (fun h12 => ?_) (fun h12 => ?_)
        · have c12 := zb_0 h12
          have e0 := zbl_0 hO c12
          refine lv_iload_n hx hb zd_M_deliverAll_21 rfl (lv_at hl 2 rfl) ?_
          exact zR_iret hx hb hr hlk hK hP hS (by rw [zf_deliverAll, ← he, zdall_stop (Or.inr e0)]) (by rw [zg_deliverAll, ← he, zdall_stop (Or.inr e0), zg_deliver, if_neg c12]) zd_M_deliverAll_22
        · have c12 := zb_1 h12
          obtain ⟨b1, b2, b3, b4⟩ := zbl_1 hO c12
          rw [b4] at hP
          refine lv_iinc (v := k + 1) (k := 2) hx hb zd_M_deliverAll_15 hl rfl rfl (by decide) rfl (fun ls hl => ?_)
          have hl : lv_has ls 3 [(2, .int (k + 1)), (0, .ref rb), (1, .int n0)] := hl
          refine lv_goto (tgt := 2) hx hb zd_M_deliverAll_18 (by decide) ?_
          exact ih (zdeliver N 0) (k + 1) b3 (by omega) (by rw [← he, zdall_go h4 b1]) H locs ls (lv_sub hl [1, 2, 0] rfl) hP hS
  exact L2 (zmu M) M 0 hO (Nat.le_refl _) rfl _ _ _ (lv_sub hl [1, 2, 0] rfl) hP hS
