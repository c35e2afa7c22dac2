theorem zmk2 {E : Nat → va_E} {p q : Nat} {d v w : va_E} (h : p ≠ q) (hq : E q = v) (hp : E p = w) : va_up (va_up (va_up E p d) q v) p w = E := by
  rw [zup_comm2 h, zup_id hq, zup_id hp]
theorem zmk3 {E : Nat → va_E} {p q r : Nat} {d u v w : va_E} (h1 : p ≠ q) (h2 : p ≠ r) (hq : E q = u) (hr : E r = v) (hp : E p = w) : va_up (va_up (va_up (va_up E p d) q u) r v) p w = E := by
  funext a
  by_cases e1 : a = p
  · subst e1
    rw [va_up_self, hp]
  · rw [va_up_ne _ _ e1]
    by_cases e2 : a = r
    · subst e2
      rw [va_up_self, hr]
    · rw [va_up_ne _ _ e2]
      by_cases e3 : a = q
      · subst e3
        rw [va_up_self, hq]
      · rw [va_up_ne _ _ e3, va_up_ne _ _ e1]
theorem zEL_p {ka : Nat → ClassId} {cb : Nat} {x : Int32} {fs gs : List Value} {ar N k : Nat} {cA : ClassId} {g : Nat → Option Nat} (h : cb ≠ ar) : va_up (zEL ka cb x fs ar cA N g k) cb (.inr (zciX, gs)) = zEL ka cb x gs ar cA N g k := zup_comm h
theorem zmk_R {ka : Nat → ClassId} {cb : Nat} {x : Int32} {fs : List Value} {k : Nat} {g : Nat → Option Nat} {d : va_E} (hk : k < 9) : va_up (va_up (va_up (zEL ka cb x fs (cb + 2) (ka 4) 9 g k) (cb + (3 + 2 * k)) d) (cb + (3 + 2 * k + 1)) (.inl (ka 2, 4, zq (zF (cb + 1) 4)))) (cb + (3 + 2 * k)) (.inr (zciR, [.ref (cb + (3 + 2 * k + 1)), .int 1, .int 0])) = zEL ka cb x fs (cb + 2) (ka 4) 9 g k := by
  rw [show cb + (3 + 2 * k + 1) = cb + (4 + 2 * k) by omega]
  exact zmk2 (by omega) ((zEL_at (by omega) (by omega)).trans (zCE_rps ka cb _ _ hk)) ((zEL_at (by omega) (by omega)).trans (zCE_rec ka cb _ _ hk))
theorem zmk_W {ka : Nat → ClassId} {cb : Nat} {x : Int32} {fs : List Value} {k : Nat} {g : Nat → Option Nat} {d : va_E} (hk : k < 4) : va_up (va_up (va_up (zEL ka cb x fs (cb + 21) (ka 5) 4 g k) (cb + (22 + 2 * k)) d) (cb + (22 + 2 * k + 1)) (.inl (ka 1, 9, .inl (fun _ => 0)))) (cb + (22 + 2 * k)) (.inr (zciW, [.ref (cb + (22 + 2 * k + 1)), .int 0, .ref (cb + 1), .int 0, .int 0])) = zEL ka cb x fs (cb + 21) (ka 5) 4 g k := by
  rw [show cb + (22 + 2 * k + 1) = cb + (23 + 2 * k) by omega]
  exact zmk2 (by omega) ((zEL_at (by omega) (by omega)).trans (zCE_wrc ka cb _ _ hk)) ((zEL_at (by omega) (by omega)).trans (zCE_wri ka cb _ _ hk))
theorem zmk_D {ka : Nat → ClassId} {cb : Nat} {x : Int32} {fs : List Value} {k : Nat} {g : Nat → Option Nat} {d : va_E} (hk : k < 3) : va_up (va_up (va_up (va_up (zEL ka cb x fs (cb + 30) (ka 6) 3 g k) (cb + (31 + 3 * k)) d) (cb + (31 + 3 * k + 1)) (.inl (ka 2, 9, zq (fun _ => none)))) (cb + (31 + 3 * k + 1 + 1)) (.inl (ka 2, 4, zq (zF (cb + 1) 4)))) (cb + (31 + 3 * k)) (.inr (zciD, [.ref (cb + (31 + 3 * k + 1)), .ref (cb + (31 + 3 * k + 1 + 1)), .int 0, .int 0, .int 0, .int 0, .int 0, .int 0, .null])) = zEL ka cb x fs (cb + 30) (ka 6) 3 g k := by
  rw [show cb + (31 + 3 * k + 1 + 1) = cb + (33 + 3 * k) by omega, show cb + (31 + 3 * k + 1) = cb + (32 + 3 * k) by omega]
  exact zmk3 (by omega) (by omega) ((zEL_at (by omega) (by omega)).trans (zCE_tol ka cb _ _ hk)) ((zEL_at (by omega) (by omega)).trans (zCE_rem ka cb _ _ hk)) ((zEL_at (by omega) (by omega)).trans (zCE_rea ka cb _ _ hk))
theorem zmk_O {ka : Nat → ClassId} {cb : Nat} {x : Int32} {fs : List Value} {d : va_E} : zEO ka (va_up (zEX ka cb x fs) (cb + 40) d) (cb + 41) (cb + 40) 300 = zEX ka cb x fs := by
  funext a
  unfold zEO
  by_cases h1 : a = cb + 40
  · subst h1
    rw [if_pos rfl]
    exact ((zEX_at (by omega)).trans (zCE_post ka cb _ _)).symm
  · rw [if_neg h1]
    by_cases h2 : a = cb + 41
    · subst h2
      rw [if_pos rfl]
      exact ((zEX_at (by omega)).trans (zCE_row ka cb _ _)).symm
    · rw [if_neg h2]
      by_cases h3 : cb + 41 + 1 ≤ a ∧ a < cb + 41 + 1 + 300
      · rw [if_pos h3]
        have e1 : a = cb + (42 + (a - cb - 42)) := by omega
        rw [e1]
        exact ((zEX_at (by omega)).trans (zCE_let ka cb _ _ (by omega))).symm
      · rw [if_neg h3, va_up_ne _ _ h1]
theorem zwm_i : Cond.initialized "java/lang/Math" ∈ zAll := z_mem 2 (by decide +kernel) rfl
