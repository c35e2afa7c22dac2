-- rows for the class's constructor
theorem zup_id {E : Nat → va_E} {a : Nat} {v : va_E} (h : E a = v) : va_up E a v = E := by
  funext b
  by_cases h1 : b = a
  · subst h1
    rw [va_up_self, h]
  · rw [va_up_ne _ _ h1]
/-- an array's places behind its length say nothing -/
theorem zG_arr {D : va_G} {cl : List vw_C} {L : List Nat} {E : Nat → va_E} {H : Heap} {a N : Nat} {cA : ClassId} {f g : Nat → Option Nat} (he : E a = .inl (cA, N, zq f)) (h : ∀ j, j < N → f j = g j) (hP : va_P D cl (va_pl L E) H) : va_P D cl (va_pl L (va_up E a (.inl (cA, N, zq g)))) H := by
  have hc : vp_cell cA (N, zq f) = vp_cell cA (N, zq g) := by
    rw [vp_cell_q, vp_cell_q]
    unfold arrV
    congr 2
    funext j
    show va_rf (f j.val) = va_rf (g j.val)
    rw [h j.val j.isLt]
  intro k q hk
  unfold va_pl at hk
  rw [List.getElem?_map] at hk
  obtain ⟨b, hb, rfl⟩ := Option.map_eq_some_iff.mp hk
  have h2 : va_at D cl (b, E b) H := hP k (b, E b) (by unfold va_pl; rw [List.getElem?_map, hb]; rfl)
  by_cases h3 : b = a
  · subst h3
    rw [he] at h2
    show va_at D cl (b, va_up E b _ b) H
    rw [va_up_self]
    show H[b]? = some (vp_cell cA (N, zq g))
    rw [← hc]
    exact h2
  · show va_at D cl (b, va_up E a _ b) H
    rw [va_up_ne _ _ h3]
    exact h2
def zH (g : Nat → Option Nat) (k : Nat) : Nat → Option Nat := fun j => if j < k then g j else none
theorem zH_0 (g : Nat → Option Nat) : zH g 0 = fun _ => none := by
  funext j
  unfold zH
  rw [if_neg (by omega)]
theorem zH_s (g : Nat → Option Nat) (k : Nat) : va_up (zH g k) k (g k) = zH g (k + 1) := by
  funext j
  by_cases h : j = k
  · subst h
    rw [va_up_self]
    unfold zH
    rw [if_pos (by omega)]
  · rw [va_up_ne _ _ h]
    unfold zH
    by_cases h2 : j < k
    · rw [if_pos h2, if_pos (by omega)]
    · rw [if_neg h2, if_neg (by omega)]
theorem zH_N (g : Nat → Option Nat) {N j : Nat} (h : j < N) : zH g N j = g j := if_pos h
/-- the class's map while its object and one array of it are not done -/
def zEX (ka : Nat → ClassId) (cb : Nat) (x : Int32) (fs : List Value) : Nat → va_E := va_up (zCE ka cb (zC0 x) (zA0 cb)) cb (.inr (zciX, fs))
def zEL (ka : Nat → ClassId) (cb : Nat) (x : Int32) (fs : List Value) (ar : Nat) (cA : ClassId) (N : Nat) (g : Nat → Option Nat) (k : Nat) : Nat → va_E := va_up (zEX ka cb x fs) ar (.inl (cA, N, zq (zH g k)))
theorem zEX_at {ka : Nat → ClassId} {cb : Nat} {x : Int32} {fs : List Value} {a : Nat} (h : a ≠ cb) : zEX ka cb x fs a = zCE ka cb (zC0 x) (zA0 cb) a := va_up_ne _ _ h
theorem zEX_x (ka : Nat → ClassId) (cb : Nat) (x : Int32) (fs : List Value) : zEX ka cb x fs cb = .inr (zciX, fs) := va_up_self _ _ _
theorem zEX_s (ka : Nat → ClassId) (cb : Nat) (x : Int32) (fs gs : List Value) : va_up (zEX ka cb x fs) cb (.inr (zciX, gs)) = zEX ka cb x gs := bx_uu _ cb _ _
theorem zEL_at {ka : Nat → ClassId} {cb : Nat} {x : Int32} {fs : List Value} {ar N k : Nat} {cA : ClassId} {g : Nat → Option Nat} {a : Nat} (h : a ≠ cb) (h2 : a ≠ ar) : zEL ka cb x fs ar cA N g k a = zCE ka cb (zC0 x) (zA0 cb) a := (va_up_ne _ _ h2).trans (va_up_ne _ _ h)
theorem zEL_a (ka : Nat → ClassId) (cb : Nat) (x : Int32) (fs : List Value) (ar : Nat) (cA : ClassId) (N : Nat) (g : Nat → Option Nat) (k : Nat) : zEL ka cb x fs ar cA N g k ar = .inl (cA, N, zq (zH g k)) := va_up_self _ _ _
theorem zEL_x {ka : Nat → ClassId} {cb : Nat} {x : Int32} {fs : List Value} {ar N k : Nat} {cA : ClassId} {g : Nat → Option Nat} (h : cb ≠ ar) : zEL ka cb x fs ar cA N g k cb = .inr (zciX, fs) := (va_up_ne _ _ h).trans (va_up_self _ _ _)
theorem zEL_s (ka : Nat → ClassId) (cb : Nat) (x : Int32) (fs : List Value) (ar : Nat) (cA : ClassId) (N : Nat) (g : Nat → Option Nat) (k : Nat) : va_up (zEL ka cb x fs ar cA N g k) ar (.inl (cA, N, zq (va_up (zH g k) k (g k)))) = zEL ka cb x fs ar cA N g (k + 1) := by
  unfold zEL
  rw [bx_uu, zH_s]
theorem zEL_end {D : va_G} {cl : List vw_C} {L : List Nat} {H : Heap} {ka : Nat → ClassId} {cb : Nat} {x : Int32} {fs : List Value} {ar N : Nat} {cA : ClassId} {g : Nat → Option Nat} (h : cb ≠ ar) (he : zCE ka cb (zC0 x) (zA0 cb) ar = .inl (cA, N, zq g)) (hP : va_P D cl (va_pl L (zEL ka cb x fs ar cA N g N)) H) : va_P D cl (va_pl L (zEX ka cb x fs)) H := by
  have h1 := zG_arr (zEL_a ka cb x fs ar cA N g N) (fun j hj => zH_N g hj) hP
  unfold zEL at h1
  rw [bx_uu, zup_id ((zEX_at (Ne.symm h)).trans he)] at h1
  exact h1
theorem zEX_end (ka : Nat → ClassId) (cb : Nat) (x : Int32) : zEX ka cb x [.int x, .ref (cb + 2), .ref (cb + 21), .ref (cb + 30), .ref (cb + 40), .ref (cb + 342), .ref (cb + 343), .ref (cb + 344), .ref (cb + 345)] = zCE ka cb (zC0 x) (zA0 cb) := zup_id (zCE_x ka cb (zC0 x) (zA0 cb))
