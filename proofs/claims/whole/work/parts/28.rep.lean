-- the class's memory C, A (pairs at the addresses cb + 1 and P) and the reference's memory M say the same
abbrev zF1 : Type := Nat → Int32
abbrev zF2 : Type := Nat → Nat → Int32
abbrev zQ2 : Type := Nat → Nat → Option Nat
abbrev zPr : Type := Nat → Int32 → Int32 → Int32 → Prop
def zPR (cb : Nat) (P : List Nat) (n lo hi : zF2) : zPr := fun a x y z => (a = cb + 1 ∨ a ∈ P) ∧ n a 0 = x ∧ lo a 0 = y ∧ hi a 0 = z
def zG1 (pr : zPr) (up liar : zF2) (held : zQ2) (down ml hn hl hh : zF1) : Prop :=
  ∀ r, r < 9 → up r 0 = zb (down r = 0) ∧ liar r 0 = ml r ∧ ∀ p, p < 4 → ∃ a, held r p = some a ∧ pr a (hn (4 * r + p)) (hl (4 * r + p)) (hh (4 * r + p))
def zG2 (pr : zPr) (rc cnt op fin : zF2) (lat : zQ2) (mw mlo mhi mop mfin mrc : zF1) : Prop :=
  ∀ p, p < 4 → (∀ r, r < 9 → rc p r = mrc (9 * p + r) ∧ (mrc (9 * p + r) = 0 ∨ mrc (9 * p + r) = 1)) ∧ cnt p 0 = nI (zcn (fun r => decide (¬ mrc (9 * p + r) = 0)) 9) ∧ op p 0 = mop p ∧ fin p 0 = mfin p ∧ ∃ a, lat p 0 = some a ∧ pr a (mw p) (mlo p) (mhi p)
def zG3 (pr : zPr) (tc stt q rd pt ap : zF2) (told rem ans : zQ2) (mq ma mr mo mt tn tl th kn kl kh mh man : zF1) : Prop :=
  ∀ d, d < 3 → tc d 0 = nI (zcn (fun r => decide (¬ mt (9 * d + r) = 0)) 9) ∧ stt d 0 = mo d ∧ q d 0 = mq d ∧ rd d 0 = mr d ∧ pt d 0 = ma d ∧ ap d 0 = man (4 * d) ∧
    (∀ r, r < 9 → (told d r = none ∧ mt (9 * d + r) = 0) ∨ ∃ a, told d r = some a ∧ ¬ mt (9 * d + r) = 0 ∧ pr a (tn (9 * d + r)) (tl (9 * d + r)) (th (9 * d + r))) ∧
    (∀ p, p < 4 → ∃ a, rem d p = some a ∧ pr a (kn (4 * d + p)) (kl (4 * d + p)) (kh (4 * d + p))) ∧
    ((ans d 0 = none ∧ mh d = 0) ∨ ∃ a, ans d 0 = some a ∧ ¬ mh d = 0 ∧ pr a (man (4 * d + 1)) (man (4 * d + 2)) (man (4 * d + 3)))
def zLR (pr : zPr) (k r p d n : zF2) (lp : zQ2) (mk mr mp md mn mpn ml mh : zF1) (j i : Nat) : Prop :=
  k j 0 = mk i ∧ r j 0 = mr i ∧ p j 0 = mp i ∧ d j 0 = md i ∧ n j 0 = mn i ∧ (mk i = 1 → ∃ a, lp j 0 = some a ∧ pr a (mn i) (ml i) (mh i)) ∧ (mk i = 4 → ∃ a, lp j 0 = some a ∧ pr a (mpn i) (ml i) (mh i))
def zG4 (cb : Nat) (pr : zPr) (cnt : zF2) (row : Nat → Option Nat) (k r p d n : zF2) (lp : zQ2) (m0 mk mr mp md mn mpn ml mh : zF1) : Prop :=
  cnt 0 0 = m0 1 ∧ ∃ σ : Nat → Nat, (∀ i, i < 300 → row i = some (cb + (42 + σ i)) ∧ σ i < 300) ∧ (∀ i j, i < 300 → j < 300 → σ i = σ j → i = j) ∧ ∀ i, i < zix (m0 1) → zLR pr k r p d n lp mk mr mp md mn mpn ml mh (σ i) i
def zG5 (pr : zPr) (hop hav vals : zF2) (lan : zQ2) (mhall mm mv ms msl msh : zF1) : Prop :=
  (∀ p, p < 4 → hop 0 p = mhall p ∧ ((lan 0 p = none ∧ ms p = 0) ∨ ∃ a n, lan 0 p = some a ∧ ¬ ms p = 0 ∧ pr a n (msl p) (msh p))) ∧ ∀ h, h < 3 → hav 0 h = mm h ∧ vals 0 h = mv h
def zRep (cb : Nat) (P : List Nat) (C : zC) (A : zA) (M : zM) : Prop :=
  C 0 0 0 = M 0 0 ∧
  zG1 (zPR cb P (C 22) (C 23) (C 24)) (C 1) (C 2) (A 0) (M 4) (M 5) (M 6) (M 7) (M 8) ∧
  zG2 (zPR cb P (C 22) (C 23) (C 24)) (C 3) (C 4) (C 5) (C 6) (A 1) (M 9) (M 10) (M 11) (M 12) (M 13) (M 14) ∧
  zG3 (zPR cb P (C 22) (C 23) (C 24)) (C 7) (C 8) (C 9) (C 10) (C 11) (C 12) (A 2) (A 3) (A 4) (M 15) (M 16) (M 17) (M 18) (M 19) (M 20) (M 21) (M 22) (M 23) (M 24) (M 25) (M 26) (M 27) ∧
  zG4 cb (zPR cb P (C 22) (C 23) (C 24)) (C 13) (A 5 0) (C 14) (C 15) (C 16) (C 17) (C 18) (A 6) (M 0) (M 31) (M 32) (M 33) (M 34) (M 35) (M 36) (M 37) (M 38) ∧
  zG5 (zPR cb P (C 22) (C 23) (C 24)) (C 19) (C 20) (C 21) (A 7) (M 1) (M 2) (M 3) (M 28) (M 29) (M 30)
def zCS (D : va_G) (ka : Nat → ClassId) (cb : Nat) (M : zM) (U : State) : Prop := ∃ (P : List Nat) (C : zC) (A : zA), zCW D ka cb P C A U ∧ zRep cb P C A M
theorem zCS_blind {D : va_G} {ka : Nat → ClassId} {cb : Nat} {M : zM} {As : List Value} : FrameBlind (va_Pc As (zCS D ka cb M)) := by
  intro a U g mk h
  obtain ⟨h1, P, C, A, ⟨h2, h3, h4, h5⟩, h6⟩ := h
  exact ⟨h1, P, C, A, ⟨h2, h3, h4, va_K.moved (u := U) (U := U.calling g mk a) (Vm.Alike.refl U.vm) h5⟩, h6⟩
-- what the relation says, part by part
section ZRP
variable {cb : Nat} {P : List Nat} {C : zC} {A : zA} {M : zM}
theorem zr_up (h : zRep cb P C A M) {r : Nat} (hr : r < 9) : C 1 r 0 = zb (M 4 r = 0) := (h.2.1 r hr).1
theorem zr_liar (h : zRep cb P C A M) {r : Nat} (hr : r < 9) : C 2 r 0 = M 5 r := (h.2.1 r hr).2.1
theorem zr_held (h : zRep cb P C A M) {r p : Nat} (hr : r < 9) (hp : p < 4) : ∃ a, A 0 r p = some a ∧ zPa cb P a ∧ C 22 a 0 = M 6 (4 * r + p) ∧ C 23 a 0 = M 7 (4 * r + p) ∧ C 24 a 0 = M 8 (4 * r + p) := (h.2.1 r hr).2.2 p hp
theorem zr_rc (h : zRep cb P C A M) {p r : Nat} (hp : p < 4) (hr : r < 9) : C 3 p r = M 14 (9 * p + r) := ((h.2.2.1 p hp).1 r hr).1
theorem zr_rc01 (h : zRep cb P C A M) {p r : Nat} (hp : p < 4) (hr : r < 9) : M 14 (9 * p + r) = 0 ∨ M 14 (9 * p + r) = 1 := ((h.2.2.1 p hp).1 r hr).2
theorem zr_cnt (h : zRep cb P C A M) {p : Nat} (hp : p < 4) : C 4 p 0 = nI (zrcs M p) := (h.2.2.1 p hp).2.1
theorem zr_open (h : zRep cb P C A M) {p : Nat} (hp : p < 4) : C 5 p 0 = M 12 p := (h.2.2.1 p hp).2.2.1
theorem zr_fin (h : zRep cb P C A M) {p : Nat} (hp : p < 4) : C 6 p 0 = M 13 p := (h.2.2.1 p hp).2.2.2.1
theorem zr_lat (h : zRep cb P C A M) {p : Nat} (hp : p < 4) : ∃ a, A 1 p 0 = some a ∧ zPa cb P a ∧ C 22 a 0 = M 9 p ∧ C 23 a 0 = M 10 p ∧ C 24 a 0 = M 11 p := (h.2.2.1 p hp).2.2.2.2
theorem zr_tc (h : zRep cb P C A M) {d : Nat} (hd : d < 3) : C 7 d 0 = nI (zans M d) := (h.2.2.2.1 d hd).1
theorem zr_st (h : zRep cb P C A M) {d : Nat} (hd : d < 3) : C 8 d 0 = M 18 d := (h.2.2.2.1 d hd).2.1
theorem zr_q (h : zRep cb P C A M) {d : Nat} (hd : d < 3) : C 9 d 0 = M 15 d := (h.2.2.2.1 d hd).2.2.1
theorem zr_rd (h : zRep cb P C A M) {d : Nat} (hd : d < 3) : C 10 d 0 = M 17 d := (h.2.2.2.1 d hd).2.2.2.1
theorem zr_pt (h : zRep cb P C A M) {d : Nat} (hd : d < 3) : C 11 d 0 = M 16 d := (h.2.2.2.1 d hd).2.2.2.2.1
theorem zr_ap (h : zRep cb P C A M) {d : Nat} (hd : d < 3) : C 12 d 0 = M 27 (4 * d) := (h.2.2.2.1 d hd).2.2.2.2.2.1
theorem zr_told (h : zRep cb P C A M) {d r : Nat} (hd : d < 3) (hr : r < 9) : (A 2 d r = none ∧ M 19 (9 * d + r) = 0) ∨ ∃ a, A 2 d r = some a ∧ ¬ M 19 (9 * d + r) = 0 ∧ zPa cb P a ∧ C 22 a 0 = M 20 (9 * d + r) ∧ C 23 a 0 = M 21 (9 * d + r) ∧ C 24 a 0 = M 22 (9 * d + r) := (h.2.2.2.1 d hd).2.2.2.2.2.2.1 r hr
theorem zr_rem (h : zRep cb P C A M) {d p : Nat} (hd : d < 3) (hp : p < 4) : ∃ a, A 3 d p = some a ∧ zPa cb P a ∧ C 22 a 0 = M 23 (4 * d + p) ∧ C 23 a 0 = M 24 (4 * d + p) ∧ C 24 a 0 = M 25 (4 * d + p) := (h.2.2.2.1 d hd).2.2.2.2.2.2.2.1 p hp
theorem zr_ans (h : zRep cb P C A M) {d : Nat} (hd : d < 3) : (A 4 d 0 = none ∧ M 26 d = 0) ∨ ∃ a, A 4 d 0 = some a ∧ ¬ M 26 d = 0 ∧ zPa cb P a ∧ C 22 a 0 = M 27 (4 * d + 1) ∧ C 23 a 0 = M 27 (4 * d + 2) ∧ C 24 a 0 = M 27 (4 * d + 3) := (h.2.2.2.1 d hd).2.2.2.2.2.2.2.2
theorem zr_count (h : zRep cb P C A M) : C 13 0 0 = M 0 1 := h.2.2.2.2.1.1
theorem zr_post (h : zRep cb P C A M) : ∃ σ : Nat → Nat, (∀ i, i < 300 → A 5 0 i = some (cb + (42 + σ i)) ∧ σ i < 300) ∧ (∀ i j, i < 300 → j < 300 → σ i = σ j → i = j) ∧ ∀ i, i < zix (M 0 1) → zLR (zPR cb P (C 22) (C 23) (C 24)) (C 14) (C 15) (C 16) (C 17) (C 18) (A 6) (M 31) (M 32) (M 33) (M 34) (M 35) (M 36) (M 37) (M 38) (σ i) i := h.2.2.2.2.1.2
theorem zr_hop (h : zRep cb P C A M) {p : Nat} (hp : p < 4) : C 19 0 p = M 1 p := (h.2.2.2.2.2.1 p hp).1
theorem zr_seen (h : zRep cb P C A M) {p : Nat} (hp : p < 4) : (A 7 0 p = none ∧ M 28 p = 0) ∨ ∃ a n, A 7 0 p = some a ∧ ¬ M 28 p = 0 ∧ zPa cb P a ∧ C 22 a 0 = n ∧ C 23 a 0 = M 29 p ∧ C 24 a 0 = M 30 p := (h.2.2.2.2.2.1 p hp).2
theorem zr_hav (h : zRep cb P C A M) {x : Nat} (hx : x < 3) : C 20 0 x = M 2 x := (h.2.2.2.2.2.2 x hx).1
theorem zr_val (h : zRep cb P C A M) {x : Nat} (hx : x < 3) : C 21 0 x = M 3 x := (h.2.2.2.2.2.2 x hx).2
end ZRP
