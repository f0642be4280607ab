/-! told in letters: what a text means -/
def zlt (T : Nat × (Nat → Int32)) (p : Nat) : Int32 := if p < T.1 then T.2 p else -9
def zfo (x : Int32) : Nat := if x = 115 then 1 else if x = 105 then 2 else if x = 107 then 3 else if x = 100 then 4 else if x = 114 then 5 else 0
theorem zfo_lt (x : Int32) : zfo x < 6 := by
  unfold zfo
  split
  · decide
  · split
    · decide
    · split
      · decide
      · split
        · decide
        · split
          · decide
          · decide
/-- the letter a sign of a form asks for: a digit, one with perhaps a minus ahead, or itself; what it tells, and where it ends (or fails) -/
def zit (T : Nat × (Nat → Int32)) (a : Int32) (p : Nat) : Option (Option Int32) × Nat :=
  if a = 126 then
    (if zlt T p = 45 then (if 48 ≤ zlt T (p + 1) ∧ zlt T (p + 1) ≤ 57 then (some (some (-(zlt T (p + 1) - 48))), p + 2) else (none, p + 1))
     else if 48 ≤ zlt T p ∧ zlt T p ≤ 57 then (some (some (zlt T p - 48)), p + 1) else (none, p))
  else if a = 35 then (if 48 ≤ zlt T p ∧ zlt T p ≤ 57 then (some (some (zlt T p - 48)), p + 1) else (none, p))
  else if zlt T p = a then (some none, p + 1) else (none, p)
abbrev zac : Type := Nat × (Nat → Int32)
/-- the last m signs of form fm, from place p on -/
def zsc (T : zac) (fm : Nat) : Nat → Nat → zac → Bool × Nat × zac
  | 0, p, acc => (true, p, acc)
  | m + 1, p, acc => match zit T (zchr fm (zlen.getD fm 0 - (m + 1))) p with
    | (none, q) => (false, q, acc)
    | (some none, q) => zsc T fm m q acc
    | (some (some v), q) => zsc T fm m q (zap acc v)
/-- the same behind a minus -/
def zscB (T : zac) (fm : Nat) (b : Bool) (m p : Nat) (acc : zac) : Bool × Nat × zac := match b, m with
  | true, m + 1 => if 48 ≤ zlt T p ∧ zlt T p ≤ 57 then zsc T fm m (p + 1) (zap acc (-(zlt T p - 48))) else (false, p, acc)
  | _, m => zsc T fm m p acc
/-- a statement from place p on -/
def zst_ (T : zac) (p : Nat) : Bool × Nat × zac := if zfo (zlt T p) = 0 then (false, p, (0, fun _ => 0)) else zsc T (zfo (zlt T p)) (zlen.getD (zfo (zlt T p)) 0) (p + 1) (0, fun _ => 0)
/-- what a statement does -/
noncomputable def zdo (c : Int32) (N : Nat → Int32) (S : Nat × zf) : Option (Nat × zf) :=
  if c = 115 then (if zwS S.1 (N 0) (N 1) (N 2) = 0 then some (S.1 + 1, zins S.2 S.1 (znew (N 0) (N 1) (N 2))) else none)
  else if c = 105 then (if zwA S.1 (N 0) (N 1) (N 2) (N 3) = 0 then some (S.1 + 1, zins S.2 (N 0).toNatClampNeg (znew (N 1) (N 2) (N 3))) else none)
  else if c = 107 then (if zwK S.1 (N 0) (N 1) (N 2) = 0 then some (S.1, zkin S.2 (N 0).toNatClampNeg (N 1) (N 2)) else none)
  else if c = 100 then @ite _ (zsd S.1 (N 0)) (Classical.propDecidable _) (some (S.1 - 1, zdel S.2 (N 0).toNatClampNeg)) none
  else some (S.1, zrev S.2 S.1)
/-- behind a statement: wrong from where on, the sides -/
noncomputable def zwr (c : Int32) (N : Nat → Int32) (p : Nat) (wr : Option Nat) (S : Nat × zf) : Option Nat × (Nat × zf) := match wr with
  | some b => (some b, S)
  | none => match zdo c N S with
    | some S' => (none, S')
    | none => (some p, S)
def zen (cnt : Nat) (wr : Option Nat) : Int32 := match wr with
  | none => nI cnt
  | some b => -2000 - nI b
/-- the rest of a text, its statement at p being r; the whole text -/
noncomputable def zaf (T : zac) (go : Nat → Nat → Option Nat → (Nat × zf) → Int32 × (Nat × zf)) (p : Nat) (c : Int32) (cnt : Nat) (wr : Option Nat) (S : Nat × zf) (r : Bool × Nat × zac) : Int32 × (Nat × zf) :=
  if r.1 = false then (-1000 - nI r.2.1, S)
  else if r.2.1 < T.1 then go r.2.1 (cnt + 1) (zwr c r.2.2.2 p wr S).1 (zwr c r.2.2.2 p wr S).2
  else (zen (cnt + 1) (zwr c r.2.2.2 p wr S).1, (zwr c r.2.2.2 p wr S).2)
noncomputable def zrd (T : zac) : Nat → Nat → Nat → Option Nat → (Nat × zf) → Int32 × (Nat × zf)
  | 0, _, _, _, S => (0, S)
  | m + 1, p, cnt, wr, S => zaf T (zrd T m) p (zlt T p) cnt wr S (zst_ T p)
/-- the reference's two goings: does all go on; what becomes of it -/
def zr1 (T : zac) : Nat → Nat → Nat → Int32
  | 0, _, _ => 0
  | m + 1, p, cnt => if (zst_ T p).1 = false then -1000 - nI (zst_ T p).2.1 else if (zst_ T p).2.1 < T.1 then zr1 T m (zst_ T p).2.1 (cnt + 1) else nI (cnt + 1)
noncomputable def zr2 (T : zac) : Nat → Nat → Nat → (Nat × zf) → Int32 × (Nat × zf)
  | 0, _, _, S => (0, S)
  | m + 1, p, cnt, S => match zdo (zlt T p) (zst_ T p).2.2.2 S with
    | none => (-2000 - nI p, S)
    | some S' => if (zst_ T p).2.1 < T.1 then zr2 T m (zst_ T p).2.1 (cnt + 1) S' else (nI (cnt + 1), S')
/-! places -/
theorem zlt_in {T : zac} {p : Nat} (h : p < T.1) : zlt T p = T.2 p := if_pos h
theorem zlt_out {T : zac} {p : Nat} (h : T.1 ≤ p) : zlt T p = -9 := if_neg (by omega)
theorem zlt_ne {T : zac} {p : Nat} (h : zlt T p ≠ -9) : p < T.1 := by
  by_cases c : p < T.1
  · exact c
  · exact absurd (zlt_out (by omega)) h
theorem zit_p {T : zac} {a : Int32} {p : Nat} (ha : a ≠ -9) : ((zit T a p).1 = none → p ≤ (zit T a p).2 ∧ (p ≤ T.1 → (zit T a p).2 ≤ T.1)) ∧ ((zit T a p).1 ≠ none → p < (zit T a p).2 ∧ (zit T a p).2 ≤ T.1) := by
  have dg : ∀ q, 48 ≤ zlt T q ∧ zlt T q ≤ 57 → q < T.1 := fun q z => zlt_ne (fun e => by rw [e] at z; exact absurd z.1 (by decide))
  unfold zit
  by_cases c1 : a = 126
  · rw [if_pos c1]
    by_cases c2 : zlt T p = 45
    · have hp : p < T.1 := zlt_ne (by rw [c2]; decide)
      rw [if_pos c2]
      by_cases c3 : 48 ≤ zlt T (p + 1) ∧ zlt T (p + 1) ≤ 57
      · have := dg _ c3
        rw [if_pos c3]
        exact ⟨fun q => (by cases q), fun _ => ⟨by show p < p + 2; omega, by show p + 2 ≤ T.1; omega⟩⟩
      · rw [if_neg c3]
        exact ⟨fun _ => ⟨by show p ≤ p + 1; omega, fun _ => by show p + 1 ≤ T.1; omega⟩, fun q => absurd rfl q⟩
    · rw [if_neg c2]
      by_cases c3 : 48 ≤ zlt T p ∧ zlt T p ≤ 57
      · have := dg _ c3
        rw [if_pos c3]
        exact ⟨fun q => (by cases q), fun _ => ⟨by show p < p + 1; omega, by show p + 1 ≤ T.1; omega⟩⟩
      · rw [if_neg c3]
        exact ⟨fun _ => ⟨Nat.le_refl _, fun q => q⟩, fun q => absurd rfl q⟩
  · rw [if_neg c1]
    by_cases c2 : a = 35
    · rw [if_pos c2]
      by_cases c3 : 48 ≤ zlt T p ∧ zlt T p ≤ 57
      · have := dg _ c3
        rw [if_pos c3]
        exact ⟨fun q => (by cases q), fun _ => ⟨by show p < p + 1; omega, by show p + 1 ≤ T.1; omega⟩⟩
      · rw [if_neg c3]
        exact ⟨fun _ => ⟨Nat.le_refl _, fun q => q⟩, fun q => absurd rfl q⟩
    · rw [if_neg c2]
      by_cases c3 : zlt T p = a
      · have : p < T.1 := zlt_ne (by rw [c3]; exact ha)
        rw [if_pos c3]
        exact ⟨fun q => (by cases q), fun _ => ⟨by show p < p + 1; omega, by show p + 1 ≤ T.1; omega⟩⟩
      · rw [if_neg c3]
        exact ⟨fun _ => ⟨Nat.le_refl _, fun q => q⟩, fun q => absurd rfl q⟩
theorem zchr9 : ∀ i, i < 6 → ∀ j, j < 9 → zchr i j ≠ -9 := by decide +kernel
theorem zlen9 : ∀ i, i < 6 → zlen.getD i 0 < 9 ∧ (zlen.getD i 0 = 0 ↔ i = 0) := by decide +kernel
theorem zsc_p {T : zac} {fm : Nat} (hf : fm < 6) : ∀ (m p : Nat) (acc : zac), p ≤ T.1 → p ≤ (zsc T fm m p acc).2.1 ∧ (zsc T fm m p acc).2.1 ≤ T.1 := by
  intro m
  induction m with
  | zero => intro p acc h; exact ⟨Nat.le_refl _, h⟩
  | succ m ih =>
    intro p acc h
    have z := zit_p (T := T) (p := p) (zchr9 fm hf (zlen.getD fm 0 - (m + 1)) (by have := (zlen9 fm hf).1; omega))
    unfold zsc
    generalize zit T (zchr fm (zlen.getD fm 0 - (m + 1))) p = w at z ⊢
    obtain ⟨o, q⟩ := w
    match o, z with
    | none, z => exact ⟨(z.1 rfl).1, (z.1 rfl).2 h⟩
    | some none, z =>
      have z2 := z.2 (by intro e; cases e)
      have := ih q acc z2.2
      exact ⟨Nat.le_trans (Nat.le_of_lt z2.1) this.1, this.2⟩
    | some (some v), z =>
      have z2 := z.2 (by intro e; cases e)
      have := ih q (zap acc v) z2.2
      exact ⟨Nat.le_trans (Nat.le_of_lt z2.1) this.1, this.2⟩
theorem zst_p {T : zac} {p : Nat} (hp : p ≤ T.1) : (zst_ T p).2.1 ≤ T.1 ∧ ((zst_ T p).1 = true → p + 1 ≤ (zst_ T p).2.1 ∧ p < T.1) := by
  unfold zst_
  by_cases c : zfo (zlt T p) = 0
  · rw [if_pos c]; exact ⟨hp, fun q => absurd q (show ¬ (false = true) by decide)⟩
  · rw [if_neg c]
    have hl : p < T.1 := zlt_ne (fun e => c (by rw [e]; rfl))
    have := zsc_p (T := T) (zfo_lt (zlt T p)) (zlen.getD (zfo (zlt T p)) 0) (p + 1) (0, fun _ => 0) (by omega)
    exact ⟨this.2, fun _ => ⟨this.1, hl⟩⟩
theorem zneg : ∀ q, q < 256 → ¬ (0 : Int32) < -1000 - nI q ∧ (-1000 - nI q : Int32) < 0 ∧ ¬ (0 : Int32) < -2000 - nI q ∧ (-2000 - nI q : Int32) < 0 := by decide +kernel
theorem zpsk {k : Nat} (h0 : 0 < k) (h : k < 100000) : (0 : Int32) < nI k := by
  have := (nI_ltI (a := 0) (b := k) (by omega) (by omega)).mpr h0
  exact this
theorem zrd_eq {T : zac} (hL : T.1 ≤ 120) : ∀ (m p cnt : Nat), p ≤ T.1 → T.1 < m + p → cnt + m < 1000 → (0 < zr1 T m p cnt → ∀ S, zrd T m p cnt none S = zr2 T m p cnt S ∧ ∀ b, zrd T m p cnt (some b) S = (-2000 - nI b, S)) ∧ (¬ 0 < zr1 T m p cnt → zr1 T m p cnt < 0 ∧ ∀ wr S, (zrd T m p cnt wr S).1 = zr1 T m p cnt) := by
  intro m
  induction m with
  | zero => intro p cnt h1 h2; omega
  | succ m ih =>
    intro p cnt h1 h2 h3
    have z := zst_p h1
    have n1 := zneg (zst_ T p).2.1 (by omega)
    have n2 := zneg p (by omega)
    by_cases c : (zst_ T p).1 = false
    · have e1 : zr1 T (m + 1) p cnt = -1000 - nI (zst_ T p).2.1 := if_pos c
      rw [e1]
      refine ⟨fun q => absurd q n1.1, fun _ => ⟨n1.2.1, fun wr S => ?_⟩⟩
      show (zaf T (zrd T m) p (zlt T p) cnt wr S (zst_ T p)).1 = _
      unfold zaf
      rw [if_pos c]
    · have z2 := z.2 (by simpa using c)
      have eZ : ∀ wr S, zrd T (m + 1) p cnt wr S = if (zst_ T p).2.1 < T.1 then zrd T m (zst_ T p).2.1 (cnt + 1) (zwr (zlt T p) (zst_ T p).2.2.2 p wr S).1 (zwr (zlt T p) (zst_ T p).2.2.2 p wr S).2 else (zen (cnt + 1) (zwr (zlt T p) (zst_ T p).2.2.2 p wr S).1, (zwr (zlt T p) (zst_ T p).2.2.2 p wr S).2) := fun wr S => by
        show zaf T (zrd T m) p (zlt T p) cnt wr S (zst_ T p) = _
        unfold zaf
        rw [if_neg c]
      by_cases d : (zst_ T p).2.1 < T.1
      · have e1 : zr1 T (m + 1) p cnt = zr1 T m (zst_ T p).2.1 (cnt + 1) := (if_neg c).trans (if_pos d)
        have I := ih (zst_ T p).2.1 (cnt + 1) (by omega) (by omega) (by omega)
        rw [e1]
        refine ⟨fun q S => ?_, fun q => ⟨(I.2 q).1, fun wr S => by rw [eZ, if_pos d]; exact (I.2 q).2 _ _⟩⟩
        refine ⟨?_, fun b => by rw [eZ, if_pos d]; exact (I.1 q S).2 b⟩
        rw [eZ, if_pos d]
        unfold zr2 zwr
        cases hd : zdo (zlt T p) (zst_ T p).2.2.2 S with
        | none => exact (I.1 q S).2 p
        | some S' =>
          show zrd T m _ _ none S' = if (zst_ T p).2.1 < T.1 then _ else _
          rw [if_pos d]
          exact (I.1 q S').1
      · have e1 : zr1 T (m + 1) p cnt = nI (cnt + 1) := (if_neg c).trans (if_neg d)
        rw [e1]
        refine ⟨fun q S => ?_, fun q => absurd (zpsk (by omega) (by omega)) q⟩
        refine ⟨?_, fun b => by rw [eZ, if_neg d]; rfl⟩
        rw [eZ, if_neg d]
        unfold zr2 zwr
        cases hd : zdo (zlt T p) (zst_ T p).2.2.2 S with
        | none => rfl
        | some S' =>
          show (zen (cnt + 1) none, S') = if (zst_ T p).2.1 < T.1 then _ else _
          rw [if_neg d]
          rfl
