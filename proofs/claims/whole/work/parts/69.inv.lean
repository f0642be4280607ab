/-! sides stay as they must be -/
def VSi (g : Nat → Int32) : Prop := (0 ≤ (g 0).toInt ∧ (g 0).toInt ≤ 5) ∧ (0 ≤ (g 1).toInt ∧ (g 1).toInt ≤ 9) ∧ (-9 ≤ (g 2).toInt ∧ (g 2).toInt ≤ 9) ∧ (-9 ≤ (g 3).toInt ∧ (g 3).toInt ≤ 9) ∧ ¬ ((g 2).toInt = 0 ∧ (g 3).toInt = 0) ∧ (1 ≤ (g 4).toInt ∧ (g 4).toInt ≤ 9)
theorem VS.i {n : Nat} {f : zf} (h : VS n f) {i : Nat} (hi : i < n) : VSi (f i) := h.2 i hi
theorem VS.of {n : Nat} {f : zf} (hn : n ≤ 8) (h : ∀ i, i < n → VSi (f i)) : VS n f := ⟨hn, h⟩
theorem VSi_new {n : Nat} {e nn t : Int32} (h : zwS n e nn t = 0) : n ≠ 8 ∧ VSi (znew e nn t) := by
  unfold zwS at h
  by_cases c1 : e < -9 ∨ nn < -9 ∨ t < 1
  · rw [if_pos c1] at h; exact absurd h (by decide)
  · rw [if_neg c1] at h
    by_cases c2 : 9 < e ∨ 9 < nn ∨ 9 < t ∨ n = 8
    · rw [if_pos c2] at h; exact absurd h (by decide)
    · rw [if_neg c2] at h
      by_cases c3 : e = 0 ∧ nn = 0
      · rw [if_pos c3] at h; exact absurd h (by decide)
      · have k9 : (-9 : Int32).toInt = -9 := by decide
        have p9 : (9 : Int32).toInt = 9 := by decide
        have p1 : (1 : Int32).toInt = 1 := by decide
        have p0 : (0 : Int32).toInt = 0 := by decide
        simp only [Int32.lt_iff_toInt_lt, k9, p9, p1] at c1 c2
        have c3' : ¬ (e.toInt = 0 ∧ nn.toInt = 0) := fun z => c3 ⟨Int32.toInt_inj.mp (by rw [p0]; exact z.1), Int32.toInt_inj.mp (by rw [p0]; exact z.2)⟩
        refine ⟨by omega, ⟨by show 0 ≤ (0 : Int32).toInt; omega, by show (0 : Int32).toInt ≤ 5; omega⟩, ⟨by show 0 ≤ (0 : Int32).toInt; omega, by show (0 : Int32).toInt ≤ 9; omega⟩, ?_, ?_, c3', ?_⟩
        · show -9 ≤ e.toInt ∧ e.toInt ≤ 9; omega
        · show -9 ≤ nn.toInt ∧ nn.toInt ≤ 9; omega
        · show 1 ≤ t.toInt ∧ t.toInt ≤ 9; omega
theorem VS.ins {n a : Nat} {f : zf} {e nn t : Int32} (h : VS n f) (hw : zwS n e nn t = 0) (ha : a ≤ n) : VS (n + 1) (zins f a (znew e nn t)) := by
  obtain ⟨h8, hv⟩ := VSi_new hw
  refine VS.of (by have := h.1; omega) (fun i hi => ?_)
  by_cases c : i < a
  · have e1 : zins f a (znew e nn t) i = f i := funext (fun j => if_pos c)
    rw [e1]; exact h.i (by omega)
  · by_cases d : i = a
    · have e1 : zins f a (znew e nn t) i = znew e nn t := funext (fun j => (if_neg c).trans (if_pos d))
      rw [e1]; exact hv
    · have e1 : zins f a (znew e nn t) i = f (i - 1) := funext (fun j => (if_neg c).trans (if_neg d))
      rw [e1]; exact h.i (by omega)
theorem VS.kin {n s : Nat} {f : zf} {kd fg : Int32} (h : VS n f) (h1 : ¬ (kd < 0 ∨ 5 < kd)) (h2 : ¬ fg < 0) (h3 : ¬ 9 < fg) : VS n (zkin f s kd fg) := by
  have p5 : (5 : Int32).toInt = 5 := by decide
  have p9 : (9 : Int32).toInt = 9 := by decide
  have p0 : (0 : Int32).toInt = 0 := by decide
  simp only [Int32.lt_iff_toInt_lt, p5, p9, p0] at h1 h2 h3
  refine VS.of h.1 (fun i hi => ?_)
  have q := h.i hi
  by_cases c : i = s
  · have e0 : zkin f s kd fg i 0 = kd := if_pos ⟨c, rfl⟩
    have e1 : zkin f s kd fg i 1 = fg := (if_neg (by omega)).trans (if_pos ⟨c, rfl⟩)
    have ej : ∀ j, 2 ≤ j → zkin f s kd fg i j = f i j := fun j hj => (if_neg (by omega)).trans (if_neg (by omega))
    obtain ⟨q0, q1, q2, q3, q4, q5⟩ := q
    unfold VSi
    rw [e0, e1, ej 2 (by omega), ej 3 (by omega), ej 4 (by omega)]
    exact ⟨by omega, by omega, q2, q3, q4, q5⟩
  · have e1 : zkin f s kd fg i = f i := funext (fun j => (if_neg (by omega)).trans (if_neg (by omega)))
    rw [e1]; exact q
theorem VS.del {n s : Nat} {f : zf} (h : VS n f) : VS (n - 1) (zdel f s) := by
  refine VS.of (by have := h.1; omega) (fun i hi => ?_)
  by_cases c : i < s
  · have e1 : zdel f s i = f i := funext (fun j => if_pos c)
    rw [e1]; exact h.i (by omega)
  · have e1 : zdel f s i = f (i + 1) := funext (fun j => if_neg c)
    rw [e1]; exact h.i (by omega)
theorem VS.rev {n : Nat} {f : zf} (h : VS n f) : VS n (zrev f n) := by
  refine VS.of h.1 (fun i hi => ?_)
  obtain ⟨q0, q1, q2, q3, q4, q5⟩ := h.i (show n - 1 - i < n by omega)
  have e0 : zrev f n i 0 = f (n - 1 - i) 0 := if_neg (by omega)
  have e1 : zrev f n i 1 = f (n - 1 - i) 1 := if_neg (by omega)
  have e2 : zrev f n i 2 = - f (n - 1 - i) 2 := if_pos (by omega)
  have e3 : zrev f n i 3 = - f (n - 1 - i) 3 := if_pos (by omega)
  have e4 : zrev f n i 4 = f (n - 1 - i) 4 := if_neg (by omega)
  have n2 := (zi_neg (x := f (n - 1 - i) 2) (A := 9) (zi_of (by omega)) (by decide)).1
  have n3 := (zi_neg (x := f (n - 1 - i) 3) (A := 9) (zi_of (by omega)) (by decide)).1
  unfold VSi
  rw [e0, e1, e2, e3, e4, n2, n3]
  exact ⟨q0, q1, by omega, by omega, by omega, q5⟩
theorem VS_do {c : Int32} {N : Nat → Int32} {S S' : Nat × zf} (h : VS S.1 S.2) (hd : zdo c N S = some S') : VS S'.1 S'.2 := by
  unfold zdo at hd
  by_cases c1 : c = 115
  · rw [if_pos c1] at hd
    by_cases d : zwS S.1 (N 0) (N 1) (N 2) = 0
    · rw [if_pos d] at hd; cases hd; exact h.ins d (Nat.le_refl _)
    · rw [if_neg d] at hd; cases hd
  · rw [if_neg c1] at hd
    by_cases c2 : c = 105
    · rw [if_pos c2] at hd
      by_cases d : zwA S.1 (N 0) (N 1) (N 2) (N 3) = 0
      · rw [if_pos d] at hd; cases hd
        obtain ⟨q1, q2⟩ := zwA_0 d
        obtain ⟨j, hj, ej⟩ := zsd_of (by have := h.1; omega) q1
        exact h.ins q2 (by rw [ej, nI_clamp (by have := h.1; omega)]; omega)
      · rw [if_neg d] at hd; cases hd
    · rw [if_neg c2] at hd
      by_cases c3 : c = 107
      · rw [if_pos c3] at hd
        by_cases d : zwK S.1 (N 0) (N 1) (N 2) = 0
        · rw [if_pos d] at hd; cases hd
          obtain ⟨-, q2, q3, q4⟩ := zwK_0 d
          exact h.kin q2 q3 q4
        · rw [if_neg d] at hd; cases hd
      · rw [if_neg c3] at hd
        by_cases c4 : c = 100
        · rw [if_pos c4] at hd
          by_cases d : zsd S.1 (N 0)
          · rw [if_pos d] at hd; cases hd; exact h.del
          · rw [if_neg d] at hd; cases hd
        · rw [if_neg c4] at hd; cases hd; exact h.rev
theorem VS_wr {c : Int32} {N : Nat → Int32} {p : Nat} {wr : Option Nat} {S : Nat × zf} (h : VS S.1 S.2) : VS (zwr c N p wr S).2.1 (zwr c N p wr S).2.2 := by
  unfold zwr
  cases wr with
  | some b => exact h
  | none =>
    cases hd : zdo c N S with
    | none => exact h
    | some S' => exact VS_do h hd
theorem VS_rd {T : zac} : ∀ (m p cnt : Nat) (wr : Option Nat) (S : Nat × zf), VS S.1 S.2 → VS (zrd T m p cnt wr S).2.1 (zrd T m p cnt wr S).2.2 := by
  intro m
  induction m with
  | zero => intro p cnt wr S h; exact h
  | succ m ih =>
    intro p cnt wr S h
    show VS (zaf T (zrd T m) p (zlt T p) cnt wr S (zst_ T p)).2.1 (zaf T (zrd T m) p (zlt T p) cnt wr S (zst_ T p)).2.2
    unfold zaf
    split
    · exact h
    · split
      · exact ih _ _ _ _ (VS_wr h)
      · exact VS_wr h
/-- all that an object holds of sides is as it must be -/
def zV (σ : zA) : Prop := VS σ.1.1 σ.1.2 ∧ (∀ i, i < σ.2.1.1 → VS (σ.2.1.2 i).1 (σ.2.1.2 i).2) ∧ ∀ S, σ.2.2.1 = some S → VS S.1 S.2
theorem zV_no {σ : zA} (h : zV σ) (e : Int32) : zV (zno σ e) := by
  unfold zno
  split
  · exact h
  · exact h
theorem zV_ch {σ : zA} {S : Nat × zf} (h : zV σ) (hS : VS S.1 S.2) : zV (zch σ S) := by
  refine ⟨hS, fun i hi => ?_, h.2.2⟩
  have hi : i < (if σ.2.1.1 < 8 then σ.2.1.1 + 1 else 8) := hi
  cases i with
  | zero => exact h.1
  | succ i => exact h.2.1 i (by split at hi <;> omega)
theorem zV_TO {σ : zA} {T O : zac} (h : zV σ) : zV (zsTO σ T O) := h
theorem zV_L {σ : zA} {l : Nat} {z : zls} (h : zV σ) : zV (zsL σ l z) := h
theorem zV_K {σ : zA} (h : zV σ) : zV (zsK σ) := ⟨h.1, h.2.1, fun S q => by cases q; exact h.1⟩
theorem zV_on {σ : zA} (h : zV σ) : zV (zon σ) := by
  unfold zon
  split
  · exact h
  · rename_i S e
    exact ⟨h.2.2 S e, fun i hi => absurd hi (Nat.not_lt_zero _), fun S' q => by cases q; exact h.2.2 S e⟩
theorem zV_un {σ : zA} (h : zV σ) (hc : zeU σ.2.1.1 = 0) : zV (zun_ σ) := by
  have h0 : 0 < σ.2.1.1 := by
    rcases Nat.eq_zero_or_pos σ.2.1.1 with q | q
    · exact absurd hc (by rw [show zeU σ.2.1.1 = -3 from zes_t q]; decide)
    · exact q
  exact ⟨h.2.1 0 h0, fun i hi => h.2.1 (i + 1) (by have hi : i < σ.2.1.1 - 1 := hi; omega), h.2.2⟩
theorem zV_T {σ : zA} (h : zV σ) : zV (zsT σ) := by
  unfold zsT
  split
  · exact zV_ch (zV_TO h) (VS_rd _ _ _ _ _ h.1)
  · exact zV_TO h
/-! one call of both -/
theorem zBX {σ : zA} {h h' : zH} (hX : RX σ h) (hF : zFr zB2 h h') : RX σ h' := hX.fo hF (fun o q => Or.inr (Or.inr q))
theorem zBM {σ : zA} {h h' : zH} (hM : RM σ h) (hF : zFr zB1 h h') : RM σ h' := hM.fo hF (fun o q => Or.inl q)
theorem zV_pi {σ σ' : zA} {e : Int32} (h : zV σ) (h' : e = 0 → zV σ') : zV (if e = 0 then σ' else zno σ e) := by
  by_cases c : e = 0
  · rw [if_pos c]; exact h' c
  · rw [if_neg c]; exact zV_no h e
