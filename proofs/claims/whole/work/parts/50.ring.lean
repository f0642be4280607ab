/-! counting and summing over corners -/
noncomputable def yct (P : Nat → Prop) : Nat → Nat
  | 0 => 0
  | m + 1 => yct P m + @ite Nat (P m) (Classical.propDecidable _) 1 0
noncomputable def yin (P : Nat → Prop) (F : Nat → Int64) (a : Nat) : Int64 := @ite Int64 (P a) (Classical.propDecidable _) (F a) 0
theorem yct_i {P P' : Nat → Prop} {q : Nat} (hq : ¬ P q) : ∀ m, (∀ a, a < m → (P' a ↔ P a ∨ a = q)) → yct P' m = yct P m + (if q < m then 1 else 0) := by
  intro m
  induction m with
  | zero => intro _; rfl
  | succ m ih =>
    intro h
    have e := ih (fun a ha => h a (by omega))
    have hm := h m (by omega)
    show yct P' m + @ite Nat (P' m) (Classical.propDecidable _) 1 0 = yct P m + @ite Nat (P m) (Classical.propDecidable _) 1 0 + _
    rw [e]
    by_cases c : P m
    · rw [if_pos c, if_pos (hm.mpr (Or.inl c))]
      have : q ≠ m := fun z => hq (z ▸ c)
      by_cases z : q < m
      · rw [if_pos z, if_pos (by omega)]
      · rw [if_neg z, if_neg (by omega)]
    · rw [if_neg c]
      by_cases z : m = q
      · rw [if_pos (hm.mpr (Or.inr z)), if_neg (by omega), if_pos (by omega)]
      · rw [if_neg (fun w => (hm.mp w).elim c z)]
        by_cases z2 : q < m
        · rw [if_pos z2, if_pos (by omega)]
        · rw [if_neg z2, if_neg (by omega)]
theorem yct_le {P P' : Nat → Prop} : ∀ m, (∀ a, a < m → P a → P' a) → yct P m ≤ yct P' m := by
  intro m
  induction m with
  | zero => intro _; exact Nat.le_refl _
  | succ m ih =>
    intro h
    have e := ih (fun a ha => h a (by omega))
    have hm := h m (by omega)
    show yct P m + @ite Nat (P m) (Classical.propDecidable _) 1 0 ≤ yct P' m + @ite Nat (P' m) (Classical.propDecidable _) 1 0
    by_cases c : P m
    · rw [if_pos c, if_pos (hm c)]; omega
    · rw [if_neg c]; omega
theorem yct_0 {P : Nat → Prop} : ∀ m, (∀ a, a < m → ¬ P a) → yct P m = 0 := by
  intro m
  induction m with
  | zero => intro _; rfl
  | succ m ih => intro h; show yct P m + @ite Nat (P m) (Classical.propDecidable _) 1 0 = 0; rw [ih (fun a ha => h a (by omega)), if_neg (h m (by omega))]
theorem yct_n {P : Nat → Prop} : ∀ m, yct P m ≤ m := by
  intro m
  induction m with
  | zero => exact Nat.le_refl _
  | succ m ih =>
    show yct P m + @ite Nat (P m) (Classical.propDecidable _) 1 0 ≤ m + 1
    by_cases c : P m
    · rw [if_pos c]; omega
    · rw [if_neg c]; omega
theorem ysl_i {P P' : Nat → Prop} {F : Nat → Int64} {q : Nat} (hq : ¬ P q) : ∀ m, (∀ a, a < m → (P' a ↔ P a ∨ a = q)) → zsl (yin P' F) m = zsl (yin P F) m + (if q < m then F q else 0) := by
  intro m
  induction m with
  | zero => intro _; show (0 : Int64) = 0 + 0; rfl
  | succ m ih =>
    intro h
    have e := ih (fun a ha => h a (by omega))
    have hm := h m (by omega)
    show zsl (yin P' F) m + yin P' F m = zsl (yin P F) m + yin P F m + _
    rw [e]
    unfold yin
    by_cases c : P m
    · rw [if_pos c, if_pos (hm.mpr (Or.inl c))]
      have : q ≠ m := fun z => hq (z ▸ c)
      by_cases z : q < m
      · rw [if_pos z, if_pos (by omega)]; grind
      · rw [if_neg z, if_neg (by omega)]; grind
    · rw [if_neg c]
      by_cases z : m = q
      · subst z
        rw [if_pos (hm.mpr (Or.inr rfl)), if_neg (by omega), if_pos (by omega)]
      · rw [if_neg (fun w => (hm.mp w).elim c z)]
        by_cases z2 : q < m
        · rw [if_pos z2, if_pos (by omega)]; grind
        · rw [if_neg z2, if_neg (by omega)]
theorem ysl_e {g g' : Nat → Int64} : ∀ m, (∀ a, a < m → g a = g' a) → zsl g m = zsl g' m := by
  intro m
  induction m with
  | zero => intro _; rfl
  | succ m ih => intro h; show zsl g m + g m = zsl g' m + g' m; rw [ih (fun a ha => h a (by omega)), h m (by omega)]
theorem ysl_0 {g : Nat → Int64} : ∀ m, (∀ a, a < m → g a = 0) → zsl g m = 0 := by
  intro m
  induction m with
  | zero => intro _; rfl
  | succ m ih => intro h; show zsl g m + g m = 0; rw [ih (fun a ha => h a (by omega)), h m (by omega)]; rfl
section yRing
variable {n : Nat} {px py : Nat → Int64}
/-- corners ahead of one, seen from c0 -/
def yB (n : Nat) (px py : Nat → Int64) (c0 q a : Nat) : Prop := yO n px py a ∧ (a = c0 ∨ 0 < yC px py c0 a q)
theorem yB_no {c0 q : Nat} (h : q ≠ c0) : ¬ yB n px py c0 q q := fun z => by
  rcases z.2 with w | w
  · exact h w
  · have := yC_s (px := px) (py := py) c0 q
    omega
theorem yB_1 (hB : zPB n px py) {c0 e a : Nat} (h0 : yO n px py c0) (hs : ySc n px py c0 e) : yB n px py c0 e a ↔ a = c0 := by
  constructor
  · rintro ⟨h1, h2 | h2⟩
    · exact h2
    · by_cases z : a = c0
      · exact z
      · by_cases w : a = e
        · subst w; have := yC_s (px := px) (py := py) c0 a; omega
        · have a1 := yL5 hB h0 hs h1 z w
          have a2 := yC_a (px := px) (py := py) c0 e a
          omega
  · rintro rfl; exact ⟨h0, Or.inl rfl⟩
theorem yB_s (hB : zPB n px py) {c0 q e a : Nat} (h0 : yO n px py c0) (hq : yO n px py q) (hq0 : q ≠ c0) (hs : ySc n px py q e) (he : e ≠ c0) : yB n px py c0 e a ↔ (yB n px py c0 q a ∨ a = q) := by
  have lqe : 0 < yC px py c0 q e := by
    have := yL5 hB hq hs h0 (fun z => hq0 z.symm) (fun z => he z.symm)
    rw [← yC_r] at this
    exact this
  constructor
  · rintro ⟨h1, h2⟩
    by_cases z : a = q
    · exact Or.inr z
    · left
      refine ⟨h1, ?_⟩
      by_cases w : a = c0
      · exact Or.inl w
      · right
        have h2 : 0 < yC px py c0 a e := h2.resolve_left w
        have ae : a ≠ e := fun y => by subst y; have := yC_s (px := px) (py := py) c0 a; omega
        have n7 := yL7 hB h0 h1 hq (fun y => w y.symm) (fun y => hq0 y.symm) z
        by_cases y : 0 < yC px py c0 a q
        · exact y
        · exfalso
          have a1 := yC_a (px := px) (py := py) c0 a q
          have a2 := yL5 hB hq hs h1 z ae
          -- a strictly among c0, q, e
          refine yLin hB h1 h0.1 hq.1 hs.1.1 (a := c0) (b := q) (d := e) ?_ ?_ ?_
          · rw [yC_r]; rw [yC_r, yC_r] at a1 ; rw [← yC_r, ← yC_r] at a1; have : yC px py c0 q a = yC px py q a c0 := yC_r _ _ _; omega
          · have : yC px py q e a = yC px py e a q := yC_r _ _ _
            have : yC px py e a q = yC px py a q e := yC_r _ _ _
            omega
          · have : yC px py c0 a e = yC px py a e c0 := yC_r _ _ _
            omega
  · rintro (⟨h1, h2⟩ | rfl)
    · refine ⟨h1, ?_⟩
      by_cases w : a = c0
      · exact Or.inl w
      · right
        have h2 : 0 < yC px py c0 a q := h2.resolve_left w
        have aq : a ≠ q := fun y => by subst y; have := yC_s (px := px) (py := py) c0 a; omega
        have ae : a ≠ e := fun y => by subst y; have := yC_a (px := px) (py := py) c0 a q; omega
        have n7 := yL7 hB h0 h1 hs.1 (fun y => w y.symm) (fun y => he y.symm) ae
        by_cases y : 0 < yC px py c0 a e
        · exact y
        · exfalso
          have a1 := yC_a (px := px) (py := py) c0 a e
          exact yLin hB h0 hs.1.1 h1.1 hq.1 (show 0 < yC px py c0 e a by omega) h2 lqe
    · exact ⟨hq, Or.inr lqe⟩
theorem yB_z (hB : zPB n px py) {c0 q a : Nat} (h0 : yO n px py c0) (hq : yO n px py q) (hq0 : q ≠ c0) (hs : ySc n px py q c0) : yO n px py a ↔ (yB n px py c0 q a ∨ a = q) := by
  constructor
  · intro h1
    by_cases z : a = q
    · exact Or.inr z
    · left
      refine ⟨h1, ?_⟩
      by_cases w : a = c0
      · exact Or.inl w
      · right
        have := yL5 hB hq hs h1 z w
        rw [yC_r] at this
        exact this
  · rintro (⟨h1, h2⟩ | rfl)
    · exact h1
    · exact hq
/-! the class's sum: of each corner of the outline the cross product with the next one -/
theorem yzi {s : Int32} (hB : zPB n px py) (hb : ∀ a, a < n → (zbit s a ↔ yO n px py a)) {c e : Nat} (hc : yO n px py c) (hs : ySc n px py c e) : ∀ m, m ≤ n → zhi n px py s c m = if e < m then zcp px py c e else 0 := by
  intro m
  induction m with
  | zero => intro _; rfl
  | succ m ih =>
    intro hm
    show zhi n px py s c m + @ite Int64 (c ≠ m ∧ zbit s c ∧ zbit s m ∧ zea n px py c m) (Classical.propDecidable _) (zcp px py c m) 0 = _
    rw [ih (by omega)]
    by_cases z : m = e
    · subst z
      rw [if_neg (by omega), if_pos ⟨fun y => hs.2.1 y.symm, (hb c hc.1).mpr hc, (hb m (by omega)).mpr hs.1, fun k hk => (yed hB hc.1 (by omega) hk).mpr (hs.2.2 k hk)⟩, if_pos (by omega)]; grind
    · rw [if_neg (show ¬ (c ≠ m ∧ zbit s c ∧ zbit s m ∧ zea n px py c m) from fun q => z (ySc_1 hB hc (e := m) (e' := e) ⟨(hb m (by omega)).mp q.2.2.1, fun y => q.1 y.symm, fun k hk => (yed hB hc.1 (by omega) hk).mp (q.2.2.2 k hk)⟩ hs))]
      by_cases z2 : e < m
      · rw [if_pos z2, if_pos (by omega)]; grind
      · rw [if_neg z2, if_neg (by omega)]; grind
theorem yzi_0 {s : Int32} (hb : ∀ a, a < n → (zbit s a ↔ yO n px py a)) {a : Nat} (ha : a < n) (h : ∀ b, yO n px py a → yO n px py b → a = b) : ∀ m, m ≤ n → zhi n px py s a m = 0 := by
  intro m
  induction m with
  | zero => intro _; rfl
  | succ m ih =>
    intro hm
    show zhi n px py s a m + @ite Int64 (a ≠ m ∧ zbit s a ∧ zbit s m ∧ zea n px py a m) (Classical.propDecidable _) (zcp px py a m) 0 = _
    rw [ih (by omega), if_neg (fun q => q.1 (h m ((hb a ha).mp q.2.1) ((hb m (by omega)).mp q.2.2.1)))]; rfl
theorem yzo {s : Int32} : ∀ m, zho n px py s m = zsl (fun a => zhi n px py s a n) m := by
  intro m
  induction m with
  | zero => rfl
  | succ m ih => show zho n px py s m + zhi n px py s m n = zsl _ m + zhi n px py s m n; rw [ih]
/-- how far the reference's fan has come -/
def yI (n : Nat) (px py : Nat → Int64) (s : Int32) (c0 q : Nat) (sum : Int64) (cnt : Nat) : Prop := yO n px py q ∧ q ≠ c0 ∧ sum = zsl (yin (yB n px py c0 q) (fun a => zhi n px py s a n)) n + zcp px py q c0 ∧ yct (yB n px py c0 q) n = cnt ∧ 0 ≤ sum.toInt ∧ sum.toInt ≤ cnt * 32589461654765312
theorem yzl (a b c : Nat) : zlf px py a b c = zcp px py a b + zcp px py b c + zcp px py c a := by unfold zlf zcp; grind
theorem yzc (a b : Nat) : zcp px py a b + zcp px py b a = 0 := by unfold zcp; grind
theorem yI_1 {s : Int32} (hB : zPB n px py) (hb : ∀ a, a < n → (zbit s a ↔ yO n px py a)) {c0 e : Nat} (h0 : yO n px py c0) (hs : ySc n px py c0 e) : yI n px py s c0 e 0 1 := by
  have hP : ∀ a, a < n → (yB n px py c0 e a ↔ False ∨ a = c0) := fun a ha => by rw [yB_1 hB h0 hs]; exact ⟨Or.inr, fun q => q.elim False.elim id⟩
  have e1 := ysl_i (P := fun _ => False) (F := fun a => zhi n px py s a n) (q := c0) (fun z => z) n hP
  have e2 := yct_i (P := fun _ => False) (q := c0) (fun z => z) n hP
  rw [if_pos h0.1] at e1 e2
  have e3 : zsl (yin (fun _ => False) (fun a => zhi n px py s a n)) n = 0 := ysl_0 n (fun a _ => if_neg (fun z => z))
  have e4 : yct (fun _ => False) n = 0 := yct_0 n (fun a _ z => z)
  refine ⟨hs.1, hs.2.1, ?_, by rw [e2, e4], by rw [yz64]; omega, by rw [yz64]; omega⟩
  rw [e1, e3]
  show 0 = 0 + zhi n px py s c0 n + zcp px py e c0
  rw [yzi hB hb h0 hs n (Nat.le_refl _), if_pos hs.1.1]
  have := yzc (px := px) (py := py) c0 e
  grind
theorem yI_s {s : Int32} (hn : n ≤ 8) (hB : zPB n px py) (hb : ∀ a, a < n → (zbit s a ↔ yO n px py a)) {c0 q cnt : Nat} {sum : Int64} (h0 : yO n px py c0) (hI : yI n px py s c0 q sum cnt) : ∃ e, ySc n px py q e ∧ ((e ≠ c0 ∧ cnt + 2 ≤ yct (yO n px py) n ∧ yI n px py s c0 e (sum + zlf px py c0 q e) (cnt + 1)) ∨ (e = c0 ∧ cnt + 1 = yct (yO n px py) n ∧ zho n px py s n = sum)) := by
  obtain ⟨hq, hq0, h3, h4, h5, h6⟩ := hI
  obtain ⟨e, hs⟩ := yL3 hB hq h0 (fun z => hq0 z.symm)
  have hF := yzi hB hb hq hs n (Nat.le_refl _)
  rw [if_pos hs.1.1] at hF
  refine ⟨e, hs, ?_⟩
  by_cases he : e = c0
  · right
    subst he
    have hP : ∀ a, a < n → (yO n px py a ↔ yB n px py e q a ∨ a = q) := fun a _ => yB_z hB h0 hq hq0 hs
    have e2 := yct_i (yB_no hq0) n hP
    have e1 := ysl_i (F := fun a => zhi n px py s a n) (yB_no hq0) n hP
    rw [if_pos hq.1] at e1 e2
    refine ⟨rfl, by omega, ?_⟩
    rw [h3, yzo, ← hF, ← e1]
    refine ysl_e n (fun a ha => ?_)
    unfold yin
    by_cases c : yO n px py a
    · rw [if_pos c]
    · rw [if_neg c]; exact yzi_0 hb ha (fun b z => absurd z c) n (Nat.le_refl _)
  · left
    have hP : ∀ a, a < n → (yB n px py c0 e a ↔ yB n px py c0 q a ∨ a = q) := fun a _ => yB_s hB h0 hq hq0 hs he
    have e2 := yct_i (yB_no hq0) n hP
    have e1 := ysl_i (F := fun a => zhi n px py s a n) (yB_no hq0) n hP
    rw [if_pos hq.1] at e1 e2
    have e3 := yct_i (P := yB n px py c0 e) (P' := fun a => yB n px py c0 e a ∨ a = e) (yB_no he) n (fun a _ => Iff.rfl)
    rw [if_pos hs.1.1] at e3
    have e4 := yct_le (P := fun a => yB n px py c0 e a ∨ a = e) (P' := yO n px py) n (fun a _ z => z.elim (fun w => w.1) (fun w => by rw [w]; exact hs.1))
    have hl := zlf_b hB h0.1 hq.1 hs.1.1
    have l1 := (ylf hB hq.1 hs.1.1 h0.1).2
    have l2 : 0 < yC px py c0 q e := by
      have := yL5 hB hq hs h0 (fun z => hq0 z.symm) (fun z => he z.symm)
      rw [← yC_r] at this
      exact this
    have l3 : ygcr (yx px c0) (yx py c0) q e = yC px py c0 q e := rfl
    have hl2 := hl.2
    unfold zl at hl2
    have c8 := yct_n (P := yB n px py c0 q) n
    have sb : zl sum 260715693238122496 := by unfold zl; omega
    have ad := (zl_add sb hl.2 (by decide)).1
    refine ⟨he, by omega, hs.1, he, ?_, by omega, by omega, by rw [ad]; omega⟩
    rw [e1, h3]
    show _ = zsl _ n + zhi n px py s q n + zcp px py e c0
    rw [hF, yzl]
    have := yzc (px := px) (py := py) q c0
    grind
theorem y2 (hn : 2 ≤ yct (yO n px py) n) {c : Nat} (hc : yO n px py c) : ∃ k, yO n px py k ∧ k ≠ c := by
  by_cases q : ∃ k, yO n px py k ∧ k ≠ c
  · exact q
  · exfalso
    have e := yct_i (P := fun _ => False) (P' := yO n px py) (q := c) (fun z => z) n (fun a _ => ⟨fun z => Or.inr (Classical.not_not.mp (fun w => q ⟨a, z, w⟩)), fun z => z.elim False.elim (fun w => by rw [w]; exact hc)⟩)
    rw [if_pos hc.1, yct_0 n (fun a _ z => z)] at e
    omega
theorem y1 (hn : yct (yO n px py) n ≤ 1) {a b : Nat} (ha : yO n px py a) (hb : yO n px py b) : a = b := by
  by_cases q : a = b
  · exact q
  · exfalso
    have e1 := yct_i (P := fun k => k = a) (P' := fun k => k = a ∨ k = b) (q := b) (fun z => q z.symm) n (fun _ _ => Iff.rfl)
    have e2 := yct_i (P := fun _ => False) (P' := fun k => k = a) (q := a) (fun z => z) n (fun _ _ => ⟨Or.inr, fun z => z.elim False.elim id⟩)
    have e3 := yct_le (P := fun k => k = a ∨ k = b) (P' := yO n px py) n (fun k _ z => z.elim (fun w => by rw [w]; exact ha) (fun w => by rw [w]; exact hb))
    rw [if_pos hb.1] at e1
    rw [if_pos ha.1] at e2
    omega
/-- of one or two corners the sum is nothing -/
theorem yzo_2 {s : Int32} (hn : n ≤ 8) (hB : zPB n px py) (hb : ∀ a, a < n → (zbit s a ↔ yO n px py a)) (hc : yct (yO n px py) n ≤ 2) : zho n px py s n = 0 := by
  by_cases q : yct (yO n px py) n ≤ 1
  · rw [yzo]
    exact ysl_0 n (fun a ha => yzi_0 hb ha (fun b h1 h2 => y1 q h1 h2) n (Nat.le_refl _))
  · by_cases hn0 : 0 < n
    · obtain ⟨c0, h0⟩ := yO_ex hB hn0
      obtain ⟨k, hk, hk0⟩ := y2 (by omega) h0
      obtain ⟨e, hs⟩ := yL3 hB h0 hk hk0
      obtain ⟨e2, hs2, z | z⟩ := yI_s hn hB hb h0 (yI_1 hB hb h0 hs)
      · omega
      · exact z.2.2
    · exfalso
      have := yct_n (P := yO n px py) n
      omega
end yRing
/-! the bits of the outline -/
theorem yor1 : ∀ i, i < 8 → ∀ m, m < 2 ^ i → nI m ||| ((1 : Int32) <<< (nI i &&& 31)) = nI (m + 2 ^ i) ∧ m + 2 ^ i < 2 ^ (i + 1) := by decide +kernel
theorem yor2 : ∀ i, i < 8 → ∀ m, m < 2 ^ i → ∀ a, a < 8 → ((m + 2 ^ i) / 2 ^ a % 2 = 1 ↔ (m / 2 ^ a % 2 = 1 ∨ a = i)) ∧ (m / 2 ^ a % 2 = 1 → a < i) := by decide +kernel
theorem yobv {n : Nat} {px py : Nat → Int64} : ∀ i, i ≤ 8 → ∃ m, m < 2 ^ i ∧ zob n px py i = nI m ∧ ∀ a, a < 8 → (m / 2 ^ a % 2 = 1 ↔ a < i ∧ zfs px py a ∧ zao n px py a) := by
  intro i
  induction i with
  | zero => intro _; exact ⟨0, by decide, rfl, fun a ha => by rw [Nat.zero_div]; exact ⟨fun z => absurd z (by decide), fun z => absurd z.1 (by omega)⟩⟩
  | succ i ih =>
    intro hi
    obtain ⟨m, h1, h2, h3⟩ := ih (by omega)
    show ∃ m', m' < 2 ^ (i + 1) ∧ @ite Int32 (zfs px py i ∧ zao n px py i) (Classical.propDecidable _) (zob n px py i ||| ((1 : Int32) <<< (nI i &&& 31))) (zob n px py i) = nI m' ∧ _
    by_cases c : zfs px py i ∧ zao n px py i
    · refine ⟨m + 2 ^ i, (yor1 i (by omega) m h1).2, by rw [if_pos c, h2]; exact (yor1 i (by omega) m h1).1, fun a ha => ?_⟩
      rw [(yor2 i (by omega) m h1 a ha).1, h3 a ha]
      constructor
      · rintro (q | rfl)
        · exact ⟨by omega, q.2⟩
        · exact ⟨by omega, c⟩
      · rintro ⟨q1, q2⟩
        rcases (show a < i ∨ a = i by omega) with w | w
        · exact Or.inl ⟨w, q2⟩
        · exact Or.inr w
    · refine ⟨m, by rw [Nat.pow_succ]; omega, by rw [if_neg c, h2], fun a ha => ?_⟩
      rw [h3 a ha]
      constructor
      · rintro ⟨q1, q2⟩; exact ⟨by omega, q2⟩
      · rintro ⟨q1, q2⟩
        rcases (show a < i ∨ a = i by omega) with w | w
        · exact ⟨w, q2⟩
        · subst w; exact absurd q2 c
theorem ypcc {m : Nat} {P : Nat → Prop} : ∀ k, (∀ a, a < k → (m / 2 ^ a % 2 = 1 ↔ P a)) → zpc m k = yct P k := by
  intro k
  induction k with
  | zero => intro _; rfl
  | succ k ih =>
    intro h
    show zpc m k + m / 2 ^ k % 2 = yct P k + @ite Nat (P k) (Classical.propDecidable _) 1 0
    rw [ih (fun a ha => h a (by omega))]
    have hk := h k (by omega)
    by_cases c : P k
    · rw [if_pos c, hk.mpr c]
    · rw [if_neg c]
      have := mt hk.mp c
      omega
/-- all that the calls need of the outline's bits -/
theorem yobS {n : Nat} {px py : Nat → Int64} (hn : n ≤ 8) : ∃ m, m < 256 ∧ zob n px py n = nI m ∧ (∀ a, a < n → (m / 2 ^ a % 2 = 1 ↔ yO n px py a)) ∧ (∀ a, a < n → (zbit (nI m) a ↔ yO n px py a)) ∧ zpc m 8 = yct (yO n px py) n := by
  obtain ⟨m, h1, h2, h3⟩ := yobv (n := n) (px := px) (py := py) n hn
  have hp : 2 ^ n ≤ 256 := Nat.pow_le_pow_right (by decide) hn
  have h4 : ∀ a, a < n → (m / 2 ^ a % 2 = 1 ↔ yO n px py a) := fun a ha => h3 a (by omega)
  refine ⟨m, by omega, h2, h4, fun a ha => ?_, ?_⟩
  · rw [← h4 a ha]
    unfold zbit
    rw [zbt1 m (by omega) a (by omega)]
    rcases (show m / 2 ^ a % 2 = 0 ∨ m / 2 ^ a % 2 = 1 by omega) with q | q
    · rw [q]; exact ⟨fun z => absurd z (by decide), fun z => absurd z (by decide)⟩
    · rw [q]; exact ⟨fun _ => rfl, fun _ => rfl⟩
  · rw [zbt3 n (by omega) m h1]
    exact ypcc n h4
