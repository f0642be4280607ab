/-! the outline's corners, one behind the other -/
theorem ymax {P : Nat → Prop} {g : Nat → Int} : ∀ n, (∃ k, k < n ∧ P k) → ∃ e, e < n ∧ P e ∧ ∀ k, k < n → P k → g k ≤ g e := by
  intro n
  induction n with
  | zero => rintro ⟨k, hk, -⟩; omega
  | succ n ih =>
    intro hex
    by_cases c : ∃ k, k < n ∧ P k
    · obtain ⟨e, h1, h2, h3⟩ := ih c
      by_cases d : P n ∧ g e < g n
      · refine ⟨n, by omega, d.1, fun k hk pk => ?_⟩
        rcases (show k < n ∨ k = n by omega) with w | rfl
        · have := h3 k w pk; omega
        · omega
      · refine ⟨e, by omega, h2, fun k hk pk => ?_⟩
        rcases (show k < n ∨ k = n by omega) with w | rfl
        · exact h3 k w pk
        · by_cases z : g e < g k
          · exact absurd ⟨pk, z⟩ d
          · omega
    · obtain ⟨k, hk, pk⟩ := hex
      have : k = n := by
        by_cases z : k < n
        · exact absurd ⟨k, z, pk⟩ c
        · omega
      subst this
      refine ⟨k, hk, pk, fun j hj pj => ?_⟩
      rcases (show j < k ∨ j = k by omega) with w | rfl
      · exact absurd ⟨j, w, pj⟩ c
      · omega
theorem yleast {P : Nat → Prop} : ∀ m c, c < m → P c → ∃ e, e ≤ c ∧ P e ∧ ∀ k, k < e → ¬ P k := by
  intro m
  induction m with
  | zero => intro c hc; omega
  | succ m ih =>
    intro c hc pc
    by_cases z : ∃ k, k < c ∧ P k
    · obtain ⟨k, hk, pk⟩ := z
      obtain ⟨e, h1, h2, h3⟩ := ih k (by omega) pk
      exact ⟨e, by omega, h2, h3⟩
    · exact ⟨c, Nat.le_refl _, pc, fun k hk pk => z ⟨k, hk, pk⟩⟩
section yHull
variable {n : Nat} {px py : Nat → Int64}
def yO (n : Nat) (px py : Nat → Int64) (c : Nat) : Prop := c < n ∧ zfs px py c ∧ zao n px py c
def yC (px py : Nat → Int64) (c a b : Nat) : Int := ygcr (yx px c) (yx py c) a b
def yD (px py : Nat → Int64) (c a b : Nat) : Int := ygdt (yx px c) (yx py c) a b
def yN (px py : Nat → Int64) (c a : Nat) : Prop := ygN (yx px c) (yx py c) a
theorem yC_r (c a b : Nat) : yC px py c a b = yC px py a b c := by unfold yC ygcr yx; grind
theorem yC_a (c a b : Nat) : yC px py c a b = - yC px py c b a := ycr_a _ _
theorem yC_s (c a : Nat) : yC px py c a a = 0 := ycr_s _
theorem yC_s1 (c a : Nat) : yC px py c c a = 0 := by unfold yC ygcr yx; grind
theorem yD_e (c e k : Nat) : yD px py e c k = yD px py c e e - yD px py c e k := by unfold yD ygdt yx; grind
theorem yD_k (c e k : Nat) : yD px py e k k = yD px py c k k - 2 * yD px py c e k + yD px py c e e := by unfold yD ygdt yx; grind
theorem yLag (c e k : Nat) : yD px py c e e * yD px py c k k = yD px py c e k * yD px py c e k + yC px py c e k * yC px py c e k := by unfold yD yC ygdt ygcr; grind
theorem yLag2 (c i e k : Nat) : yD px py c i i * yD px py c e k = yD px py c i e * yD px py c i k + yC px py c i e * yC px py c i k := by unfold yD yC ygdt ygcr; grind
theorem yN_ne {c a b : Nat} (h : yO n px py a) (h' : yO n px py b) (hne : a ≠ b) : yN px py a b := by
  intro q
  have hs : zsm px py b a := ysm.mpr (fun z => z q)
  rcases (show a < b ∨ b < a by omega) with w | w
  · exact h'.2.1 a w (ysm_c.mp hs)
  · exact h.2.1 b w hs
theorem yO_C (hB : zPB n px py) {c : Nat} (h : yO n px py c) : ¬ ygC (yx px c) (yx py c) n := fun q => (yao hB h.1).mp h.2.2 ((ycv hB h.1).mpr q)
theorem yO_of (hB : zPB n px py) {c : Nat} (hc : c < n) (h1 : zfs px py c) (h2 : ¬ ygC (yx px c) (yx py c) n) : yO n px py c := ⟨hc, h1, (yao hB hc).mpr (fun q => h2 ((ycv hB hc).mp q))⟩
/-- of three of the outline's corners none are on a line -/
theorem yL7 (hB : zPB n px py) {c a e : Nat} (hc : yO n px py c) (ha : yO n px py a) (he : yO n px py e) (h1 : c ≠ a) (h2 : c ≠ e) (h3 : a ≠ e) : yC px py c a e ≠ 0 := by
  intro q
  have nca := yN_ne (c := c) hc ha h1
  have nce := yN_ne (c := c) hc he h2
  have nac := yN_ne (c := c) ha hc (fun z => h1 z.symm)
  have nae := yN_ne (c := c) ha he h3
  have nec := yN_ne (c := c) he hc (fun z => h2 z.symm)
  have nea := yN_ne (c := c) he ha (fun z => h3 z.symm)
  by_cases d : yD px py c a e ≤ 0
  · exact yO_C hB hc (Or.inl ⟨a, e, ha.1, he.1, nca, nce, q, d⟩)
  · have L := yLag (px := px) (py := py) c a e
    rw [q, Int.mul_zero, Int.add_zero] at L
    have d1 := yD_e (px := px) (py := py) c a e
    have d2 := yD_e (px := px) (py := py) c e a
    have ds : yD px py c e a = yD px py c a e := ydt_c _ _
    have pe : 0 < yD px py c e e := ydt_p nce
    have c1 : yC px py a c e = 0 := by rw [yC_a, ← yC_r, q]; rfl
    have c2 : yC px py e c a = 0 := by rw [yC_r]; exact q
    rcases (show yD px py a c e ≤ 0 ∨ yD px py e c a ≤ 0 ∨ (0 < yD px py c a a - yD px py c a e ∧ 0 < yD px py c e e - yD px py c a e) by omega) with w | w | ⟨w1, w2⟩
    · exact yO_C hB ha (Or.inl ⟨c, e, hc.1, he.1, nac, nae, c1, w⟩)
    · exact yO_C hB he (Or.inl ⟨c, a, hc.1, ha.1, nec, nea, c2, w⟩)
    · have m1 := Int.mul_pos w1 pe
      have m2 := Int.mul_pos (show 0 < yD px py c a e by omega) w2
      rw [Int.sub_mul] at m1
      rw [Int.mul_sub] at m2
      omega
/-- no corner of the outline is strictly among three others -/
theorem yLin (hB : zPB n px py) {c a b d : Nat} (hc : yO n px py c) (ha : a < n) (hb : b < n) (hd : d < n) (h1 : 0 < yC px py c a b) (h2 : 0 < yC px py c b d) (h3 : 0 < yC px py c d a) : False := by
  have nz : ∀ {i j}, 0 < yC px py c i j → yN px py c i := fun {i j} q z => by
    unfold yC ygcr at q
    rw [z.1, z.2, Int.zero_mul, Int.zero_mul] at q
    omega
  refine yO_C hB hc (Or.inr ⟨a, b, d, ha, hb, hd, nz h1, nz h2, nz h3, ?_, Or.inl ⟨by unfold yC at h1; omega, by unfold yC at h2; omega, by unfold yC at h3; omega⟩⟩)
  unfold yC at h1 h2 h3
  omega
/-- e is the next one behind c -/
def ySc (n : Nat) (px py : Nat → Int64) (c e : Nat) : Prop := yO n px py e ∧ e ≠ c ∧ ∀ k, k < n → ygH (yx px c) (yx py c) e k
theorem yL5 (hB : zPB n px py) {c e k : Nat} (hc : yO n px py c) (hs : ySc n px py c e) (hk : yO n px py k) (h1 : k ≠ c) (h2 : k ≠ e) : 0 < yC px py c e k := by
  rcases hs.2.2 k hk.1 with q | q | q
  · exact absurd (yN_ne (c := c) hc hk (fun z => h1 z.symm)) q
  · exact q
  · exact absurd q.1 (yL7 hB hc hs.1 hk (fun z => hs.2.1 z.symm) (fun z => h1 z.symm) (fun z => h2 z.symm))
theorem ySc_1 (hB : zPB n px py) {c e e' : Nat} (hc : yO n px py c) (h : ySc n px py c e) (h' : ySc n px py c e') : e = e' := by
  by_cases q : e = e'
  · exact q
  · have a1 := yL5 hB hc h h'.1 h'.2.1 (fun z => q z.symm)
    have a2 := yL5 hB hc h' h.1 h.2.1 q
    have a3 := yC_a (px := px) (py := py) c e e'
    omega
theorem yfirst : ∀ m e0, e0 < m → ∃ e, e ≤ e0 ∧ zsm px py e e0 ∧ zfs px py e := by
  intro m
  induction m with
  | zero => intro e0 h; omega
  | succ m ih =>
    intro e0 h
    by_cases c : zfs px py e0
    · exact ⟨e0, Nat.le_refl _, ⟨rfl, rfl⟩, c⟩
    · obtain ⟨i, hi⟩ := Classical.not_forall.mp c
      obtain ⟨h1, h2⟩ := Classical.not_imp.mp hi
      have h2 := Classical.not_not.mp h2
      obtain ⟨e, a, b, d⟩ := ih i (by omega)
      exact ⟨e, by omega, ⟨b.1.trans h2.1, b.2.trans h2.2⟩, d⟩
/-- a next one there is -/
theorem yL3 (hB : zPB n px py) {c k0 : Nat} (hc : yO n px py c) (hk0 : yO n px py k0) (hne : k0 ≠ c) : ∃ e, ySc n px py c e := by
  rcases yL2 n (yO_C hB hc) with q | ⟨i, hi, ni, hH⟩
  · exact absurd (yN_ne (c := c) hc hk0 (fun z => hne z.symm)) (q k0 hk0.1)
  · obtain ⟨e0, he0, ⟨pe1, pe2⟩, hm⟩ := ymax (P := fun k => yN px py c k ∧ yC px py c i k = 0) (g := fun k => yD px py c i k) n ⟨i, hi, ni, ycr_s _⟩
    obtain ⟨e, le, se, fe⟩ := yfirst (px := px) (py := py) (e0 + 1) e0 (by omega)
    have x1 : ∀ z, yx px z e = yx px z e0 := fun z => by unfold yx; rw [se.1]
    have x2 : ∀ z, yx py z e = yx py z e0 := fun z => by unfold yx; rw [se.2]
    have hen : e < n := by omega
    have ne : yN px py c e := by intro z; exact pe1 (by rw [← x1, ← x2]; exact z)
    have ce : yC px py c i e = 0 := by rw [← pe2]; unfold yC ygcr; rw [x1, x2]
    have me : ∀ k, k < n → yN px py c k → yC px py c i k = 0 → yD px py c i k ≤ yD px py c i e := fun k hk a b => by
      have := hm k hk ⟨a, b⟩
      have e9 : yD px py c i e = yD px py c i e0 := by unfold yD ygdt; rw [x1, x2]
      omega
    have de : 0 < yD px py c i e := by
      rcases hH e hen with q | q | q
      · exact absurd ne q
      · exact absurd ce (by unfold yC; omega)
      · exact q.2
    have ce' : yC px py c e i = 0 := by rw [yC_a, ce]; rfl
    have de' : 0 < yD px py c e i := by
      have : yD px py c e i = yD px py c i e := ydt_c _ _
      omega
    have ii : 0 < yD px py c i i := ydt_p ni
    have ee : 0 < yD px py c e e := ydt_p ne
    have hHe : ∀ k, k < n → ygH (yx px c) (yx py c) e k := by
      intro k hk
      rcases hH k hk with q | q | q
      · exact Or.inl q
      · right; left
        have r := (yray (j := k) ni (k := e) ce de).2.2
        have a1 := yC_a (px := px) (py := py) c i k
        have a2 := yC_a (px := px) (py := py) c e k
        unfold yC at a1 a2
        have := r (by omega)
        omega
      · right; right
        have r := (yray (j := k) ni (k := e) ce de).2.1
        have a1 := yC_a (px := px) (py := py) c i k
        have a2 := yC_a (px := px) (py := py) c e k
        unfold yC at a1 a2
        refine ⟨by have := r (by omega); omega, ?_⟩
        have L := yLag2 (px := px) (py := py) c i e k
        rw [ce, Int.zero_mul, Int.add_zero] at L
        have := Int.mul_pos de q.2
        unfold yD at L this ii
        rw [← L] at this
        exact Int.pos_of_mul_pos_right this (by omega)
    refine ⟨e, yO_of hB hen fe ?_, ?_, hHe⟩
    · refine yL1 (yx px e c) (yx py e c) (-1) (fun k hk nk => ?_)
      have e1 : -1 * (yx px e c * yx py e k - yx py e c * yx px e k) = yC px py c e k := by
        rw [yC_r, yC_a]; unfold yC ygcr; grind
      have e2 : yx px e c * yx px e k + yx py e c * yx py e k = yD px py c e e - yD px py c e k := by rw [← yD_e]; rfl
      rw [e1, e2]
      rcases hHe k hk with q | q | q
      · have q := Classical.not_not.mp q
        have z1 : yC px py c e k = 0 := by unfold yC ygcr; rw [q.1, q.2, Int.mul_zero, Int.mul_zero]; rfl
        have z2 : yD px py c e k = 0 := by unfold yD ygdt; rw [q.1, q.2, Int.mul_zero, Int.mul_zero]; rfl
        exact ⟨by omega, fun _ => by omega⟩
      · have q : 0 < yC px py c e k := q
        exact ⟨by omega, fun z => by omega⟩
      · have q1 : yC px py c e k = 0 := q.1
        have q2 : 0 < yD px py c e k := q.2
        refine ⟨by omega, fun _ => ?_⟩
        have nck : yN px py c k := by
          intro z
          have : yD px py c e k = 0 := by unfold yD ygdt; rw [z.1, z.2, Int.mul_zero, Int.mul_zero]; rfl
          omega
        have cik : yC px py c i k = 0 := by
          have r := (yray (j := k) ne (k := i) ce' de').2.1
          have a1 := yC_a (px := px) (py := py) c i k
          have a2 := yC_a (px := px) (py := py) c e k
          unfold yC at a1 a2 q1 ⊢
          have := r (by omega)
          omega
        have M := me k hk nck cik
        have L1 := yLag2 (px := px) (py := py) c i e k
        have L2 := yLag2 (px := px) (py := py) c i e e
        rw [ce, Int.zero_mul, Int.add_zero] at L1 L2
        have m1 := Int.mul_nonneg (show 0 ≤ yD px py c i e by omega) (show 0 ≤ yD px py c i e - yD px py c i k by omega)
        rw [Int.mul_sub, ← L1, ← L2, ← Int.mul_sub] at m1
        have le1 : 0 ≤ yD px py c e e - yD px py c e k := by
          by_cases z : 0 ≤ yD px py c e e - yD px py c e k
          · exact z
          · have := Int.mul_pos ii (show 0 < -(yD px py c e e - yD px py c e k) by omega)
            rw [Int.mul_neg] at this
            omega
        by_cases z : yD px py c e e - yD px py c e k = 0
        · exfalso
          have L := yLag (px := px) (py := py) c e k
          rw [q1, Int.mul_zero, Int.add_zero, show yD px py c e k = yD px py c e e by omega] at L
          have kk : yD px py c k k = yD px py c e e := Int.eq_of_mul_eq_mul_left (by omega) L
          have p := ydt_p nk
          have := yD_k (px := px) (py := py) c e k
          unfold yD at this z kk
          omega
        · omega
    · rintro rfl
      exact ne ⟨by unfold yx; omega, by unfold yx; omega⟩
/-- one there is -/
theorem yO_ex (hB : zPB n px py) (hn : 0 < n) : ∃ c, yO n px py c := by
  obtain ⟨a, ha, -, h1⟩ := ymax (P := fun _ => True) (g := fun k => - (px k).toInt) n ⟨0, hn, trivial⟩
  obtain ⟨b, hb, h2, h3⟩ := ymax (P := fun k => (px k).toInt = (px a).toInt) (g := fun k => - (py k).toInt) n ⟨a, ha, rfl⟩
  obtain ⟨e, le, se, fe⟩ := yfirst (px := px) (py := py) (b + 1) b (by omega)
  refine ⟨e, yO_of hB (by omega) fe (yL1 0 1 (-1) (fun k hk nk => ?_))⟩
  have x1 : ∀ k, yx px e k = (px k).toInt - (px a).toInt := fun k => by unfold yx; rw [se.1, h2]
  have x2 : ∀ k, yx py e k = (py k).toInt - (py b).toInt := fun k => by unfold yx; rw [se.2]
  have g1 := h1 k hk trivial
  have g2 := h3 k hk
  have e1 : -1 * (0 * yx py e k - 1 * yx px e k) = yx px e k := by grind
  have e2 : 0 * yx px e k + 1 * yx py e k = yx py e k := by grind
  rw [e1, e2]
  refine ⟨by rw [x1]; omega, fun q => ?_⟩
  have g3 := g2 (by rw [x1] at q; omega)
  have nk : ¬ (yx px e k = 0 ∧ yx py e k = 0) := nk
  have := x2 k
  omega
end yHull
