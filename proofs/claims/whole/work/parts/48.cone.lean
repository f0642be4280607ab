/-! points about one point, as whole numbers: cross and dot products -/
def ygcr (x y : Nat → Int) (j k : Nat) : Int := x j * y k - y j * x k
def ygdt (x y : Nat → Int) (j k : Nat) : Int := x j * x k + y j * y k
def ygN (x y : Nat → Int) (k : Nat) : Prop := ¬ (x k = 0 ∧ y k = 0)
def ygH (x y : Nat → Int) (i k : Nat) : Prop := ¬ ygN x y k ∨ 0 < ygcr x y i k ∨ (ygcr x y i k = 0 ∧ 0 < ygdt x y i k)
def ygS (x y : Nat → Int) (a b : Nat) : Prop := ygN x y a ∧ ygN x y b ∧ ygcr x y a b = 0 ∧ ygdt x y a b ≤ 0
def ygT (x y : Nat → Int) (a b d : Nat) : Prop := ygN x y a ∧ ygN x y b ∧ ygN x y d ∧ ygcr x y a b + ygcr x y b d + ygcr x y d a ≠ 0 ∧ ((0 ≤ ygcr x y a b ∧ 0 ≤ ygcr x y b d ∧ 0 ≤ ygcr x y d a) ∨ (ygcr x y a b ≤ 0 ∧ ygcr x y b d ≤ 0 ∧ ygcr x y d a ≤ 0))
/-- covered: between two, or among three -/
def ygC (x y : Nat → Int) (n : Nat) : Prop := (∃ a b, a < n ∧ b < n ∧ ygS x y a b) ∨ ∃ a b d, a < n ∧ b < n ∧ d < n ∧ ygT x y a b d
theorem ysq (a : Int) : 0 ≤ a * a := by rcases Int.le_total 0 a with q | q; exact Int.mul_nonneg q q; exact Int.mul_nonneg_of_nonpos_of_nonpos q q
theorem ypos {a b : Int} (h : ¬ (a = 0 ∧ b = 0)) : 0 < a * a + b * b := by
  have h1 := ysq a
  have h2 := ysq b
  by_cases c : a * a + b * b = 0
  · exact absurd (zsq0 c) h
  · omega
theorem yaux {α f g : Int} (hα : 0 ≤ α) (h : α * f = 0) (hf : f = 0 → 0 < g) : 0 ≤ α * g ∧ (α * g = 0 → α = 0) := by
  rcases Int.mul_eq_zero.mp h with q | q
  · rw [q]; exact ⟨by rw [Int.zero_mul]; omega, fun _ => rfl⟩
  · have hg := hf q
    refine ⟨Int.mul_nonneg hα (by omega), fun z => ?_⟩
    rcases Int.mul_eq_zero.mp z with w | w
    · exact w
    · omega
theorem ylin3 {α β γ fa fb fd ga gb gd : Int} (hα : 0 ≤ α) (hβ : 0 ≤ β) (hγ : 0 ≤ γ) (a1 : 0 ≤ fa) (b1 : 0 ≤ fb) (d1 : 0 ≤ fd) (a2 : fa = 0 → 0 < ga) (b2 : fb = 0 → 0 < gb) (d2 : fd = 0 → 0 < gd) (e1 : α * fa + β * fb + γ * fd = 0) (e2 : α * ga + β * gb + γ * gd = 0) : α = 0 ∧ β = 0 ∧ γ = 0 := by
  have p1 := Int.mul_nonneg hα a1
  have p2 := Int.mul_nonneg hβ b1
  have p3 := Int.mul_nonneg hγ d1
  have q1 := yaux hα (show α * fa = 0 by omega) a2
  have q2 := yaux hβ (show β * fb = 0 by omega) b2
  have q3 := yaux hγ (show γ * fd = 0 by omega) d2
  exact ⟨q1.2 (by omega), q2.2 (by omega), q3.2 (by omega)⟩
section yCone
variable {x y : Nat → Int} {n : Nat}
theorem ycr_a (j k : Nat) : ygcr x y j k = - ygcr x y k j := by unfold ygcr; grind
theorem ycr_s (j : Nat) : ygcr x y j j = 0 := by unfold ygcr; grind
theorem ydt_c (j k : Nat) : ygdt x y j k = ygdt x y k j := by unfold ygdt; grind
theorem ydt_p {j : Nat} (h : ygN x y j) : 0 < ygdt x y j j := ypos h
theorem yS_c {a b : Nat} (h : ygS x y a b) : ygS x y b a := ⟨h.2.1, h.1, by rw [ycr_a]; have := h.2.2.1; omega, by rw [ydt_c]; exact h.2.2.2⟩
theorem yS_ne {a b : Nat} (h : ygS x y a b) : a ≠ b := fun q => by
  subst q
  have := ydt_p h.1
  have := h.2.2.2
  omega
theorem yT_r {a b d : Nat} (h : ygT x y a b d) : ygT x y b d a := by
  obtain ⟨h1, h2, h3, h4, h5⟩ := h
  exact ⟨h2, h3, h1, by omega, by omega⟩
theorem yT_f {a b d : Nat} (h : ygT x y a b d) : ygT x y b a d := by
  obtain ⟨h1, h2, h3, h4, h5⟩ := h
  have e1 := ycr_a (x := x) (y := y) a b
  have e2 := ycr_a (x := x) (y := y) b d
  have e3 := ycr_a (x := x) (y := y) d a
  exact ⟨h2, h1, h3, by omega, by omega⟩
theorem yT_ne {a b d : Nat} (h : ygT x y a b d) : a ≠ b := fun q => by
  subst q
  have e1 := ycr_s (x := x) (y := y) a
  have e2 := ycr_a (x := x) (y := y) a d
  have := h.2.2.2.1
  omega
/-- with the three in order -/
theorem yT_o {a b d : Nat} (h : ygT x y a b d) : ∃ a' b' d', b' < a' ∧ d' < b' ∧ (a' = a ∨ a' = b ∨ a' = d) ∧ ygT x y a' b' d' := by
  have n1 := yT_ne h
  have n2 := yT_ne (yT_r h)
  have n3 := yT_ne (yT_r (yT_r h))
  rcases (show (b < a ∧ d < b) ∨ (d < a ∧ b < d) ∨ (a < b ∧ d < a) ∨ (d < b ∧ a < d) ∨ (a < d ∧ b < a) ∨ (b < d ∧ a < b) by omega) with ⟨q1, q2⟩ | ⟨q1, q2⟩ | ⟨q1, q2⟩ | ⟨q1, q2⟩ | ⟨q1, q2⟩ | ⟨q1, q2⟩
  · exact ⟨a, b, d, q1, q2, by omega, h⟩
  · exact ⟨a, d, b, q1, q2, by omega, yT_f (yT_r (yT_r h))⟩
  · exact ⟨b, a, d, q1, q2, by omega, yT_f h⟩
  · exact ⟨b, d, a, q1, q2, by omega, yT_r h⟩
  · exact ⟨d, a, b, q1, q2, by omega, yT_r (yT_r h)⟩
  · exact ⟨d, b, a, q1, q2, by omega, yT_f (yT_r h)⟩
/-- in order: what the reference looks at -/
theorem yC_o : ygC x y n ↔ ∃ a, a < n ∧ ∃ b, b < a ∧ (ygS x y a b ∨ ∃ d, d < b ∧ ygT x y a b d) := by
  constructor
  · rintro (⟨a, b, ha, hb, h⟩ | ⟨a, b, d, ha, hb, hd, h⟩)
    · have := yS_ne h
      rcases (show b < a ∨ a < b by omega) with q | q
      · exact ⟨a, ha, b, q, Or.inl h⟩
      · exact ⟨b, hb, a, q, Or.inl (yS_c h)⟩
    · obtain ⟨a', b', d', h1, h2, h3, h4⟩ := yT_o h
      exact ⟨a', by omega, b', h1, Or.inr ⟨d', h2, h4⟩⟩
  · rintro ⟨a, ha, b, hb, h | ⟨d, hd, h⟩⟩
    · exact Or.inl ⟨a, b, ha, by omega, h⟩
    · exact Or.inr ⟨a, b, d, ha, by omega, by omega, h⟩
/-- all in one cone: not covered -/
theorem yL1 (u v s : Int) (hk : ∀ k, k < n → ygN x y k → 0 ≤ s * (u * y k - v * x k) ∧ (s * (u * y k - v * x k) = 0 → 0 < u * x k + v * y k)) : ¬ ygC x y n := by
  rintro (⟨a, b, ha, hb, na, nb, h1, h2⟩ | ⟨a, b, d, ha, hb, hd, na, nb, nd, h1, h2⟩)
  · have pa := hk a ha na
    have pb := hk b hb nb
    have p := ydt_p nb
    have e1 : ygdt x y b b * (s * (u * y a - v * x a)) + (- ygdt x y a b) * (s * (u * y b - v * x b)) + 0 * (s * (u * y a - v * x a)) = - ygcr x y a b * (s * (u * x b + v * y b)) := by unfold ygdt ygcr; grind
    have e2 : ygdt x y b b * (u * x a + v * y a) + (- ygdt x y a b) * (u * x b + v * y b) + 0 * (u * x a + v * y a) = ygcr x y a b * (u * y b - v * x b) := by unfold ygdt ygcr; grind
    have := ylin3 (show 0 ≤ ygdt x y b b by omega) (show 0 ≤ - ygdt x y a b by omega) (Int.le_refl 0) pa.1 pb.1 pa.1 pa.2 pb.2 pa.2 (e1.trans (by rw [h1]; simp)) (e2.trans (by rw [h1]; simp))
    omega
  · have pa := hk a ha na
    have pb := hk b hb nb
    have pd := hk d hd nd
    have e1 : ygcr x y b d * (s * (u * y a - v * x a)) + ygcr x y d a * (s * (u * y b - v * x b)) + ygcr x y a b * (s * (u * y d - v * x d)) = 0 := by unfold ygcr; grind
    have e2 : ygcr x y b d * (u * x a + v * y a) + ygcr x y d a * (u * x b + v * y b) + ygcr x y a b * (u * x d + v * y d) = 0 := by unfold ygcr; grind
    rcases h2 with ⟨q1, q2, q3⟩ | ⟨q1, q2, q3⟩
    · have := ylin3 q2 q3 q1 pa.1 pb.1 pd.1 pa.2 pb.2 pd.2 e1 e2
      omega
    · have e1' : (- ygcr x y b d) * (s * (u * y a - v * x a)) + (- ygcr x y d a) * (s * (u * y b - v * x b)) + (- ygcr x y a b) * (s * (u * y d - v * x d)) = 0 := by
        rw [Int.neg_mul, Int.neg_mul, Int.neg_mul]; omega
      have e2' : (- ygcr x y b d) * (u * x a + v * y a) + (- ygcr x y d a) * (u * x b + v * y b) + (- ygcr x y a b) * (u * x d + v * y d) = 0 := by
        rw [Int.neg_mul, Int.neg_mul, Int.neg_mul]; omega
      have := ylin3 (show 0 ≤ - ygcr x y b d by omega) (show 0 ≤ - ygcr x y d a by omega) (show 0 ≤ - ygcr x y a b by omega) pa.1 pb.1 pd.1 pa.2 pb.2 pd.2 e1' e2'
      omega
/-- k on the ray of i: crossing n alike -/
theorem yray {i k j : Nat} (hi : ygN x y i) (h1 : ygcr x y i k = 0) (h2 : 0 < ygdt x y i k) : (0 < ygcr x y j i → 0 < ygcr x y j k) ∧ (ygcr x y j i = 0 → ygcr x y j k = 0) ∧ (ygcr x y j i < 0 → ygcr x y j k < 0) := by
  have p := ydt_p hi
  have e : ygdt x y i i * ygcr x y j k = ygdt x y i k * ygcr x y j i := by
    have : ygdt x y i i * ygcr x y j k - ygdt x y i k * ygcr x y j i = ygcr x y i k * ygdt x y j i := by unfold ygdt ygcr; grind
    rw [h1, Int.zero_mul] at this
    omega
  refine ⟨fun q => ?_, fun q => ?_, fun q => ?_⟩
  · have := Int.mul_pos h2 q
    rw [← e] at this
    exact Int.pos_of_mul_pos_right this (by omega)
  · rw [q, Int.mul_zero] at e
    rcases Int.mul_eq_zero.mp e with w | w
    · omega
    · exact w
  · have := Int.mul_pos h2 (show 0 < - ygcr x y j i by omega)
    rw [Int.mul_neg, ← e, ← Int.mul_neg] at this
    have := Int.pos_of_mul_pos_right this (by omega)
    omega
/-- not covered: one of them has all others to the left, or straight ahead -/
theorem yL2 : ∀ n, ¬ ygC x y n → (∀ k, k < n → ¬ ygN x y k) ∨ ∃ i, i < n ∧ ygN x y i ∧ ∀ k, k < n → ygH x y i k := by
  intro n
  induction n with
  | zero => intro _; exact Or.inl (fun k hk => absurd hk (by omega))
  | succ n ih =>
    intro hC
    have hS : ∀ a b, a < n + 1 → b < n + 1 → ¬ ygS x y a b := fun a b ha hb q => hC (Or.inl ⟨a, b, ha, hb, q⟩)
    have hT : ∀ a b d, a < n + 1 → b < n + 1 → d < n + 1 → ¬ ygT x y a b d := fun a b d ha hb hd q => hC (Or.inr ⟨a, b, d, ha, hb, hd, q⟩)
    have hC' : ¬ ygC x y n := by
      rintro (⟨a, b, ha, hb, h⟩ | ⟨a, b, d, ha, hb, hd, h⟩)
      · exact hS a b (by omega) (by omega) h
      · exact hT a b d (by omega) (by omega) (by omega) h
    have self : ∀ {i}, ygN x y i → ygH x y i i := fun q => Or.inr (Or.inr ⟨ycr_s _, ydt_p q⟩)
    by_cases nn : ygN x y n
    · right
      rcases ih hC' with q | ⟨i, hi, ni, q⟩
      · refine ⟨n, by omega, nn, fun k hk => ?_⟩
        rcases (show k < n ∨ k = n by omega) with w | rfl
        · exact Or.inl (q k w)
        · exact self nn
      · by_cases c : ygH x y i n
        · refine ⟨i, by omega, ni, fun k hk => ?_⟩
          rcases (show k < n ∨ k = n by omega) with w | rfl
          · exact q k w
          · exact c
        · have c1 : ¬ 0 < ygcr x y i n := fun z => c (Or.inr (Or.inl z))
          have c2 : ¬ (ygcr x y i n = 0 ∧ 0 < ygdt x y i n) := fun z => c (Or.inr (Or.inr z))
          have c3 : ygcr x y i n < 0 := by
            by_cases z : ygcr x y i n = 0
            · exact absurd ⟨ni, nn, z, by omega⟩ (hS i n (by omega) (by omega))
            · omega
          have a1 := ycr_a (x := x) (y := y) n i
          refine ⟨n, by omega, nn, fun k hk => ?_⟩
          rcases (show k < n ∨ k = n by omega) with w | rfl
          · by_cases nk : ygN x y k
            · rcases (show 0 < ygcr x y n k ∨ ygcr x y n k = 0 ∨ ygcr x y n k < 0 by omega) with z | z | z
              · exact Or.inr (Or.inl z)
              · refine Or.inr (Or.inr ⟨z, ?_⟩)
                by_cases y1 : 0 < ygdt x y n k
                · exact y1
                · exact absurd ⟨nn, nk, z, by omega⟩ (hS n k (by omega) (by omega))
              · exfalso
                rcases q k w with r | r | ⟨r1, r2⟩
                · exact r nk
                · have a2 := ycr_a (x := x) (y := y) n k
                  exact hT n i k (by omega) (by omega) (by omega) ⟨nn, ni, nk, by omega, by omega⟩
                · have := (yray (j := n) ni r1 r2).1 (by omega)
                  omega
            · exact Or.inl nk
          · exact self nn
    · rcases ih hC' with q | ⟨i, hi, ni, q⟩
      · left
        intro k hk
        rcases (show k < n ∨ k = n by omega) with w | rfl
        · exact q k w
        · exact nn
      · right
        refine ⟨i, by omega, ni, fun k hk => ?_⟩
        rcases (show k < n ∨ k = n by omega) with w | rfl
        · exact q k w
        · exact Or.inl nn
/-- edges and covers -/
theorem yL12 : ((∃ i, i < n ∧ ygN x y i ∧ ∀ k, k < n → ygH x y i k) ∨ ∀ k, k < n → ¬ ygN x y k) ↔ ¬ ygC x y n := by
  constructor
  · rintro (⟨i, hi, ni, h⟩ | h)
    · refine yL1 (x i) (y i) 1 (fun k hk nk => ?_)
      have e1 : 1 * (x i * y k - y i * x k) = ygcr x y i k := by rw [Int.one_mul]; rfl
      have e2 : x i * x k + y i * y k = ygdt x y i k := rfl
      rw [e1, e2]
      rcases h k hk with r | r | ⟨r1, r2⟩
      · exact absurd nk r
      · exact ⟨by omega, fun q => by omega⟩
      · exact ⟨by omega, fun _ => r2⟩
    · rintro (⟨a, b, ha, hb, na, q⟩ | ⟨a, b, d, ha, hb, hd, na, q⟩)
      · exact h a ha na
      · exact h a ha na
  · intro h
    rcases yL2 n h with q | q
    · exact Or.inr q
    · exact Or.inl q
end yCone
/-! the rows of longs, about corner c -/
def yx (p : Nat → Int64) (c k : Nat) : Int := (p k).toInt - (p c).toInt
section yBr
variable {n : Nat} {px py : Nat → Int64}
theorem yz64 : (0 : Int64).toInt = 0 := by decide
theorem ylf (h : zPB n px py) {a b c : Nat} (ha : a < n) (hb : b < n) (hc : c < n) : (zlf px py a b c).toInt = ygcr (yx px c) (yx py c) a b ∧ (zlf px py c a b).toInt = ygcr (yx px c) (yx py c) a b := by
  rw [(zlf_b h ha hb hc).1, (zlf_b h hc ha hb).1]
  unfold ygcr yx
  exact ⟨by grind, by grind⟩
theorem ysm {a c : Nat} : zsm px py a c ↔ ¬ ygN (yx px c) (yx py c) a := by
  unfold zsm ygN yx
  rw [← Int64.toInt_inj, ← Int64.toInt_inj]
  omega
theorem ysm_c {a c : Nat} : zsm px py a c ↔ zsm px py c a := ⟨fun q => ⟨q.1.symm, q.2.symm⟩, fun q => ⟨q.1.symm, q.2.symm⟩⟩
theorem ybox (a b c : Int64) : ((if b < a then b else a) ≤ c ∧ c ≤ (if b < a then a else b)) ↔ ((a.toInt ≤ c.toInt ∧ c.toInt ≤ b.toInt) ∨ (b.toInt ≤ c.toInt ∧ c.toInt ≤ a.toInt)) := by
  by_cases q : b < a
  · rw [if_pos q, if_pos q, Int64.le_iff_toInt_le, Int64.le_iff_toInt_le]
    have := Int64.lt_iff_toInt_lt.mp q
    omega
  · rw [if_neg q, if_neg q, Int64.le_iff_toInt_le, Int64.le_iff_toInt_le]
    have := mt Int64.lt_iff_toInt_lt.mpr q
    omega
theorem ybox2 (a b c : Int) : ((a ≤ c ∧ c ≤ b) ∨ (b ≤ c ∧ c ≤ a)) ↔ (a - c) * (b - c) ≤ 0 := by
  constructor
  · rintro (⟨q1, q2⟩ | ⟨q1, q2⟩)
    · exact Int.mul_nonpos_of_nonpos_of_nonneg (by omega) (by omega)
    · exact Int.mul_nonpos_of_nonneg_of_nonpos (by omega) (by omega)
  · intro q
    rcases (show ((a ≤ c ∧ c ≤ b) ∨ (b ≤ c ∧ c ≤ a)) ∨ (0 < a - c ∧ 0 < b - c) ∨ (a - c < 0 ∧ b - c < 0) by omega) with w | ⟨w1, w2⟩ | ⟨w1, w2⟩
    · exact w
    · have := Int.mul_pos w1 w2
      omega
    · have := Int.mul_pos_of_neg_of_neg w1 w2
      omega
/-- of three on a line: between means a dot product not above 0 -/
theorem ybw {a b c : Nat} (hc : ygcr (yx px c) (yx py c) a b = 0) : zbw px py a b c ↔ ygdt (yx px c) (yx py c) a b ≤ 0 := by
  have e : zbw px py a b c ↔ ((yx px c a * yx px c b ≤ 0) ∧ yx py c a * yx py c b ≤ 0) := by
    unfold zbw yx
    rw [← ybox2, ← ybox2, ← ybox, ← ybox]
    exact ⟨fun q => ⟨⟨q.1, q.2.1⟩, q.2.2⟩, fun q => ⟨q.1.1, q.1.2, q.2⟩⟩
  rw [e]
  unfold ygcr at hc
  unfold ygdt
  generalize yx px c a = p at *
  generalize yx py c a = q at *
  generalize yx px c b = r at *
  generalize yx py c b = s at *
  have h1 : (p * r) * (q * s) = (q * r) * (q * r) := by
    have h2 : p * s = q * r := by omega
    have : (p * r) * (q * s) = (p * s) * (q * r) := by grind
    rw [this, h2]
  have h3 := ysq (q * r)
  rw [← h1] at h3
  generalize p * r = X at *
  generalize q * s = Y at *
  constructor
  · rintro ⟨w1, w2⟩; omega
  · intro w
    rcases (show (X ≤ 0 ∧ Y ≤ 0) ∨ (0 < X ∧ Y < 0) ∨ (X < 0 ∧ 0 < Y) by omega) with z | ⟨z1, z2⟩ | ⟨z1, z2⟩
    · exact z
    · have := Int.mul_neg_of_pos_of_neg z1 z2
      omega
    · have := Int.mul_neg_of_neg_of_pos z1 z2
      omega
theorem yt0 {v : Int64} : v = 0 ↔ v.toInt = 0 := by rw [← Int64.toInt_inj, yz64]
theorem ytp {v : Int64} : 0 < v ↔ 0 < v.toInt := by rw [Int64.lt_iff_toInt_lt, yz64]
theorem ysgn (v : Int64) : (0 ≤ zsgn v ↔ 0 ≤ v.toInt) ∧ (zsgn v ≤ 0 ↔ v.toInt ≤ 0) := by
  unfold zsgn
  by_cases q : 0 < v
  · have := ytp.mp q
    rw [if_pos q]
    exact ⟨⟨fun _ => by omega, fun _ => by decide⟩, ⟨fun w => absurd w (by decide), fun w => by omega⟩⟩
  · have h1 := mt ytp.mpr q
    rw [if_neg q]
    by_cases c : v < 0
    · have := Int64.lt_iff_toInt_lt.mp c
      rw [yz64] at this
      rw [if_pos c]
      exact ⟨⟨fun w => absurd w (by decide), fun w => by omega⟩, ⟨fun _ => by omega, fun _ => by decide⟩⟩
    · have := mt Int64.lt_iff_toInt_lt.mpr c
      rw [yz64] at this
      rw [if_neg c]
      exact ⟨⟨fun _ => by omega, fun _ => by decide⟩, ⟨fun _ => by omega, fun _ => by decide⟩⟩
theorem yed (h : zPB n px py) {c i k : Nat} (hc : c < n) (hi : i < n) (hk : k < n) : zed px py c i k ↔ ygH (yx px c) (yx py c) i k := by
  have e := (ylf h hi hk hc).2
  unfold zed ygH
  rw [ytp, yt0, e, ysm_c, ysm]
  by_cases z : ygcr (yx px c) (yx py c) i k = 0
  · rw [ybw z, Int.not_le]
  · exact ⟨fun q => by rcases q with q | q | ⟨q, -⟩; exact Or.inl q; exact Or.inr (Or.inl q); exact absurd q z, fun q => by rcases q with q | q | ⟨q, -⟩; exact Or.inl q; exact Or.inr (Or.inl q); exact absurd q z⟩
theorem ycv (h : zPB n px py) {c : Nat} (hc : c < n) : zcv n px py c ↔ ygC (yx px c) (yx py c) n := by
  rw [yC_o]
  have eS : ∀ a b, a < n → b < n → ((¬ zsm px py a c ∧ ¬ zsm px py b c ∧ (zlf px py a b c = 0 ∧ zbw px py a b c)) ↔ ygS (yx px c) (yx py c) a b) := by
    intro a b ha hb
    unfold ygS
    rw [ysm, ysm, Classical.not_not, Classical.not_not, yt0, (ylf h ha hb hc).1]
    by_cases z : ygcr (yx px c) (yx py c) a b = 0
    · rw [ybw z]
    · exact ⟨fun q => absurd q.2.2.1 z, fun q => absurd q.2.2.1 z⟩
  have eT : ∀ a b d, a < n → b < n → d < n → ((¬ zsm px py a c ∧ ¬ zsm px py b c ∧ ¬ zsm px py d c ∧ zwi px py c a b d) ↔ ygT (yx px c) (yx py c) a b d) := by
    intro a b d ha hb hd
    have e4 : (zlf px py a b d).toInt = ygcr (yx px c) (yx py c) a b + ygcr (yx px c) (yx py c) b d + ygcr (yx px c) (yx py c) d a := by
      rw [(zlf_b h ha hb hd).1]; unfold ygcr yx; grind
    unfold ygT zwi
    rw [ysm, ysm, ysm, Classical.not_not, Classical.not_not, Classical.not_not, (ysgn _).1, (ysgn _).1, (ysgn _).1, (ysgn _).2, (ysgn _).2, (ysgn _).2, (ylf h ha hb hc).1, (ylf h hb hd hc).1, (ylf h hd ha hc).1, Ne, yt0, e4]
  unfold zcv zcv2
  constructor
  · rintro ⟨a, ha, b, hb, n1, n2, q | ⟨d, hd, n3, q⟩⟩
    · exact ⟨a, ha, b, hb, Or.inl ((eS a b ha (by omega)).mp ⟨n1, n2, q⟩)⟩
    · exact ⟨a, ha, b, hb, Or.inr ⟨d, hd, (eT a b d ha (by omega) (by omega)).mp ⟨n1, n2, n3, q⟩⟩⟩
  · rintro ⟨a, ha, b, hb, q | ⟨d, hd, q⟩⟩
    · obtain ⟨n1, n2, r⟩ := (eS a b ha (by omega)).mpr q
      exact ⟨a, ha, b, hb, n1, n2, Or.inl r⟩
    · obtain ⟨n1, n2, n3, r⟩ := (eT a b d ha (by omega) (by omega)).mpr q
      exact ⟨a, ha, b, hb, n1, n2, Or.inr ⟨d, hd, n3, r⟩⟩
theorem yao (h : zPB n px py) {c : Nat} (hc : c < n) : zao n px py c ↔ ¬ zcv n px py c := by
  rw [ycv h hc, ← yL12]
  unfold zao zea
  constructor
  · rintro (⟨i, hi, h1, h2⟩ | q)
    · exact Or.inl ⟨i, hi, Classical.not_not.mp (fun z => h1 (ysm_c.mp (ysm.mpr z))), fun k hk => (yed h hc hi hk).mp (h2 k hk)⟩
    · exact Or.inr (fun k hk => ysm.mp (ysm_c.mp (q k hk)))
  · rintro (⟨i, hi, h1, h2⟩ | q)
    · exact Or.inl ⟨i, hi, fun z => ysm.mp (ysm_c.mp z) h1, fun k hk => (yed h hc hi hk).mpr (h2 k hk)⟩
    · exact Or.inr (fun k hk => ysm_c.mp (ysm.mpr (q k hk)))
theorem yob (h : zPB n px py) : ∀ i, i ≤ n → zob n px py i = zobm n px py i := by
  intro i
  induction i with
  | zero => intro _; rfl
  | succ i ih =>
    intro hi
    have e : (zfs px py i ∧ zao n px py i) = (zfs px py i ∧ ¬ zcv n px py i) := by rw [yao h (by omega)]
    show @ite Int32 (zfs px py i ∧ zao n px py i) (Classical.propDecidable _) _ _ = @ite Int32 (zfs px py i ∧ ¬ zcv n px py i) (Classical.propDecidable _) _ _
    rw [ih (by omega)]
    by_cases c : zfs px py i ∧ zao n px py i
    · rw [if_pos c, if_pos (e ▸ c)]
    · rw [if_neg c, if_neg (e ▸ c)]
end yBr
