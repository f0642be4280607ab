/-! numbers in bounds -/
def zi (x : Int32) (A : Nat) : Prop := x.toInt.natAbs ≤ A
def zl (x : Int64) (A : Nat) : Prop := x.toInt.natAbs ≤ A
theorem zi_add {x y : Int32} {A B : Nat} (hx : zi x A) (hy : zi y B) (h : A + B < 2147483648) : (x + y).toInt = x.toInt + y.toInt ∧ zi (x + y) (A + B) := by
  unfold zi at *
  have e : (x + y).toInt = x.toInt + y.toInt := by
    rw [Int32.toInt_add, Int.bmod_eq_of_le] <;> omega
  exact ⟨e, by rw [e]; omega⟩
theorem zi_sub {x y : Int32} {A B : Nat} (hx : zi x A) (hy : zi y B) (h : A + B < 2147483648) : (x - y).toInt = x.toInt - y.toInt ∧ zi (x - y) (A + B) := by
  unfold zi at *
  have e : (x - y).toInt = x.toInt - y.toInt := by
    rw [Int32.toInt_sub, Int.bmod_eq_of_le] <;> omega
  exact ⟨e, by rw [e]; omega⟩
theorem zi_mul {x y : Int32} {A B : Nat} (hx : zi x A) (hy : zi y B) (h : A * B < 2147483648) : (x * y).toInt = x.toInt * y.toInt ∧ zi (x * y) (A * B) := by
  unfold zi at *
  have hm : (x.toInt * y.toInt).natAbs ≤ A * B := by rw [Int.natAbs_mul]; exact Nat.mul_le_mul hx hy
  have e : (x * y).toInt = x.toInt * y.toInt := by
    rw [Int32.toInt_mul, Int.bmod_eq_of_le] <;> omega
  exact ⟨e, by rw [e]; exact hm⟩
theorem zi_neg {x : Int32} {A : Nat} (hx : zi x A) (h : A < 2147483648) : (-x).toInt = -x.toInt ∧ zi (-x) A := by
  unfold zi at *
  have e : (-x).toInt = -x.toInt := by
    rw [Int32.toInt_neg, Int.bmod_eq_of_le] <;> omega
  exact ⟨e, by rw [e]; omega⟩
theorem zl_add {x y : Int64} {A B : Nat} (hx : zl x A) (hy : zl y B) (h : A + B < 9223372036854775808) : (x + y).toInt = x.toInt + y.toInt ∧ zl (x + y) (A + B) := by
  unfold zl at *
  have e : (x + y).toInt = x.toInt + y.toInt := by
    rw [Int64.toInt_add, Int.bmod_eq_of_le] <;> omega
  exact ⟨e, by rw [e]; omega⟩
theorem zl_sub {x y : Int64} {A B : Nat} (hx : zl x A) (hy : zl y B) (h : A + B < 9223372036854775808) : (x - y).toInt = x.toInt - y.toInt ∧ zl (x - y) (A + B) := by
  unfold zl at *
  have e : (x - y).toInt = x.toInt - y.toInt := by
    rw [Int64.toInt_sub, Int.bmod_eq_of_le] <;> omega
  exact ⟨e, by rw [e]; omega⟩
theorem zl_mul {x y : Int64} {A B : Nat} (hx : zl x A) (hy : zl y B) (h : A * B < 9223372036854775808) : (x * y).toInt = x.toInt * y.toInt ∧ zl (x * y) (A * B) := by
  unfold zl at *
  have hm : (x.toInt * y.toInt).natAbs ≤ A * B := by rw [Int.natAbs_mul]; exact Nat.mul_le_mul hx hy
  have e : (x * y).toInt = x.toInt * y.toInt := by
    rw [Int64.toInt_mul, Int.bmod_eq_of_le] <;> omega
  exact ⟨e, by rw [e]; exact hm⟩
theorem zl_neg {x : Int64} {A : Nat} (hx : zl x A) (h : A < 9223372036854775808) : (-x).toInt = -x.toInt ∧ zl (-x) A := by
  unfold zl at *
  have e : (-x).toInt = -x.toInt := by
    rw [Int64.toInt_neg, Int.bmod_eq_of_le] <;> omega
  exact ⟨e, by rw [e]; omega⟩
theorem zl_of {x : Int32} {A : Nat} (hx : zi x A) : zl x.toInt64 A := by unfold zl; rw [zi64]; exact hx
theorem zl_mo {x : Int64} {A B : Nat} (hx : zl x A) (h : A ≤ B) : zl x B := Nat.le_trans hx h
theorem zi_mo {x : Int32} {A B : Nat} (hx : zi x A) (h : A ≤ B) : zi x B := Nat.le_trans hx h
theorem zbd_of {x : Int64} {A : Nat} (hx : zl x A) (h : A < 4611686018427387904) : zbd x := by unfold zl at hx; unfold zbd; omega
theorem zi_sum {g : Nat → Int32} {A : Nat} : ∀ n : Nat, (∀ i, i < n → zi (g i) A) → n * A < 2147483648 → zi (zsum g n) (n * A) := by
  intro n
  induction n with
  | zero => intro _ _; show (0 : Int32).toInt.natAbs ≤ _; rw [show (0 : Int32).toInt = 0 by decide]; omega
  | succ n ih =>
    intro h1 h2
    have e : (n + 1) * A = n * A + A := Nat.succ_mul n A
    have := (zi_add (ih (fun i hi => h1 i (by omega)) (by omega)) (h1 n (by omega)) (by omega)).2
    rw [e]; exact this
/-- sides as they must be -/
def VS (n : Nat) (f : zf) : Prop := n ≤ 8 ∧ ∀ i, i < n → (0 ≤ (f i 0).toInt ∧ (f i 0).toInt ≤ 5) ∧ (0 ≤ (f i 1).toInt ∧ (f i 1).toInt ≤ 9) ∧ (-9 ≤ (f i 2).toInt ∧ (f i 2).toInt ≤ 9) ∧ (-9 ≤ (f i 3).toInt ∧ (f i 3).toInt ≤ 9) ∧ ¬ ((f i 2).toInt = 0 ∧ (f i 3).toInt = 0) ∧ (1 ≤ (f i 4).toInt ∧ (f i 4).toInt ≤ 9)
theorem zc32 : (10 : Int32).toInt = 10 ∧ (0 : Int32).toInt = 0 ∧ (1 : Int32).toInt = 1 ∧ (2 : Int32).toInt = 2 := by decide
theorem zst_b {kd fg : Int32} (h : 0 ≤ fg.toInt ∧ fg.toInt ≤ 9) : 1 ≤ (zst kd fg).toInt ∧ (zst kd fg).toInt ≤ 19 := by
  have h10 : zi (10 : Int32) 10 := by unfold zi; decide
  have hf : zi fg 9 := by unfold zi; omega
  have a := (zi_add h10 hf (by decide)).1
  have b := (zi_sub h10 hf (by decide)).1
  have c := zc32.1
  unfold zst
  split
  · omega
  · split <;> omega
theorem zi_of {x : Int32} {A : Nat} (h : -(A : Int) ≤ x.toInt ∧ x.toInt ≤ A) : zi x A := by unfold zi; omega
theorem zsp_b {n : Nat} {f : zf} (h : VS n f) {i a : Nat} (hi : i < n) (ha : a < 2) : zi (zun f i a) 171 ∧ zi (zsp f i a) 1539 := by
  obtain ⟨h0, h1, h2, h3, -, h4⟩ := h.2 i hi
  have s := zst_b (kd := f i 0) h1
  have s1 : zi (zst (f i 0) (f i 1)) 19 := zi_of (by omega)
  have s2 : zi (f i (2 + a)) 9 := by
    rcases (show a = 0 ∨ a = 1 by omega) with rfl | rfl
    · exact zi_of (by omega)
    · exact zi_of (by omega)
  have s3 := (zi_mul s1 s2 (by decide)).2
  have s4 : zi (f i 4) 9 := zi_of (by omega)
  exact ⟨s3, (zi_mul s4 s3 (by decide)).2⟩
theorem zmf_b {n : Nat} {f : zf} (h : VS n f) {a : Nat} (ha : a < 2) : zi (zmf f a n) 12312 := by
  have := zi_sum (g := fun i => zsp f i a) n (fun i hi => (zsp_b h hi ha).2) (by have := h.1; omega)
  exact zi_mo this (by have := h.1; omega)
theorem zabs_b {x : Int32} {A : Nat} (h : zi x A) (hA : A < 1000000) : (zabs x).toInt = x.toInt.natAbs ∧ zi (zabs x) A := by
  unfold zabs
  have z := zc32.2.1
  by_cases c : 0 ≤ x
  · have := Int32.le_iff_toInt_le.mp c
    rw [if_pos c]; exact ⟨by omega, h⟩
  · have := mt Int32.le_iff_toInt_le.mpr c
    rw [if_neg c, z0s]
    have e := zi_neg h (by omega)
    exact ⟨by rw [e.1]; omega, e.2⟩
theorem zw_b {n : Nat} {f : zf} (h : VS n f) {i : Nat} (hi : i < n) : 0 ≤ (zw f i).toInt ∧ (zw f i).toInt ≤ 324 := by
  obtain ⟨h0, h1, h2, h3, hne, h4⟩ := h.2 i hi
  have e1 := zabs_b (x := f i 2) (A := 9) (zi_of (by omega)) (by decide)
  have e2 := zabs_b (x := f i 3) (A := 9) (zi_of (by omega)) (by decide)
  have e3 := zi_add e1.2 e2.2 (by decide)
  have s4 : zi (f i 4) 9 := zi_of (by omega)
  have e4 := zi_mul s4 e3.2 (by decide)
  have p3 : 0 ≤ (zabs (f i 2) + zabs (f i 3)).toInt ∧ (zabs (f i 2) + zabs (f i 3)).toInt ≤ 18 := by rw [e3.1, e1.1, e2.1]; omega
  have p4 : 0 ≤ (f i 4 * (zabs (f i 2) + zabs (f i 3))).toInt ∧ (f i 4 * (zabs (f i 2) + zabs (f i 3))).toInt ≤ 162 := by
    have q := e4.2
    unfold zi at q
    refine ⟨?_, by omega⟩
    rw [e4.1]
    exact Int.mul_nonneg (by omega) p3.1
  unfold zw zwt
  generalize f i 4 * (zabs (f i 2) + zabs (f i 3)) = z at *
  have hz : zi z 162 := zi_of (by omega)
  have h2m := (zi_mul (x := 2) (A := 2) (zi_of (by decide)) hz (by decide)).1
  have c2 := zc32.2.2.2
  split
  · rw [h2m, c2]; omega
  · split
    · have hd : (z / 2).toInt = z.toInt / 2 := by
        have : ∃ k : Nat, z = nI k ∧ k ≤ 162 := ⟨z.toInt.toNat, Int32.toInt_inj.mp (by rw [nI_toInt (by omega)]; omega), by omega⟩
        obtain ⟨k, rfl, hk⟩ := this
        rw [znI2 (by omega), nI_toInt (by omega), nI_toInt (by omega)]; omega
      split
      · rw [hd]; omega
      · rw [zc32.2.2.1]; omega
    · split
      · rw [zc32.2.1]; omega
      · omega
theorem zWs_b {n : Nat} {f : zf} (h : VS n f) : ∀ m, m ≤ n → 0 ≤ (zsum (zw f) m).toInt ∧ (zsum (zw f) m).toInt ≤ 324 * m := by
  intro m
  induction m with
  | zero => intro _; show 0 ≤ (0 : Int32).toInt ∧ (0 : Int32).toInt ≤ 324 * ((0 : Nat) : Int); decide
  | succ m ih =>
    intro hm
    have a := ih (by omega)
    have b := zw_b h (i := m) (by omega)
    have hn := h.1
    have e := (zi_add (x := zsum (zw f) m) (y := zw f m) (A := 324 * m) (B := 324) (zi_of (by omega)) (zi_of (by omega)) (by omega)).1
    show 0 ≤ (zsum (zw f) m + zw f m).toInt ∧ (zsum (zw f) m + zw f m).toInt ≤ 324 * (m + 1 : Nat)
    rw [e]; omega
theorem zWt_b {n : Nat} {f : zf} (h : VS n f) : 0 ≤ (zWt f n).toInt ∧ (zWt f n).toInt ≤ 2592 := by
  have a := zWs_b h n (Nat.le_refl _)
  have hn := h.1
  unfold zWt
  rw [zi64]; omega
theorem zu_b {n : Nat} {f : zf} (h : VS n f) {i a : Nat} (hi : i < n) (ha : a < 2) : zl (zu f n a i) 7978176 := by
  have hw := zWt_b h
  have h1 : zl (zWt f n) 2592 := by unfold zl; omega
  have h2 := zl_of (zsp_b h hi ha).2
  have h3 : zl (zME f a n) 12312 := by unfold zME; rw [zms_all h.1]; exact zl_of (zmf_b h ha)
  have hb := zw_b h hi
  have h4 : zl (zw f i).toInt64 324 := zl_of (zi_of (by omega))
  exact zl_mo (zl_sub (zl_mul h2 h1 (by decide)).2 (zl_mul h3 h4 (by decide)).2 (by decide)).2 (by decide)
theorem zx_b {n : Nat} {f : zf} (h : VS n f) {a : Nat} (ha : a < 2) : ∀ m, m ≤ n → zl (zx f n a m) (m * 7978176) := by
  intro m
  induction m with
  | zero => intro _; show (0 : Int64).toInt.natAbs ≤ _; decide
  | succ m ih =>
    intro hm
    have hn := h.1
    have := (zl_add (ih (by omega)) (zu_b h (i := m) (by omega) ha) (by omega)).2
    exact zl_mo this (by omega)
theorem zx_b8 {n : Nat} {f : zf} (h : VS n f) {a m : Nat} (ha : a < 2) (hm : m ≤ n) : zl (zx f n a m) 63825408 := zl_mo (zx_b h ha m hm) (by have := h.1; omega)
/-- corners within bounds, as whole numbers -/
def zPB (n : Nat) (px py : Nat → Int64) : Prop := ∀ i, i < n → zl (px i) 63825408 ∧ zl (py i) 63825408
theorem zPB_x {n : Nat} {f : zf} (h : VS n f) : zPB n (zx f n 0) (zx f n 1) := fun i hi => ⟨zx_b8 h (by decide) (by omega), zx_b8 h (by decide) (by omega)⟩
theorem zlf_b {n : Nat} {px py : Nat → Int64} (h : zPB n px py) {a b c : Nat} (ha : a < n) (hb : b < n) (hc : c < n) : (zlf px py a b c).toInt = ((px b).toInt - (px a).toInt) * ((py c).toInt - (py a).toInt) - ((py b).toInt - (py a).toInt) * ((px c).toInt - (px a).toInt) ∧ zl (zlf px py a b c) 32589461654765312 := by
  have d1 := zl_sub (h b hb).1 (h a ha).1 (by decide)
  have d2 := zl_sub (h c hc).2 (h a ha).2 (by decide)
  have d3 := zl_sub (h b hb).2 (h a ha).2 (by decide)
  have d4 := zl_sub (h c hc).1 (h a ha).1 (by decide)
  have m1 := zl_mul d1.2 d2.2 (by decide)
  have m2 := zl_mul d3.2 d4.2 (by decide)
  have s := zl_sub m1.2 m2.2 (by decide)
  unfold zlf
  exact ⟨by rw [s.1, m1.1, m2.1, d1.1, d2.1, d3.1, d4.1], zl_mo s.2 (by decide)⟩
theorem zcp_b {n : Nat} {px py : Nat → Int64} (h : zPB n px py) {a b : Nat} (ha : a < n) (hb : b < n) : (zcp px py a b).toInt = (px a).toInt * (py b).toInt - (py a).toInt * (px b).toInt ∧ zl (zcp px py a b) 8147365412892928 := by
  have m1 := zl_mul (h a ha).1 (h b hb).2 (by decide)
  have m2 := zl_mul (h a ha).2 (h b hb).1 (by decide)
  have s := zl_sub m1.2 m2.2 (by decide)
  unfold zcp
  exact ⟨by rw [s.1, m1.1, m2.1], zl_mo s.2 (by decide)⟩
theorem zcs_b {n : Nat} {px py : Nat → Int64} (hn : n ≤ 8) (h : zPB n px py) : ∀ m, m ≤ n → zl (zcs n px py m) (m * 8147365412892928) := by
  intro m
  induction m with
  | zero => intro _; show (0 : Int64).toInt.natAbs ≤ _; decide
  | succ m ih =>
    intro hm
    exact zl_mo (zl_add (ih (by omega)) (zcp_b h (show m < n by omega) (zro_lt (show m < n by omega))).2 (by omega)).2 (by omega)
theorem zpa_b {n c : Nat} {px py : Nat → Int64} (hn : n ≤ 8) (h : zPB n px py) (hc : c < n) : ∀ m, m + 2 ≤ n ∨ m = 0 → zl (zpa n px py c m) (m * 32589461654765312) := by
  intro m
  induction m with
  | zero => intro _; show (0 : Int64).toInt.natAbs ≤ _; decide
  | succ m ih =>
    intro hm
    exact zl_mo (zl_add (ih (by omega)) (zlf_b h hc (zro_lt2 (n := n) (i := c + (m + 1)) (by omega)) (zro_lt2 (n := n) (i := c + (m + 1) + 1) (by omega))).2 (by omega)).2 (by omega)
theorem zun_b {w : Int64} (h : 0 ≤ w.toInt ∧ w.toInt ≤ 2592) : (2 * w * w).toInt = 2 * w.toInt * w.toInt ∧ zl (2 * w * w) 13436928 := by
  have h1 : zl w 2592 := by unfold zl; omega
  have h2 : zl (2 : Int64) 2 := by unfold zl; decide
  have a := zl_mul h2 h1 (by decide)
  have b := zl_mul a.2 h1 (by decide)
  exact ⟨by rw [b.1, a.1]; rfl, b.2⟩
