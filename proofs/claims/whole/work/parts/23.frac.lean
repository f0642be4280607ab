/-! fractions: Euclid on longs -/
theorem zl_nn {x : Int64} (h : 0 ≤ x) : ∃ a : Nat, a < 2 ^ 63 ∧ x = lN a := pk_lOf (by grind)
theorem zlrem {a b : Nat} (ha : a < 2 ^ 63) (hb : b < 2 ^ 63) (h0 : 0 < b) : lN a - lN a / lN b * lN b = lN (a % b) := pk_lRem ha h0 hb
theorem zl0 {a : Nat} (h : a < 2 ^ 63) : lN a = 0 ↔ a = 0 := pk_lEQ (b := 0) h (by decide)
def zna (x : Int64) : Nat := x.toInt.natAbs
/-- within bounds: the size of a long is a long -/
def zbd (x : Int64) : Prop := -4611686018427387904 < x.toInt ∧ x.toInt < 4611686018427387904
theorem zneg_toInt {x : Int64} (h : zbd x) : (-x).toInt = -x.toInt := by
  rw [Int64.toInt_neg]
  obtain ⟨h1, h2⟩ := h
  rw [Int.bmod_eq_of_le] <;> omega
theorem zabs_l {x : Int64} (h : zbd x) : (if x < 0 then -x else x) = lN (zna x) := by
  have hb := h
  obtain ⟨h1, h2⟩ := h
  apply Int64.toInt_inj.mp
  rw [pk_lT (by unfold zna; omega)]
  have z : (0 : Int64).toInt = 0 := by decide
  unfold zna
  by_cases c : x < 0
  · have c1 := Int64.lt_iff_toInt_lt.mp c
    rw [if_pos c, zneg_toInt hb]; omega
  · have c1 := mt Int64.lt_iff_toInt_lt.mpr c
    rw [if_neg c]; omega
theorem zabs_l2 {x : Int64} (h : zbd x) : (if 0 < x then x else -x) = lN (zna x) := by
  rw [← zabs_l h]
  by_cases c : x < 0
  · rw [if_pos c, if_neg (by grind)]
  · rw [if_neg c]
    by_cases c2 : 0 < x
    · rw [if_pos c2]
    · rw [if_neg c2]
      have : x = 0 := by grind
      subst this; rfl
theorem zna_lt {x : Int64} (h : zbd x) : zna x < 2 ^ 62 := by unfold zna; obtain ⟨h1, h2⟩ := h; omega
noncomputable def zfr (a b : Int64) (part : Int32) : Int64 := (if part = 0 then a else b) / (if b < 0 then -lN (Nat.gcd (zna a) (zna b)) else lN (Nat.gcd (zna a) (zna b)))
set_option maxHeartbeats 4000000 in
set_option maxRecDepth 100000 in
theorem c_X6_common {h : zH} {a b : Int64} (ha : zbd a) (hb : zbd b) : K_X6_common [.long a, .long b] h (zD (some (.long (lN (Nat.gcd (zna a) (zna b))))) h) := by
  refine CT.of rfl rfl (Nat.le_of_ble_eq_true rfl) rfl ?_
  have ea := zabs_l ha
  have eb := zabs_l hb
  have la := zna_lt ha
  have lb := zna_lt hb
  generalize zna a = x at ea la ⊢
  generalize zna b = y at eb lb ⊢
  have loop : ∀ (m x' y' : Nat) (u0 u2 v8 v9 : Option Value), y' < m → x' < 2 ^ 62 → y' < 2 ^ 62 → Nat.gcd x' y' = Nat.gcd x y → W_X6_common (zD (some (.long (lN (Nat.gcd x y)))) h) 28 [u0, none, u2, none, some (.long (lN x')), none, some (.long (lN y')), none, v8, v9] [] h := by
    intro m
    induction m with
    | zero => intro x' y' u0 u2 v8 v9 h1; omega
    | succ m ih =>
      intro x' y' u0 u2 v8 v9 h1 lx ly hg
      refine WG.lload (pc' := 30) dX6_common_28 rfl rfl ?_
      refine WG.lconst (v := 0) (pc' := 31) dX6_common_30 rfl rfl ?_
      refine WG.lif_eq (tgt := 53) (pc1 := 32) (pc' := 35) dX6_common_31 rfl dX6_common_32 rfl (by decide) (fun c_32 => ?_) (fun c_32 => ?_)
      · have c32 := (zl0 (by omega)).mp c_32
        refine WG.lload (pc' := 55) dX6_common_53 rfl rfl ?_
        refine WG.lreturn dX6_common_55 rfl ?_
        exact ⟨by subst c32; rw [← hg, Nat.gcd_zero_right], rfl⟩
      · have c32 := mt (zl0 (by omega)).mpr c_32
        refine WG.lload (pc' := 37) dX6_common_35 rfl rfl ?_
        refine WG.lload (pc' := 39) dX6_common_37 rfl rfl ?_
        refine WG.lrem (pc' := 40) dX6_common_39 rfl (mt (zl0 (by omega)).mp c32) ?_
        rw [zlrem (by omega) (by omega) (by omega)]
        refine WG.lstore (L' := [_, _, _, _, _, _, _, _, _, _]) (pc' := 42) dX6_common_40 rfl (by decide) rfl ?_
        refine WG.lload (pc' := 44) dX6_common_42 rfl rfl ?_
        refine WG.lstore (L' := [_, _, _, _, _, _, _, _, _, _]) (pc' := 46) dX6_common_44 rfl (by decide) rfl ?_
        refine WG.lload (pc' := 48) dX6_common_46 rfl rfl ?_
        refine WG.lstore (L' := [_, _, _, _, _, _, _, _, _, _]) (pc' := 50) dX6_common_48 rfl (by decide) rfl ?_
        refine WG.goto (tgt := 28) dX6_common_50 (by decide) ?_
        exact ih y' (x' % y') _ _ _ _ (by have := Nat.mod_lt x' (show 0 < y' by omega); omega) ly (by have := Nat.mod_lt x' (show 0 < y' by omega); omega) (by rw [← hg, Nat.gcd_comm x' y', Nat.gcd_rec y' x', Nat.gcd_comm])
  refine WG.lload_n (pc' := 1) dX6_common_0 rfl rfl ?_
  refine WG.lconst (v := 0) (pc' := 2) dX6_common_1 rfl rfl ?_
  refine WG.lif_ge (tgt := 11) (pc1 := 3) (pc' := 6) dX6_common_2 rfl dX6_common_3 rfl (by decide) (fun c_3 => ?_) (fun c_3 => ?_)
  · refine WG.lload_n (pc' := 12) dX6_common_11 rfl rfl ?_
    first
      | rw [show a = lN x by rw [← ea, if_neg (by grind)]]
      | rw [show -a = lN x by rw [← ea, if_pos (by grind)]]
    refine WG.lstore (L' := [_, _, _, _, _, _, _, _, _, _]) (pc' := 14) dX6_common_12 rfl (by decide) rfl ?_
    refine WG.lload_n (pc' := 15) dX6_common_14 rfl rfl ?_
    refine WG.lconst (v := 0) (pc' := 16) dX6_common_15 rfl rfl ?_
    refine WG.lif_ge (tgt := 25) (pc1 := 17) (pc' := 20) dX6_common_16 rfl dX6_common_17 rfl (by decide) (fun c_17 => ?_) (fun c_17 => ?_)
    · refine WG.lload_n (pc' := 26) dX6_common_25 rfl rfl ?_
      first
        | rw [show b = lN y by rw [← eb, if_neg (by grind)]]
        | rw [show -b = lN y by rw [← eb, if_pos (by grind)]]
      refine WG.lstore (L' := [_, _, _, _, _, _, _, _, _, _]) (pc' := 28) dX6_common_26 rfl (by decide) rfl ?_
      exact loop (y + 1) x y _ _ _ _ (by omega) la lb rfl
    · refine WG.lload_n (pc' := 21) dX6_common_20 rfl rfl ?_
      refine WG.lneg (pc' := 22) dX6_common_21 rfl ?_
      refine WG.goto (tgt := 26) dX6_common_22 (by decide) ?_
      first
        | rw [show b = lN y by rw [← eb, if_neg (by grind)]]
        | rw [show -b = lN y by rw [← eb, if_pos (by grind)]]
      refine WG.lstore (L' := [_, _, _, _, _, _, _, _, _, _]) (pc' := 28) dX6_common_26 rfl (by decide) rfl ?_
      exact loop (y + 1) x y _ _ _ _ (by omega) la lb rfl
  · refine WG.lload_n (pc' := 7) dX6_common_6 rfl rfl ?_
    refine WG.lneg (pc' := 8) dX6_common_7 rfl ?_
    refine WG.goto (tgt := 12) dX6_common_8 (by decide) ?_
    first
      | rw [show a = lN x by rw [← ea, if_neg (by grind)]]
      | rw [show -a = lN x by rw [← ea, if_pos (by grind)]]
    refine WG.lstore (L' := [_, _, _, _, _, _, _, _, _, _]) (pc' := 14) dX6_common_12 rfl (by decide) rfl ?_
    refine WG.lload_n (pc' := 15) dX6_common_14 rfl rfl ?_
    refine WG.lconst (v := 0) (pc' := 16) dX6_common_15 rfl rfl ?_
    refine WG.lif_ge (tgt := 25) (pc1 := 17) (pc' := 20) dX6_common_16 rfl dX6_common_17 rfl (by decide) (fun c_17 => ?_) (fun c_17 => ?_)
    · refine WG.lload_n (pc' := 26) dX6_common_25 rfl rfl ?_
      first
        | rw [show b = lN y by rw [← eb, if_neg (by grind)]]
        | rw [show -b = lN y by rw [← eb, if_pos (by grind)]]
      refine WG.lstore (L' := [_, _, _, _, _, _, _, _, _, _]) (pc' := 28) dX6_common_26 rfl (by decide) rfl ?_
      exact loop (y + 1) x y _ _ _ _ (by omega) la lb rfl
    · refine WG.lload_n (pc' := 21) dX6_common_20 rfl rfl ?_
      refine WG.lneg (pc' := 22) dX6_common_21 rfl ?_
      refine WG.goto (tgt := 26) dX6_common_22 (by decide) ?_
      first
        | rw [show b = lN y by rw [← eb, if_neg (by grind)]]
        | rw [show -b = lN y by rw [← eb, if_pos (by grind)]]
      refine WG.lstore (L' := [_, _, _, _, _, _, _, _, _, _]) (pc' := 28) dX6_common_26 rfl (by decide) rfl ?_
      exact loop (y + 1) x y _ _ _ _ (by omega) la lb rfl
theorem zgcd_pos {a b : Int64} (h0 : b ≠ 0) : 0 < Nat.gcd (zna a) (zna b) := by
  refine Nat.gcd_pos_of_pos_right _ ?_
  unfold zna
  have : b.toInt ≠ 0 := fun q => h0 (Int64.toInt_inj.mp (by rw [q]; decide))
  omega
theorem zgcd_lt {a b : Int64} (hb : zbd b) (h0 : b ≠ 0) : Nat.gcd (zna a) (zna b) < 2 ^ 62 := by
  have h1 := zna_lt hb
  have hp : 0 < zna b := by
    unfold zna
    have : b.toInt ≠ 0 := fun q => h0 (Int64.toInt_inj.mp (by rw [q]; decide))
    omega
  have := Nat.gcd_le_right (zna a) hp
  omega
theorem zneg0 {x : Int64} (h : x ≠ 0) : -x ≠ 0 := by grind
set_option maxHeartbeats 4000000 in
set_option maxRecDepth 100000 in
theorem c_X6_lowest {h : zH} {a b : Int64} {p : Int32} (ha : zbd a) (hb : zbd b) (h0 : b ≠ 0) : K_X6_lowest [.long a, .long b, .int p] h (zD (some (.long (zfr a b p))) h) := by
  refine CT.of rfl rfl (Nat.le_of_ble_eq_true rfl) rfl ?_
  have hg := zgcd_pos (a := a) h0
  have hl := zgcd_lt (a := a) hb h0
  have cc := c_X6_common (h := h) ha hb
  unfold zfr
  generalize Nat.gcd (zna a) (zna b) = g at hg hl cc ⊢
  have hg0 : lN g ≠ 0 := mt (zl0 (by omega)).mp (by omega)
  refine WG.lload_n (pc' := 1) dX6_lowest_0 rfl rfl ?_
  refine WG.lload_n (pc' := 2) dX6_lowest_1 rfl rfl ?_
  refine WG.callSd (cc) m_X6_184 b_X6_common rfl (zrk_of rfl) rfl (Nat.le_of_ble_eq_true rfl) dX6_lowest_2 (pc' := 5) rfl ?_
  refine WG.lload_n (pc' := 6) dX6_lowest_5 rfl rfl ?_
  refine WG.lconst (v := 0) (pc' := 7) dX6_lowest_6 rfl rfl ?_
  refine WG.lif_ge (tgt := 17) (pc1 := 8) (pc' := 11) dX6_lowest_7 rfl dX6_lowest_8 rfl (by decide) (fun c_8 => ?_) (fun c_8 => ?_)
  · refine WG.lconst (v := 1) (pc' := 18) dX6_lowest_17 rfl rfl ?_
    refine WG.lmul (pc' := 19) dX6_lowest_18 rfl ?_
    first
      | rw [show lN g * 1 = (if b < 0 then -lN g else lN g) by rw [if_neg (by grind), Int64.mul_one]]
      | rw [show lN g * -1 = (if b < 0 then -lN g else lN g) by rw [if_pos (by grind)]; grind]
    refine WG.lstore (L' := [_, _, _, _, _, _, _]) (pc' := 21) dX6_lowest_19 rfl (by decide) rfl ?_
    refine WG.iload (pc' := 23) dX6_lowest_21 rfl rfl ?_
    refine WG.if_ne (tgt := 30) (pc' := 26) dX6_lowest_23 rfl (by decide) (fun c_23 => ?_) (fun c_23 => ?_)
    · refine WG.lload_n (pc' := 31) dX6_lowest_30 rfl rfl ?_
      refine WG.lload (pc' := 33) dX6_lowest_31 rfl rfl ?_
      refine WG.ldiv (pc' := 34) dX6_lowest_33 rfl (by split; exact zneg0 hg0; exact hg0) ?_
      refine WG.lreturn dX6_lowest_34 rfl ?_
      exact ⟨by clear cc; grind, rfl⟩
    · refine WG.lload_n (pc' := 27) dX6_lowest_26 rfl rfl ?_
      refine WG.goto (tgt := 31) dX6_lowest_27 (by decide) ?_
      refine WG.lload (pc' := 33) dX6_lowest_31 rfl rfl ?_
      refine WG.ldiv (pc' := 34) dX6_lowest_33 rfl (by split; exact zneg0 hg0; exact hg0) ?_
      refine WG.lreturn dX6_lowest_34 rfl ?_
      exact ⟨by clear cc; grind, rfl⟩
  · refine WG.ldc2 (pc' := 14) dX6_lowest_11 rfl k_X6_188 ?_
    refine WG.goto (tgt := 18) dX6_lowest_14 (by decide) ?_
    refine WG.lmul (pc' := 19) dX6_lowest_18 rfl ?_
    first
      | rw [show lN g * 1 = (if b < 0 then -lN g else lN g) by rw [if_neg (by grind), Int64.mul_one]]
      | rw [show lN g * -1 = (if b < 0 then -lN g else lN g) by rw [if_pos (by grind)]; grind]
    refine WG.lstore (L' := [_, _, _, _, _, _, _]) (pc' := 21) dX6_lowest_19 rfl (by decide) rfl ?_
    refine WG.iload (pc' := 23) dX6_lowest_21 rfl rfl ?_
    refine WG.if_ne (tgt := 30) (pc' := 26) dX6_lowest_23 rfl (by decide) (fun c_23 => ?_) (fun c_23 => ?_)
    · refine WG.lload_n (pc' := 31) dX6_lowest_30 rfl rfl ?_
      refine WG.lload (pc' := 33) dX6_lowest_31 rfl rfl ?_
      refine WG.ldiv (pc' := 34) dX6_lowest_33 rfl (by split; exact zneg0 hg0; exact hg0) ?_
      refine WG.lreturn dX6_lowest_34 rfl ?_
      exact ⟨by clear cc; grind, rfl⟩
    · refine WG.lload_n (pc' := 27) dX6_lowest_26 rfl rfl ?_
      refine WG.goto (tgt := 31) dX6_lowest_27 (by decide) ?_
      refine WG.lload (pc' := 33) dX6_lowest_31 rfl rfl ?_
      refine WG.ldiv (pc' := 34) dX6_lowest_33 rfl (by split; exact zneg0 hg0; exact hg0) ?_
      refine WG.lreturn dX6_lowest_34 rfl ?_
      exact ⟨by clear cc; grind, rfl⟩
/-- Euclid's rounds: by Fibonacci's numbers -/
def zfib : Nat → Nat
  | 0 => 0
  | 1 => 1
  | n + 2 => zfib (n + 1) + zfib n
theorem zfib100 : 2 ^ 62 < zfib 95 := by decide +kernel
set_option maxHeartbeats 4000000 in
set_option maxRecDepth 100000 in
theorem c_X5_commonDivisor {h : zH} {a b : Int64} (ha : zbd a) (hb : zbd b) : K_X5_commonDivisor [.long a, .long b] h (zD (some (.long (lN (Nat.gcd (zna a) (zna b))))) h) := by
  refine CT.of rfl rfl (Nat.le_of_ble_eq_true rfl) rfl ?_
  have ea := zabs_l2 ha
  have eb := zabs_l2 hb
  have la := zna_lt ha
  have lb := zna_lt hb
  generalize zna a = x at ea la ⊢
  generalize zna b = y at eb lb ⊢
  have loop : ∀ (m k x' y' : Nat) (u0 u2 v9 v10 : Option Value), k + m = 100 → x' < 2 ^ 62 → y' < 2 ^ 62 → y' = 0 ∨ (∃ m', m = m' + 1 ∧ (y' < x' → y' < zfib (m' + 2) ∨ x' < zfib (m' + 3)) ∧ (x' ≤ y' → y' < zfib (m' + 1))) ∨ (y' < x' ∧ (y' < zfib (m + 1) ∨ x' < zfib (m + 2))) → Nat.gcd x' y' = Nat.gcd x y → W_X5_commonDivisor (zD (some (.long (lN (Nat.gcd x y)))) h) 15 [u0, none, u2, none, some (.long (lN x')), none, some (.long (lN y')), none, some (.int (nI k)), v9, v10] [] h := by
    intro m
    induction m with
    | zero =>
      intro k x' y' u0 u2 v9 v10 hk lx ly hq hg
      have hy : y' = 0 := by
        rcases hq with q | ⟨m', q, -⟩ | ⟨q1, q2 | q2⟩
        · exact q
        · omega
        · have q3 : y' < 1 := q2
          omega
        · have q3 : x' < 1 := q2
          omega
      refine WG.iload (pc' := 17) dX5_commonDivisor_15 rfl rfl ?_
      refine WG.bipush (v := 100) (pc' := 19) dX5_commonDivisor_17 rfl rfl ?_
      refine WG.icmp_ge (tgt := 50) (pc' := 22) dX5_commonDivisor_19 rfl (by decide) (fun c_19 => ?_) (fun c_19 => ?_)
      · refine WG.lload (pc' := 52) dX5_commonDivisor_50 rfl rfl ?_
        refine WG.lreturn dX5_commonDivisor_52 rfl ?_
        exact ⟨by subst hy; rw [← hg, Nat.gcd_zero_right], rfl⟩
      · exact absurd ((nI_leI (a := 100) (b := k) (by omega) (by omega)).mpr (by omega)) c_19
    | succ m ih =>
      intro k x' y' u0 u2 v9 v10 hk lx ly hq hg
      refine WG.iload (pc' := 17) dX5_commonDivisor_15 rfl rfl ?_
      refine WG.bipush (v := 100) (pc' := 19) dX5_commonDivisor_17 rfl rfl ?_
      refine WG.icmp_ge (tgt := 50) (pc' := 22) dX5_commonDivisor_19 rfl (by decide) (fun c_19 => ?_) (fun c_19 => ?_)
      · exact absurd ((nI_leI (a := 100) (b := k) (by omega) (by omega)).mp c_19) (by omega)
      · refine WG.lload (pc' := 24) dX5_commonDivisor_22 rfl rfl ?_
        refine WG.lconst (v := 0) (pc' := 25) dX5_commonDivisor_24 rfl rfl ?_
        refine WG.lif_eq (tgt := 50) (pc1 := 26) (pc' := 29) dX5_commonDivisor_25 rfl dX5_commonDivisor_26 rfl (by decide) (fun c_26 => ?_) (fun c_26 => ?_)
        · have c26 := (zl0 (by omega)).mp c_26
          refine WG.lload (pc' := 52) dX5_commonDivisor_50 rfl rfl ?_
          refine WG.lreturn dX5_commonDivisor_52 rfl ?_
          exact ⟨by subst c26; rw [← hg, Nat.gcd_zero_right], rfl⟩
        · have c26 := mt (zl0 (by omega)).mpr c_26
          refine WG.lload (pc' := 31) dX5_commonDivisor_29 rfl rfl ?_
          refine WG.lload (pc' := 33) dX5_commonDivisor_31 rfl rfl ?_
          refine WG.lrem (pc' := 34) dX5_commonDivisor_33 rfl (mt (zl0 (by omega)).mp c26) ?_
          rw [zlrem (by omega) (by omega) (by omega)]
          refine WG.lstore (L' := [_, _, _, _, _, _, _, _, _, _, _]) (pc' := 36) dX5_commonDivisor_34 rfl (by decide) rfl ?_
          refine WG.lload (pc' := 38) dX5_commonDivisor_36 rfl rfl ?_
          refine WG.lstore (L' := [_, _, _, _, _, _, _, _, _, _, _]) (pc' := 40) dX5_commonDivisor_38 rfl (by decide) rfl ?_
          refine WG.lload (pc' := 42) dX5_commonDivisor_40 rfl rfl ?_
          refine WG.lstore (L' := [_, _, _, _, _, _, _, _, _, _, _]) (pc' := 44) dX5_commonDivisor_42 rfl (by decide) rfl ?_
          refine WG.iinc1 (L' := [_, _, _, _, _, _, _, _, _, _, _]) (pc' := 47) dX5_commonDivisor_44 rfl rfl (by decide) rfl ?_
          refine WG.goto (tgt := 15) dX5_commonDivisor_47 (by decide) ?_
          rw [nI_1]
          have hr := Nat.mod_lt x' (show 0 < y' by omega)
          refine ih (k + 1) y' (x' % y') _ _ _ _ (by omega) ly (by omega) ?_ (by rw [← hg, Nat.gcd_comm x' y', Nat.gcd_rec y' x', Nat.gcd_comm])
          right; right
          refine ⟨hr, ?_⟩
          have hd := Nat.div_add_mod x' y'
          have e3 : zfib (m + 1 + 2) = zfib (m + 2) + zfib (m + 1) := rfl
          by_cases cxy : y' < x'
          · have hdx : y' + x' % y' ≤ x' := by
              have h1 : 1 ≤ x' / y' := (Nat.le_div_iff_mul_le (by omega)).mpr (by omega)
              have h2 : y' * 1 ≤ y' * (x' / y') := Nat.mul_le_mul_left _ h1
              omega
            have hh : y' < zfib (m + 1 + 1) ∨ x' < zfib (m + 1 + 2) := by
              rcases hq with q | ⟨m', q, q1, -⟩ | ⟨-, q2⟩
              · exact absurd q c26
              · obtain rfl : m' = m := by omega
                rcases q1 cxy with z | z
                · exact Or.inl z
                · exact Or.inr z
              · exact q2
            rcases hh with z | z
            · exact Or.inr z
            · rcases Nat.lt_or_ge (x' % y') (zfib (m + 1)) with z1 | z1
              · exact Or.inl z1
              · exact Or.inr (by omega)
          · rcases hq with q | ⟨m', q, -, q1⟩ | ⟨q, -⟩
            · exact absurd q c26
            · obtain rfl : m' = m := by omega
              have := q1 (by omega)
              exact Or.inl (by omega)
            · exact absurd q cxy
  refine WG.lload_n (pc' := 1) dX5_commonDivisor_0 rfl rfl ?_
  refine WG.mabsL m_X5_300 (pc' := 4) dX5_commonDivisor_1 rfl (Nat.le_of_ble_eq_true rfl) (Nat.le_of_ble_eq_true rfl) (Nat.le_of_ble_eq_true rfl) (Nat.le_of_ble_eq_true rfl) ?_
  rw [ea]
  refine WG.lstore (L' := [_, _, _, _, _, _, _, _, _, _, _]) (pc' := 6) dX5_commonDivisor_4 rfl (by decide) rfl ?_
  refine WG.lload_n (pc' := 7) dX5_commonDivisor_6 rfl rfl ?_
  refine WG.mabsL m_X5_300 (pc' := 10) dX5_commonDivisor_7 rfl (Nat.le_of_ble_eq_true rfl) (Nat.le_of_ble_eq_true rfl) (Nat.le_of_ble_eq_true rfl) (Nat.le_of_ble_eq_true rfl) ?_
  rw [eb]
  refine WG.lstore (L' := [_, _, _, _, _, _, _, _, _, _, _]) (pc' := 12) dX5_commonDivisor_10 rfl (by decide) rfl ?_
  refine WG.iconst (v := 0) (pc' := 13) dX5_commonDivisor_12 rfl rfl ?_
  refine WG.istore (L' := [_, _, _, _, _, _, _, _, _, _, _]) (pc' := 15) dX5_commonDivisor_13 rfl (by decide) rfl ?_
  refine loop 100 0 x y _ _ _ _ rfl la lb (Or.inr (Or.inl ⟨99, rfl, fun _ => Or.inl ?_, fun _ => ?_⟩)) rfl
  · have h1 := zfib100
    have h2 : zfib 95 ≤ zfib 101 := by decide +kernel
    show y < zfib 101
    omega
  · have h1 := zfib100
    have h2 : zfib 95 ≤ zfib 100 := by decide +kernel
    show y < zfib 100
    omega
set_option maxHeartbeats 4000000 in
set_option maxRecDepth 100000 in
theorem c_X5_fraction {h : zH} {a b : Int64} {p : Int32} (ha : zbd a) (hb : zbd b) (h0 : b ≠ 0) : K_X5_fraction [.long a, .long b, .int p] h (zD (some (.long (zfr a b p))) h) := by
  refine CT.of rfl rfl (Nat.le_of_ble_eq_true rfl) rfl ?_
  have hg := zgcd_pos (a := a) h0
  have hl := zgcd_lt (a := a) hb h0
  have cc := c_X5_commonDivisor (h := h) ha hb
  unfold zfr
  generalize Nat.gcd (zna a) (zna b) = g at hg hl cc ⊢
  have hg0 : lN g ≠ 0 := mt (zl0 (by omega)).mp (by omega)
  refine WG.lload_n (pc' := 1) dX5_fraction_0 rfl rfl ?_
  refine WG.lload_n (pc' := 2) dX5_fraction_1 rfl rfl ?_
  refine WG.callSd (cc) m_X5_296 b_X5_commonDivisor rfl (zrk_of rfl) rfl (Nat.le_of_ble_eq_true rfl) dX5_fraction_2 (pc' := 5) rfl ?_
  refine WG.lstore (L' := [_, _, _, _, _, _, _]) (pc' := 7) dX5_fraction_5 rfl (by decide) rfl ?_
  refine WG.lload_n (pc' := 8) dX5_fraction_7 rfl rfl ?_
  refine WG.lconst (v := 0) (pc' := 9) dX5_fraction_8 rfl rfl ?_
  refine WG.lif_eq (tgt := 20) (pc1 := 10) (pc' := 13) dX5_fraction_9 rfl dX5_fraction_10 rfl (by decide) (fun c_10 => ?_) (fun c_10 => ?_)
  · exact absurd c_10 h0
  · refine WG.lload (pc' := 15) dX5_fraction_13 rfl rfl ?_
    refine WG.lconst (v := 0) (pc' := 16) dX5_fraction_15 rfl rfl ?_
    refine WG.lif_ne (tgt := 24) (pc1 := 17) (pc' := 20) dX5_fraction_16 rfl dX5_fraction_17 rfl (by decide) (fun c_17 => ?_) (fun c_17 => ?_)
    · refine WG.lload_n (pc' := 25) dX5_fraction_24 rfl rfl ?_
      refine WG.lconst (v := 0) (pc' := 26) dX5_fraction_25 rfl rfl ?_
      refine WG.lif_ge (tgt := 35) (pc1 := 27) (pc' := 30) dX5_fraction_26 rfl dX5_fraction_27 rfl (by decide) (fun c_27 => ?_) (fun c_27 => ?_)
      · refine WG.iload (pc' := 37) dX5_fraction_35 rfl rfl ?_
        refine WG.if_ne (tgt := 47) (pc' := 40) dX5_fraction_37 rfl (by decide) (fun c_37 => ?_) (fun c_37 => ?_)
        · refine WG.lload_n (pc' := 48) dX5_fraction_47 rfl rfl ?_
          refine WG.lload (pc' := 50) dX5_fraction_48 rfl rfl ?_
          refine WG.ldiv (pc' := 51) dX5_fraction_50 rfl (by first | exact zneg0 hg0 | exact hg0) ?_
          refine WG.lreturn dX5_fraction_51 rfl ?_
          exact ⟨by grind, rfl⟩
        · refine WG.lload_n (pc' := 41) dX5_fraction_40 rfl rfl ?_
          refine WG.lload (pc' := 43) dX5_fraction_41 rfl rfl ?_
          refine WG.ldiv (pc' := 44) dX5_fraction_43 rfl (by first | exact zneg0 hg0 | exact hg0) ?_
          refine WG.goto (tgt := 51) dX5_fraction_44 (by decide) ?_
          refine WG.lreturn dX5_fraction_51 rfl ?_
          exact ⟨by grind, rfl⟩
      · refine WG.lload (pc' := 32) dX5_fraction_30 rfl rfl ?_
        refine WG.lneg (pc' := 33) dX5_fraction_32 rfl ?_
        refine WG.lstore (L' := [_, _, _, _, _, _, _]) (pc' := 35) dX5_fraction_33 rfl (by decide) rfl ?_
        refine WG.iload (pc' := 37) dX5_fraction_35 rfl rfl ?_
        refine WG.if_ne (tgt := 47) (pc' := 40) dX5_fraction_37 rfl (by decide) (fun c_37 => ?_) (fun c_37 => ?_)
        · refine WG.lload_n (pc' := 48) dX5_fraction_47 rfl rfl ?_
          refine WG.lload (pc' := 50) dX5_fraction_48 rfl rfl ?_
          refine WG.ldiv (pc' := 51) dX5_fraction_50 rfl (by first | exact zneg0 hg0 | exact hg0) ?_
          refine WG.lreturn dX5_fraction_51 rfl ?_
          exact ⟨by grind, rfl⟩
        · refine WG.lload_n (pc' := 41) dX5_fraction_40 rfl rfl ?_
          refine WG.lload (pc' := 43) dX5_fraction_41 rfl rfl ?_
          refine WG.ldiv (pc' := 44) dX5_fraction_43 rfl (by first | exact zneg0 hg0 | exact hg0) ?_
          refine WG.goto (tgt := 51) dX5_fraction_44 (by decide) ?_
          refine WG.lreturn dX5_fraction_51 rfl ?_
          exact ⟨by grind, rfl⟩
    · exact absurd c_17 hg0
def zpow (b : Int64) : Nat → Int64
  | 0 => 1
  | i + 1 => zpow b i * b
set_option maxHeartbeats 4000000 in
set_option maxRecDepth 100000 in
theorem c_X5_power {h : zH} {b : Int64} {n : Nat} (hn : n < 1000) : K_X5_power [.long b, .int (nI n)] h (zD (some (.long (zpow b n))) h) := by
  refine CT.of rfl rfl (Nat.le_of_ble_eq_true rfl) rfl ?_
  have loop : ∀ (m i : Nat), i ≤ n → n - i < m → W_X5_power (zD (some (.long (zpow b n))) h) 5 [some (.long b), none, some (.int (nI n)), some (.long (zpow b i)), none, some (.int (nI i))] [] h := by
    intro m
    induction m with
    | zero => intro i h1 h2; omega
    | succ m ih =>
      intro i hi hm
      refine WG.iload (pc' := 7) dX5_power_5 rfl rfl ?_
      refine WG.iload_n (pc' := 8) dX5_power_7 rfl rfl ?_
      refine WG.icmp_ge (tgt := 21) (pc' := 11) dX5_power_8 rfl (by decide) (fun c_8 => ?_) (fun c_8 => ?_)
      · obtain rfl : i = n := by have := (nI_leI (by omega) (by omega)).mp c_8; omega
        refine WG.lload_n (pc' := 22) dX5_power_21 rfl rfl ?_
        refine WG.lreturn dX5_power_22 rfl ?_
        exact ⟨rfl, rfl⟩
      · have hlt : i < n := by have := mt (nI_leI (a := n) (b := i) (by omega) (by omega)).mpr c_8; omega
        refine WG.lload_n (pc' := 12) dX5_power_11 rfl rfl ?_
        refine WG.lload_n (pc' := 13) dX5_power_12 rfl rfl ?_
        refine WG.lmul (pc' := 14) dX5_power_13 rfl ?_
        refine WG.lstore_n (L' := [_, _, _, _, _, _]) (pc' := 15) dX5_power_14 rfl (by decide) rfl ?_
        refine WG.iinc1 (L' := [_, _, _, _, _, _]) (pc' := 18) dX5_power_15 rfl rfl (by decide) rfl ?_
        refine WG.goto (tgt := 5) dX5_power_18 (by decide) ?_
        have q := ih (i + 1) hlt (by omega)
        rw [nI_succ] at q
        exact q
  refine WG.lconst (v := 1) (pc' := 1) dX5_power_0 rfl rfl ?_
  refine WG.lstore_n (L' := [_, _, _, _, _, _]) (pc' := 2) dX5_power_1 rfl (by decide) rfl ?_
  refine WG.iconst (v := 0) (pc' := 3) dX5_power_2 rfl rfl ?_
  refine WG.istore (L' := [_, _, _, _, _, _]) (pc' := 5) dX5_power_3 rfl (by decide) rfl ?_
  exact loop (n + 1) 0 (by omega) (by omega)
