/-! likely -/
def zur (x y : Int32) : Int32 := (x.toUInt32 >>> (y.toUInt32 &&& Int32.toUInt32 31)).toInt32
def zbc1 (x : Int32) : Int32 := x - (zur x 1 &&& 1431655765)
def zbc2 (x : Int32) : Int32 := (x &&& 858993459) + (zur x 2 &&& 858993459)
def zbc3 (x : Int32) : Int32 := (x + zur x 4) &&& 252645135
def zbc (x : Int32) : Int32 := ((zbc3 (zbc2 (zbc1 x)) + zur (zbc3 (zbc2 (zbc1 x))) 8) + zur (zbc3 (zbc2 (zbc1 x)) + zur (zbc3 (zbc2 (zbc1 x))) 8) 16) &&& 63
def zpc (m : Nat) : Nat → Nat
  | 0 => 0
  | n + 1 => zpc m n + m / 2 ^ n % 2
theorem zbc8 : ∀ m, m < 256 → zbc (nI m) = nI (zpc m 8) := by decide +kernel
theorem zpc_le (m : Nat) : ∀ n, zpc m n ≤ n := by
  intro n
  induction n with
  | zero => exact Nat.le_refl _
  | succ n ih => show zpc m n + m / 2 ^ n % 2 ≤ n + 1; omega
set_option maxHeartbeats 4000000 in
set_option maxRecDepth 100000 in
theorem c_bitCount (h : zH) (x : Int32) : K_J6_bitCount_0f7a4 [.int x] h (zD (some (.int (zbc x))) h) := by
  refine CT.of rfl rfl (Nat.le_of_ble_eq_true rfl) rfl ?_
  refine WG.iload_n (pc' := 1) dJ6_bitCount_0f7a4_0 rfl rfl ?_
  refine WG.iload_n (pc' := 2) dJ6_bitCount_0f7a4_1 rfl rfl ?_
  refine WG.iconst (v := 1) (pc' := 3) dJ6_bitCount_0f7a4_2 rfl rfl ?_
  refine WG.iushr (pc' := 4) dJ6_bitCount_0f7a4_3 rfl ?_
  refine WG.ldcw (pc' := 7) dJ6_bitCount_0f7a4_4 rfl k_J6_265 ?_
  refine WG.iand (pc' := 8) dJ6_bitCount_0f7a4_7 rfl ?_
  refine WG.isub (pc' := 9) dJ6_bitCount_0f7a4_8 rfl ?_
  refine WG.istore_n (L' := [_]) (pc' := 10) dJ6_bitCount_0f7a4_9 rfl (by decide) rfl ?_
  refine WG.iload_n (pc' := 11) dJ6_bitCount_0f7a4_10 rfl rfl ?_
  refine WG.ldcw (pc' := 14) dJ6_bitCount_0f7a4_11 rfl k_J6_266 ?_
  refine WG.iand (pc' := 15) dJ6_bitCount_0f7a4_14 rfl ?_
  refine WG.iload_n (pc' := 16) dJ6_bitCount_0f7a4_15 rfl rfl ?_
  refine WG.iconst (v := 2) (pc' := 17) dJ6_bitCount_0f7a4_16 rfl rfl ?_
  refine WG.iushr (pc' := 18) dJ6_bitCount_0f7a4_17 rfl ?_
  refine WG.ldcw (pc' := 21) dJ6_bitCount_0f7a4_18 rfl k_J6_266 ?_
  refine WG.iand (pc' := 22) dJ6_bitCount_0f7a4_21 rfl ?_
  refine WG.iadd (pc' := 23) dJ6_bitCount_0f7a4_22 rfl ?_
  refine WG.istore_n (L' := [_]) (pc' := 24) dJ6_bitCount_0f7a4_23 rfl (by decide) rfl ?_
  refine WG.iload_n (pc' := 25) dJ6_bitCount_0f7a4_24 rfl rfl ?_
  refine WG.iload_n (pc' := 26) dJ6_bitCount_0f7a4_25 rfl rfl ?_
  refine WG.iconst (v := 4) (pc' := 27) dJ6_bitCount_0f7a4_26 rfl rfl ?_
  refine WG.iushr (pc' := 28) dJ6_bitCount_0f7a4_27 rfl ?_
  refine WG.iadd (pc' := 29) dJ6_bitCount_0f7a4_28 rfl ?_
  refine WG.ldcw (pc' := 32) dJ6_bitCount_0f7a4_29 rfl k_J6_267 ?_
  refine WG.iand (pc' := 33) dJ6_bitCount_0f7a4_32 rfl ?_
  refine WG.istore_n (L' := [_]) (pc' := 34) dJ6_bitCount_0f7a4_33 rfl (by decide) rfl ?_
  refine WG.iload_n (pc' := 35) dJ6_bitCount_0f7a4_34 rfl rfl ?_
  refine WG.iload_n (pc' := 36) dJ6_bitCount_0f7a4_35 rfl rfl ?_
  refine WG.bipush (v := 8) (pc' := 38) dJ6_bitCount_0f7a4_36 rfl rfl ?_
  refine WG.iushr (pc' := 39) dJ6_bitCount_0f7a4_38 rfl ?_
  refine WG.iadd (pc' := 40) dJ6_bitCount_0f7a4_39 rfl ?_
  refine WG.istore_n (L' := [_]) (pc' := 41) dJ6_bitCount_0f7a4_40 rfl (by decide) rfl ?_
  refine WG.iload_n (pc' := 42) dJ6_bitCount_0f7a4_41 rfl rfl ?_
  refine WG.iload_n (pc' := 43) dJ6_bitCount_0f7a4_42 rfl rfl ?_
  refine WG.bipush (v := 16) (pc' := 45) dJ6_bitCount_0f7a4_43 rfl rfl ?_
  refine WG.iushr (pc' := 46) dJ6_bitCount_0f7a4_45 rfl ?_
  refine WG.iadd (pc' := 47) dJ6_bitCount_0f7a4_46 rfl ?_
  refine WG.istore_n (L' := [_]) (pc' := 48) dJ6_bitCount_0f7a4_47 rfl (by decide) rfl ?_
  refine WG.iload_n (pc' := 49) dJ6_bitCount_0f7a4_48 rfl rfl ?_
  refine WG.bipush (v := 63) (pc' := 51) dJ6_bitCount_0f7a4_49 rfl rfl ?_
  refine WG.iand (pc' := 52) dJ6_bitCount_0f7a4_51 rfl ?_
  refine WG.ireturn dJ6_bitCount_0f7a4_52 rfl (by first | rfl | decide) ?_
  exact ⟨rfl, rfl⟩
def zsl (g : Nat → Int64) : Nat → Int64
  | 0 => 0
  | m + 1 => zsl g m + g m
theorem zp20 : ∀ k, k < 9 → (20 : Int) ^ k ≤ 25600000000 := by decide +kernel
theorem zpw_b {A : Int64} (hA : 1 ≤ A.toInt ∧ A.toInt ≤ 20) : ∀ k, k ≤ 8 → 0 < (zpow A k).toInt ∧ (zpow A k).toInt ≤ 20 ^ k := by
  intro k
  induction k with
  | zero => intro _; exact ⟨by show 0 < (1 : Int64).toInt; decide, by show (1 : Int64).toInt ≤ 1; decide⟩
  | succ k ih =>
    intro hk
    obtain ⟨h1, h2⟩ := ih (by omega)
    have p8 := zp20 k (by omega)
    have l1 : zl (zpow A k) 25600000000 := by unfold zl; omega
    have l2 : zl A 20 := by unfold zl; omega
    have m := zl_mul l1 l2 (by decide)
    show 0 < (zpow A k * A).toInt ∧ (zpow A k * A).toInt ≤ 20 ^ (k + 1)
    rw [m.1]
    refine ⟨Int.mul_pos h1 (by omega), ?_⟩
    rw [Int.pow_succ]
    exact Int.mul_le_mul h2 hA.2 (by omega) (by omega)
theorem zpw_l {A : Int64} (hA : 1 ≤ A.toInt ∧ A.toInt ≤ 20) {k : Nat} (hk : k ≤ 8) : zl (zpow A k) 25600000000 ∧ zpow A k ≠ 0 := by
  obtain ⟨h1, h2⟩ := zpw_b hA k hk
  have p8 := zp20 k (by omega)
  refine ⟨by unfold zl; omega, fun q => ?_⟩
  rw [q] at h1
  exact absurd h1 (by decide)
theorem zsl_b {g : Nat → Int64} (hg : ∀ m, zl (g m) 25600000000) : ∀ m, m ≤ 256 → zl (zsl g m) (m * 25600000000) := by
  intro m
  induction m with
  | zero => intro _; show (0 : Int64).toInt.natAbs ≤ _; decide
  | succ m ih => intro hm; exact zl_mo (zl_add (ih (by omega)) (hg m) (by omega)).2 (by omega)
def zgl_ (f : zf) (n : Nat) (b : Int32) (A : Int64) (m : Nat) : Int64 := if zmg f (nI m) n ≤ b then zpow A (zpc m 8) else 0
theorem zgl_b {f : zf} {n : Nat} {b : Int32} {A : Int64} (hA : 1 ≤ A.toInt ∧ A.toInt ≤ 20) (m : Nat) : zl (zgl_ f n b A m) 25600000000 := by
  unfold zgl_
  split
  · exact (zpw_l hA (zpc_le m 8)).1
  · show (0 : Int64).toInt.natAbs ≤ _; decide
noncomputable def zeLk (a b p : Int32) : Int32 := zes [(a < 2 ∨ b < 0, -4), (20 < a ∨ 9999 < b, -6), (¬ (p = 0 ∨ p = 1), -2)]
noncomputable def zvLk (n : Nat) (f : zf) (a b p : Int32) : Int64 := zfr (zsl (zgl_ f n b (a - 1).toInt64) (2 ^ n)) (zpow a.toInt64 n) p
theorem za_b {a : Int32} (h1 : ¬ a < 2) (h2 : ¬ 20 < a) : (1 ≤ a.toInt64.toInt ∧ a.toInt64.toInt ≤ 20) ∧ (1 ≤ (a - 1).toInt64.toInt ∧ (a - 1).toInt64.toInt ≤ 20) ∧ (a - 1).toInt64 = a.toInt64 - 1 := by
  have e1 := mt Int32.lt_iff_toInt_lt.mpr h1
  have e2 := mt Int32.lt_iff_toInt_lt.mpr h2
  rw [show (2 : Int32).toInt = 2 by decide] at e1
  rw [show (20 : Int32).toInt = 20 by decide] at e2
  have s := zi_sub (x := a) (y := 1) (A := 20) (B := 1) (by unfold zi; omega) (by unfold zi; decide) (by decide)
  have s2 := zl_sub (x := a.toInt64) (y := 1) (A := 20) (B := 1) (by unfold zl; rw [zi64]; omega) (by unfold zl; decide) (by decide)
  rw [show (1 : Int32).toInt = 1 by decide] at s
  rw [show (1 : Int64).toInt = 1 by decide] at s2
  refine ⟨by rw [zi64]; omega, by rw [zi64, s.1]; omega, Int64.toInt_inj.mp ?_⟩
  rw [zi64, s.1, s2.1, zi64]
theorem zall2 : ∀ n, n < 9 → zall n = nI (2 ^ n - 1) := by decide +kernel
theorem zp2 {n : Nat} (hn : n ≤ 8) : 1 ≤ 2 ^ n ∧ 2 ^ n ≤ 256 := ⟨Nat.one_le_two_pow, Nat.pow_le_pow_right (by decide) hn⟩
set_option maxHeartbeats 4000000 in
set_option maxRecDepth 100000 in
theorem x_likelyL {σ : zA} {h : zH} {e a b p : Int32} (hX : RX σ h) (he : e = 0) (h1 : ¬ a < 2) (h2 : ¬ 20 < a) : ∀ (q m : Nat), m + q = 2 ^ σ.1.1 → W_X5_likely (zPl RX zB1 h σ e (zvLk σ.1.1 σ.1.2 a b p)) 56 [some (.ref 0), some (.int a), some (.int b), some (.int p), some (.long (zsl (zgl_ σ.1.2 σ.1.1 b (a - 1).toInt64) m)), none, some (.int (nI m))] [] h := by
  have hS := hX.1
  have hn := hS.2.1
  have hp := zp2 hn
  have ab := za_b h1 h2
  have ea := zall2 σ.1.1 (by omega)
  intro q
  induction q with
  | zero =>
    intro m hm
    refine WG.iload (pc' := 58) dX5_likely_56 rfl rfl ?_
    refine WG.aload_n (pc' := 59) dX5_likely_58 rfl rfl ?_
    refine WG.getR (r := 1) f_X5_10 (pc' := 62) dX5_likely_59 rfl rfl rfl rfl ?_
    refine WG.callVd (c_X4_all hS) m_X5_147 b_X4_all rfl rfl rfl (zrk_of rfl) rfl (Nat.le_of_ble_eq_true rfl) dX5_likely_62 (pc' := 65) rfl ?_
    rw [ea]
    refine WG.icmp_gt (tgt := 104) (pc' := 68) dX5_likely_65 rfl (by decide) (fun c_65 => ?_) (fun c_65 => ?_)
    · refine WG.lload (pc' := 106) dX5_likely_104 rfl rfl ?_
      refine WG.iload_n (pc' := 107) dX5_likely_106 rfl rfl ?_
      refine WG.i2l (pc' := 108) dX5_likely_107 rfl ?_
      refine WG.aload_n (pc' := 109) dX5_likely_108 rfl rfl ?_
      refine WG.getR (r := 1) f_X5_10 (pc' := 112) dX5_likely_109 rfl rfl rfl rfl ?_
      refine WG.getI f_X5_90 (pc' := 115) dX5_likely_112 rfl rfl rfl ?_
      rw [hS.2.2.1]
      refine WG.callSd (c_X5_power (by omega)) m_X5_225 b_X5_power rfl (zrk_of rfl) rfl (Nat.le_of_ble_eq_true rfl) dX5_likely_115 (pc' := 118) rfl ?_
      refine WG.iload_n (pc' := 119) dX5_likely_118 rfl rfl ?_
      refine WG.callSd (c_X5_fraction (zbd_of (zsl_b (zgl_b ab.2.1) m (by omega)) (by omega)) (zbd_of (zpw_l ab.1 hn).1 (by decide)) (zpw_l ab.1 hn).2) m_X5_171 b_X5_fraction rfl (zrk_of rfl) rfl (Nat.le_of_ble_eq_true rfl) dX5_likely_119 (pc' := 122) rfl ?_
      refine WG.lreturn dX5_likely_122 rfl ?_
      exact zokl hX zFr.rf he (by unfold zvLk; rw [show m = 2 ^ σ.1.1 by omega])
    · exact absurd (by rw [nI_ltI (by omega) (by omega)]; omega) c_65
  | succ q ih =>
    intro m hm
    have hm8 : m < 256 := by omega
    have es : zmg σ.1.2 (nI m) σ.1.1 ≤ b → zsl (zgl_ σ.1.2 σ.1.1 b (a - 1).toInt64) (m + 1) = zsl (zgl_ σ.1.2 σ.1.1 b (a - 1).toInt64) m + zpow (a - 1).toInt64 (zpc m 8) := fun z => by
      show _ + zgl_ _ _ _ _ _ = _
      unfold zgl_
      rw [if_pos z]
    have en : ¬ zmg σ.1.2 (nI m) σ.1.1 ≤ b → zsl (zgl_ σ.1.2 σ.1.1 b (a - 1).toInt64) (m + 1) = zsl (zgl_ σ.1.2 σ.1.1 b (a - 1).toInt64) m := fun z => by
      show _ + zgl_ _ _ _ _ _ = _
      unfold zgl_
      rw [if_neg z, Int64.add_zero]
    refine WG.iload (pc' := 58) dX5_likely_56 rfl rfl ?_
    refine WG.aload_n (pc' := 59) dX5_likely_58 rfl rfl ?_
    refine WG.getR (r := 1) f_X5_10 (pc' := 62) dX5_likely_59 rfl rfl rfl rfl ?_
    refine WG.callVd (c_X4_all hS) m_X5_147 b_X4_all rfl rfl rfl (zrk_of rfl) rfl (Nat.le_of_ble_eq_true rfl) dX5_likely_62 (pc' := 65) rfl ?_
    rw [ea]
    refine WG.icmp_gt (tgt := 104) (pc' := 68) dX5_likely_65 rfl (by decide) (fun c_65 => ?_) (fun c_65 => ?_)
    · exact absurd c_65 (by rw [nI_ltI (by omega) (by omega)]; omega)
    · refine WG.aload_n (pc' := 69) dX5_likely_68 rfl rfl ?_
      refine WG.getR (r := 1) f_X5_10 (pc' := 72) dX5_likely_69 rfl rfl rfl rfl ?_
      refine WG.iload (pc' := 74) dX5_likely_72 rfl rfl ?_
      refine WG.callVd (c_X4_missing hS _) m_X5_219 b_X4_missing rfl rfl rfl (zrk_of rfl) rfl (Nat.le_of_ble_eq_true rfl) dX5_likely_74 (pc' := 77) rfl ?_
      refine WG.iload_n (pc' := 78) dX5_likely_77 rfl rfl ?_
      refine WG.icmp_gt (tgt := 98) (pc' := 81) dX5_likely_78 rfl (by decide) (fun c_78 => ?_) (fun c_78 => ?_)
      · rw [← en (by grind)]
        refine WG.iinc1 (L' := [_, _, _, _, _, _, _]) (pc' := 101) dX5_likely_98 rfl rfl (by decide) rfl ?_
        refine WG.goto (tgt := 56) dX5_likely_101 (by decide) ?_
        rw [nI_1]
        exact ih (m + 1) (by omega)
      · refine WG.lload (pc' := 83) dX5_likely_81 rfl rfl ?_
        refine WG.iload_n (pc' := 84) dX5_likely_83 rfl rfl ?_
        refine WG.iconst (v := 1) (pc' := 85) dX5_likely_84 rfl rfl ?_
        refine WG.isub (pc' := 86) dX5_likely_85 rfl ?_
        refine WG.i2l (pc' := 87) dX5_likely_86 rfl ?_
        refine WG.iload (pc' := 89) dX5_likely_87 rfl rfl ?_
        refine WG.callSd (c_bitCount _ _) m_X5_202 b_J6_bitCount_0f7a4 rfl (zrk_of rfl) rfl (Nat.le_of_ble_eq_true rfl) dX5_likely_89 (pc' := 92) rfl ?_
        rw [zbc8 m hm8]
        refine WG.callSd (c_X5_power (by have := zpc_le m 8; omega)) m_X5_225 b_X5_power rfl (zrk_of rfl) rfl (Nat.le_of_ble_eq_true rfl) dX5_likely_92 (pc' := 95) rfl ?_
        refine WG.ladd (pc' := 96) dX5_likely_95 rfl ?_
        rw [← es (by grind)]
        refine WG.lstore (L' := [_, _, _, _, _, _, _]) (pc' := 98) dX5_likely_96 rfl (by decide) rfl ?_
        refine WG.iinc1 (L' := [_, _, _, _, _, _, _]) (pc' := 101) dX5_likely_98 rfl rfl (by decide) rfl ?_
        refine WG.goto (tgt := 56) dX5_likely_101 (by decide) ?_
        rw [nI_1]
        exact ih (m + 1) (by omega)
set_option maxHeartbeats 4000000 in
set_option maxRecDepth 100000 in
theorem x_likely {σ : zA} {h : zH} (hX : RX σ h) (a b p : Int32) : K_X5_likely [.ref 0, .int a, .int b, .int p] h (zPl RX zB1 h σ (zeLk a b p) (zvLk σ.1.1 σ.1.2 a b p)) := by
  refine CT.of rfl rfl (Nat.le_of_ble_eq_true rfl) rfl ?_
  refine WG.iload_n (pc' := 1) dX5_likely_0 rfl rfl ?_
  refine WG.iconst (v := 2) (pc' := 2) dX5_likely_1 rfl rfl ?_
  refine WG.icmp_lt (tgt := 9) (pc' := 5) dX5_likely_2 rfl (by decide) (fun c_2 => ?_) (fun c_2 => ?_)
  · refine WG.aload_n (pc' := 10) dX5_likely_9 rfl rfl ?_
    refine WG.bipush (v := -4) (pc' := 12) dX5_likely_10 rfl rfl ?_
    refine WG.callVd (c_X5_refuseLong 4 (by decide)) m_X5_116 b_X5_refuseLong rfl rfl rfl (zrk_of rfl) rfl (Nat.le_of_ble_eq_true rfl) dX5_likely_12 (pc' := 15) rfl ?_
    refine WG.lreturn dX5_likely_15 rfl ?_
    exact zrXl hX zFr.rf (by decide) (zes_t (by grind))
  · refine WG.iload_n (pc' := 6) dX5_likely_5 rfl rfl ?_
    refine WG.if_ge (tgt := 16) (pc' := 9) dX5_likely_6 rfl (by decide) (fun c_6 => ?_) (fun c_6 => ?_)
    · refine WG.iload_n (pc' := 17) dX5_likely_16 rfl rfl ?_
      refine WG.bipush (v := 20) (pc' := 19) dX5_likely_17 rfl rfl ?_
      refine WG.icmp_gt (tgt := 29) (pc' := 22) dX5_likely_19 rfl (by decide) (fun c_19 => ?_) (fun c_19 => ?_)
      · refine WG.aload_n (pc' := 30) dX5_likely_29 rfl rfl ?_
        refine WG.bipush (v := -6) (pc' := 32) dX5_likely_30 rfl rfl ?_
        refine WG.callVd (c_X5_refuseLong 6 (by decide)) m_X5_116 b_X5_refuseLong rfl rfl rfl (zrk_of rfl) rfl (Nat.le_of_ble_eq_true rfl) dX5_likely_32 (pc' := 35) rfl ?_
        refine WG.lreturn dX5_likely_35 rfl ?_
        exact zrXl hX zFr.rf (by decide) ((zes_f (by grind)).trans (zes_t (by grind)))
      · refine WG.iload_n (pc' := 23) dX5_likely_22 rfl rfl ?_
        refine WG.sipush (v := 9999) (pc' := 26) dX5_likely_23 rfl rfl ?_
        refine WG.icmp_le (tgt := 36) (pc' := 29) dX5_likely_26 rfl (by decide) (fun c_26 => ?_) (fun c_26 => ?_)
        · refine WG.iload_n (pc' := 37) dX5_likely_36 rfl rfl ?_
          refine WG.callSd (c_X5_isOneOfTwo h p) m_X5_144 b_X5_isOneOfTwo rfl (zrk_of rfl) rfl (Nat.le_of_ble_eq_true rfl) dX5_likely_37 (pc' := 40) rfl ?_
          refine WG.if_ne (tgt := 50) (pc' := 43) dX5_likely_40 rfl (by decide) (fun c_40 => ?_) (fun c_40 => ?_)
          · rw [zb_ne] at c_40
            have he : zeLk a b p = 0 := (zes_f (by grind)).trans ((zes_f (by grind)).trans (zes_n c_40))
            refine WG.lconst (v := 0) (pc' := 51) dX5_likely_50 rfl rfl ?_
            refine WG.lstore (L' := [_, _, _, _, _, _, _]) (pc' := 53) dX5_likely_51 rfl (by decide) rfl ?_
            refine WG.iconst (v := 0) (pc' := 54) dX5_likely_53 rfl rfl ?_
            refine WG.istore (L' := [_, _, _, _, _, _, _]) (pc' := 56) dX5_likely_54 rfl (by decide) rfl ?_
            exact x_likelyL hX he (by grind) (by grind) (2 ^ σ.1.1) 0 (by omega)
          · rw [zb_eq] at c_40
            refine WG.aload_n (pc' := 44) dX5_likely_43 rfl rfl ?_
            refine WG.bipush (v := -2) (pc' := 46) dX5_likely_44 rfl rfl ?_
            refine WG.callVd (c_X5_refuseLong 2 (by decide)) m_X5_116 b_X5_refuseLong rfl rfl rfl (zrk_of rfl) rfl (Nat.le_of_ble_eq_true rfl) dX5_likely_46 (pc' := 49) rfl ?_
            refine WG.lreturn dX5_likely_49 rfl ?_
            exact zrXl hX zFr.rf (by decide) ((zes_f (by grind)).trans ((zes_f (by grind)).trans (zes_t c_40)))
        · refine WG.aload_n (pc' := 30) dX5_likely_29 rfl rfl ?_
          refine WG.bipush (v := -6) (pc' := 32) dX5_likely_30 rfl rfl ?_
          refine WG.callVd (c_X5_refuseLong 6 (by decide)) m_X5_116 b_X5_refuseLong rfl rfl rfl (zrk_of rfl) rfl (Nat.le_of_ble_eq_true rfl) dX5_likely_32 (pc' := 35) rfl ?_
          refine WG.lreturn dX5_likely_35 rfl ?_
          exact zrXl hX zFr.rf (by decide) ((zes_f (by grind)).trans (zes_t (by grind)))
    · refine WG.aload_n (pc' := 10) dX5_likely_9 rfl rfl ?_
      refine WG.bipush (v := -4) (pc' := 12) dX5_likely_10 rfl rfl ?_
      refine WG.callVd (c_X5_refuseLong 4 (by decide)) m_X5_116 b_X5_refuseLong rfl rfl rfl (zrk_of rfl) rfl (Nat.le_of_ble_eq_true rfl) dX5_likely_12 (pc' := 15) rfl ?_
      refine WG.lreturn dX5_likely_15 rfl ?_
      exact zrXl hX zFr.rf (by decide) (zes_t (by grind))
