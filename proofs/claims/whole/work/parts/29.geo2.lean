set_option maxHeartbeats 4000000 in
set_option maxRecDepth 100000 in
theorem c_X6_areaOf {n : Nat} {w t : Int64} {ux uy px py : Nat → Int64} {h : zH} {p : Int32} (hL : RCm n w ux uy px py h) (hb : 0 ≤ w.toInt ∧ w.toInt ≤ 2592) (h0 : 0 < w) (ht : zbd t) : K_X6_areaOf [.ref 86, .long t, .int p] h (zD (some (.long (zfr t (2 * w * w) p))) h) := by
  refine CT.of rfl rfl (Nat.le_of_ble_eq_true rfl) rfl ?_
  refine WG.lload_n (pc' := 1) dX6_areaOf_0 rfl rfl ?_
  refine WG.ldc2 (pc' := 4) dX6_areaOf_1 rfl k_X6_218 ?_
  refine WG.aload_n (pc' := 5) dX6_areaOf_4 rfl rfl ?_
  refine WG.getL f_X6_193 (pc' := 8) dX6_areaOf_5 rfl rfl rfl ?_
  refine WG.lmul (pc' := 9) dX6_areaOf_8 rfl ?_
  refine WG.aload_n (pc' := 10) dX6_areaOf_9 rfl rfl ?_
  refine WG.getL f_X6_193 (pc' := 13) dX6_areaOf_10 rfl rfl rfl ?_
  refine WG.lmul (pc' := 14) dX6_areaOf_13 rfl ?_
  rw [hL.2.1]
  refine WG.iload_n (pc' := 15) dX6_areaOf_14 rfl rfl ?_
  refine WG.callSd (c_X6_lowest ht (zbd_of (zun_b hb).2 (by decide)) (zUne hb h0)) m_X6_204 b_X6_lowest rfl (zrk_of rfl) rfl (Nat.le_of_ble_eq_true rfl) dX6_areaOf_15 (pc' := 18) rfl ?_
  refine WG.lreturn dX6_areaOf_18 rfl ?_
  exact ⟨rfl, rfl⟩
noncomputable def zeAr (n : Nat) (f : zf) (p : Int32) : Int32 := zes [(¬ (p = 0 ∨ p = 1), -2), (¬ 0 < zWt f n, -3)]
set_option maxHeartbeats 4000000 in
set_option maxRecDepth 100000 in
theorem x_area {σ : zA} {h : zH} (hX : RX σ h) (hV : VS σ.1.1 σ.1.2) (p : Int32) : K_X5_area [.ref 0, .int p] h (zPl RX zB1 h σ (zeAr σ.1.1 σ.1.2 p) (zfr (zcs σ.1.1 (zx σ.1.2 σ.1.1 0) (zx σ.1.2 σ.1.1 1) σ.1.1) (2 * zWt σ.1.2 σ.1.1 * zWt σ.1.2 σ.1.1) p)) := by
  have hS := hX.1
  have hn := hS.2.1
  have hwb := zWt_b hV
  refine CT.of rfl rfl (Nat.le_of_ble_eq_true rfl) rfl ?_
  refine WG.iload_n (pc' := 1) dX5_area_0 rfl rfl ?_
  refine WG.callSd (c_X5_isOneOfTwo h p) m_X5_144 b_X5_isOneOfTwo rfl (zrk_of rfl) rfl (Nat.le_of_ble_eq_true rfl) dX5_area_1 (pc' := 4) rfl ?_
  refine WG.if_ne (tgt := 14) (pc' := 7) dX5_area_4 rfl (by decide) (fun c_4 => ?_) (fun c_4 => ?_)
  · rw [zb_ne] at c_4
    refine WG.aload_n (pc' := 15) dX5_area_14 rfl rfl ?_
    refine WG.getR (r := 69) f_X5_36 (pc' := 18) dX5_area_15 rfl rfl rfl rfl ?_
    refine WG.aload_n (pc' := 19) dX5_area_18 rfl rfl ?_
    refine WG.getR (r := 1) f_X5_10 (pc' := 22) dX5_area_19 rfl rfl rfl rfl ?_
    refine WG.callV (x_settle hX) m_X5_156 b_X0_settle rfl rfl rfl (zrk_of rfl) rfl (Nat.le_of_ble_eq_true rfl) dX5_area_22 (pc' := 25) rfl (fun r_ h_ q_ => ?_)
    obtain ⟨rfl, hL, hX1, hF1⟩ := q_
    refine WG.if_ne (tgt := 35) (pc' := 28) dX5_area_25 rfl (by decide) (fun c_25 => ?_) (fun c_25 => ?_)
    · rw [zb_ne] at c_25
      refine WG.aload_n (pc' := 36) dX5_area_35 rfl rfl ?_
      refine WG.getR (r := 69) f_X5_36 (pc' := 39) dX5_area_36 rfl rfl rfl rfl ?_
      refine WG.callVd (c_X0_crossSum hL) m_X5_179 b_X0_crossSum rfl rfl rfl (zrk_of rfl) rfl (Nat.le_of_ble_eq_true rfl) dX5_area_39 (pc' := 42) rfl ?_
      refine WG.aload_n (pc' := 43) dX5_area_42 rfl rfl ?_
      refine WG.getR (r := 69) f_X5_36 (pc' := 46) dX5_area_43 rfl rfl rfl rfl ?_
      refine WG.callVd (c_X0_unit hL) m_X5_183 b_X0_unit rfl rfl rfl (zrk_of rfl) rfl (Nat.le_of_ble_eq_true rfl) dX5_area_46 (pc' := 49) rfl ?_
      refine WG.iload_n (pc' := 50) dX5_area_49 rfl rfl ?_
      refine WG.callSd (c_X5_fraction (zbd_of (zcs_b hn (zPB_x hV) _ (Nat.le_refl _)) (by omega)) (zbd_of (zun_b hwb).2 (by decide)) (zUne hwb c_25)) m_X5_171 b_X5_fraction rfl (zrk_of rfl) rfl (Nat.le_of_ble_eq_true rfl) dX5_area_50 (pc' := 53) rfl ?_
      refine WG.lreturn dX5_area_53 rfl ?_
      exact zokl hX1 hF1 ((zes_n c_4).trans (zes_n c_25)) rfl
    · rw [zb_eq] at c_25
      refine WG.aload_n (pc' := 29) dX5_area_28 rfl rfl ?_
      refine WG.bipush (v := -3) (pc' := 31) dX5_area_29 rfl rfl ?_
      refine WG.callVd (c_X5_refuseLong 3 (by decide)) m_X5_116 b_X5_refuseLong rfl rfl rfl (zrk_of rfl) rfl (Nat.le_of_ble_eq_true rfl) dX5_area_31 (pc' := 34) rfl ?_
      refine WG.lreturn dX5_area_34 rfl ?_
      exact zrXl hX1 hF1 (by decide) ((zes_n c_4).trans (zes_t c_25))
  · rw [zb_eq] at c_4
    refine WG.aload_n (pc' := 8) dX5_area_7 rfl rfl ?_
    refine WG.bipush (v := -2) (pc' := 10) dX5_area_8 rfl rfl ?_
    refine WG.callVd (c_X5_refuseLong 2 (by decide)) m_X5_116 b_X5_refuseLong rfl rfl rfl (zrk_of rfl) rfl (Nat.le_of_ble_eq_true rfl) dX5_area_10 (pc' := 13) rfl ?_
    refine WG.lreturn dX5_area_13 rfl ?_
    exact zrXl hX zFr.rf (by decide) (zes_t c_4)
set_option maxHeartbeats 4000000 in
set_option maxRecDepth 100000 in
theorem m_area {σ : zA} {h : zH} (hX : RM σ h) (hV : VS σ.1.1 σ.1.2) (p : Int32) : K_X6_area [.ref 86, .int p] h (zPl RM zB2 h σ (zeAr σ.1.1 σ.1.2 p) (zfr (zcs σ.1.1 (zx σ.1.2 σ.1.1 0) (zx σ.1.2 σ.1.1 1) σ.1.1) (2 * zWt σ.1.2 σ.1.1 * zWt σ.1.2 σ.1.1) p)) := by
  have hS := hX.1
  have hn := hS.1
  have hwb := zWt_b hV
  refine CT.of rfl rfl (Nat.le_of_ble_eq_true rfl) rfl ?_
  have loop : ∀ (h1 : zH), RCm σ.1.1 (zWt σ.1.2 σ.1.1) (zu σ.1.2 σ.1.1 0) (zu σ.1.2 σ.1.1 1) (zx σ.1.2 σ.1.1 0) (zx σ.1.2 σ.1.1 1) h1 → RM σ h1 → zFr zB2 h h1 → 0 < zWt σ.1.2 σ.1.1 → (p = 0 ∨ p = 1) → ∀ (m i : Nat), i ≤ σ.1.1 → σ.1.1 - i < m → W_X6_area (zPl RM zB2 h σ (zeAr σ.1.1 σ.1.2 p) (zfr (zcs σ.1.1 (zx σ.1.2 σ.1.1 0) (zx σ.1.2 σ.1.1 1) σ.1.1) (2 * zWt σ.1.2 σ.1.1 * zWt σ.1.2 σ.1.1) p)) 33 [some (.ref 86), some (.int p), some (.long (zcs σ.1.1 (zx σ.1.2 σ.1.1 0) (zx σ.1.2 σ.1.1 1) i)), none, some (.int (nI i))] [] h1 := by
    intro h1 hL hX1 hF1 hw hp m
    induction m with
    | zero => intro i a b; omega
    | succ m ih =>
      intro i hi hm
      refine WG.iload (pc' := 35) dX6_area_33 rfl rfl ?_
      refine WG.aload_n (pc' := 36) dX6_area_35 rfl rfl ?_
      refine WG.callVd (c_X6_many hX1.1) m_X6_63 b_X6_many rfl rfl rfl (zrk_of rfl) rfl (Nat.le_of_ble_eq_true rfl) dX6_area_36 (pc' := 39) rfl ?_
      refine WG.icmp_ge (tgt := 86) (pc' := 42) dX6_area_39 rfl (by decide) (fun c_39 => ?_) (fun c_39 => ?_)
      · have ei : i = σ.1.1 := by have := (nI_leI (by omega) (by omega)).mp c_39; omega
        rw [ei]
        refine WG.aload_n (pc' := 87) dX6_area_86 rfl rfl ?_
        refine WG.lload_n (pc' := 88) dX6_area_87 rfl rfl ?_
        refine WG.iload_n (pc' := 89) dX6_area_88 rfl rfl ?_
        refine WG.callVd (c_X6_areaOf hL hwb hw (zbd_of (zcs_b hn (zPB_x hV) _ (Nat.le_refl _)) (by omega))) m_X6_223 b_X6_areaOf rfl rfl rfl (zrk_of rfl) rfl (Nat.le_of_ble_eq_true rfl) dX6_area_89 (pc' := 92) rfl ?_
        refine WG.lreturn dX6_area_92 rfl ?_
        exact zokl hX1 hF1 ((zes_n hp).trans (zes_n hw)) rfl
      · have hlt : i < σ.1.1 := by have := mt (nI_leI (a := σ.1.1) (b := i) (by omega) (by omega)).mpr c_39; omega
        refine WG.lload_n (pc' := 43) dX6_area_42 rfl rfl ?_
        refine WG.aload_n (pc' := 44) dX6_area_43 rfl rfl ?_
        refine WG.iload (pc' := 46) dX6_area_44 rfl rfl ?_
        refine WG.callVd (c_X6_x hL hlt) m_X6_208 b_X6_x rfl rfl rfl (zrk_of rfl) rfl (Nat.le_of_ble_eq_true rfl) dX6_area_46 (pc' := 49) rfl ?_
        refine WG.aload_n (pc' := 50) dX6_area_49 rfl rfl ?_
        refine WG.aload_n (pc' := 51) dX6_area_50 rfl rfl ?_
        refine WG.iload (pc' := 53) dX6_area_51 rfl rfl ?_
        refine WG.callVd (c_X6_next hX1.1 hlt) m_X6_220 b_X6_next rfl rfl rfl (zrk_of rfl) rfl (Nat.le_of_ble_eq_true rfl) dX6_area_53 (pc' := 56) rfl ?_
        refine WG.callVd (c_X6_y hL (zro_lt hlt)) m_X6_211 b_X6_y rfl rfl rfl (zrk_of rfl) rfl (Nat.le_of_ble_eq_true rfl) dX6_area_56 (pc' := 59) rfl ?_
        refine WG.lmul (pc' := 60) dX6_area_59 rfl ?_
        refine WG.aload_n (pc' := 61) dX6_area_60 rfl rfl ?_
        refine WG.iload (pc' := 63) dX6_area_61 rfl rfl ?_
        refine WG.callVd (c_X6_y hL hlt) m_X6_211 b_X6_y rfl rfl rfl (zrk_of rfl) rfl (Nat.le_of_ble_eq_true rfl) dX6_area_63 (pc' := 66) rfl ?_
        refine WG.aload_n (pc' := 67) dX6_area_66 rfl rfl ?_
        refine WG.aload_n (pc' := 68) dX6_area_67 rfl rfl ?_
        refine WG.iload (pc' := 70) dX6_area_68 rfl rfl ?_
        refine WG.callVd (c_X6_next hX1.1 hlt) m_X6_220 b_X6_next rfl rfl rfl (zrk_of rfl) rfl (Nat.le_of_ble_eq_true rfl) dX6_area_70 (pc' := 73) rfl ?_
        refine WG.callVd (c_X6_x hL (zro_lt hlt)) m_X6_208 b_X6_x rfl rfl rfl (zrk_of rfl) rfl (Nat.le_of_ble_eq_true rfl) dX6_area_73 (pc' := 76) rfl ?_
        refine WG.lmul (pc' := 77) dX6_area_76 rfl ?_
        refine WG.lsub (pc' := 78) dX6_area_77 rfl ?_
        refine WG.ladd (pc' := 79) dX6_area_78 rfl ?_
        refine WG.lstore_n (L' := [_, _, _, _, _]) (pc' := 80) dX6_area_79 rfl (by decide) rfl ?_
        refine WG.iinc1 (L' := [_, _, _, _, _]) (pc' := 83) dX6_area_80 rfl rfl (by decide) rfl ?_
        refine WG.goto (tgt := 33) dX6_area_83 (by decide) ?_
        have q := ih (i + 1) hlt (by omega)
        rw [nI_succ] at q
        exact q
  refine WG.iload_n (pc' := 1) dX6_area_0 rfl rfl ?_
  refine WG.callSd (c_X6_isPart h p) m_X6_197 b_X6_isPart rfl (zrk_of rfl) rfl (Nat.le_of_ble_eq_true rfl) dX6_area_1 (pc' := 4) rfl ?_
  refine WG.if_ne (tgt := 14) (pc' := 7) dX6_area_4 rfl (by decide) (fun c_4 => ?_) (fun c_4 => ?_)
  · rw [zb_ne] at c_4
    refine WG.aload_n (pc' := 15) dX6_area_14 rfl rfl ?_
    refine WG.callV (m_spreads hX) m_X6_200 b_X6_spreadsAll rfl rfl rfl (zrk_of rfl) rfl (Nat.le_of_ble_eq_true rfl) dX6_area_15 (pc' := 18) rfl (fun r_ h_ q_ => ?_)
    obtain ⟨rfl, hL, hX1, hF1⟩ := q_
    refine WG.if_ne (tgt := 28) (pc' := 21) dX6_area_18 rfl (by decide) (fun c_18 => ?_) (fun c_18 => ?_)
    · rw [zb_ne] at c_18
      refine WG.lconst (v := 0) (pc' := 29) dX6_area_28 rfl rfl ?_
      refine WG.lstore_n (L' := [_, _, _, _, _]) (pc' := 30) dX6_area_29 rfl (by decide) rfl ?_
      refine WG.iconst (v := 0) (pc' := 31) dX6_area_30 rfl rfl ?_
      refine WG.istore (L' := [_, _, _, _, _]) (pc' := 33) dX6_area_31 rfl (by decide) rfl ?_
      exact loop _ hL hX1 hF1 c_18 c_4 (σ.1.1 + 1) 0 (by omega) (by omega)
    · rw [zb_eq] at c_18
      refine WG.aload_n (pc' := 22) dX6_area_21 rfl rfl ?_
      refine WG.bipush (v := -3) (pc' := 24) dX6_area_22 rfl rfl ?_
      refine WG.callVd (c_X6_far 3 (by decide)) m_X6_177 b_X6_far rfl rfl rfl (zrk_of rfl) rfl (Nat.le_of_ble_eq_true rfl) dX6_area_24 (pc' := 27) rfl ?_
      refine WG.lreturn dX6_area_27 rfl ?_
      exact zrMl hX1 hF1 (by decide) ((zes_n c_4).trans (zes_t c_18))
  · rw [zb_eq] at c_4
    refine WG.aload_n (pc' := 8) dX6_area_7 rfl rfl ?_
    refine WG.bipush (v := -2) (pc' := 10) dX6_area_8 rfl rfl ?_
    refine WG.callVd (c_X6_far 2 (by decide)) m_X6_177 b_X6_far rfl rfl rfl (zrk_of rfl) rfl (Nat.le_of_ble_eq_true rfl) dX6_area_10 (pc' := 13) rfl ?_
    refine WG.lreturn dX6_area_13 rfl ?_
    exact zrMl hX zFr.rf (by decide) (zes_t c_4)
noncomputable def zeTu (n : Nat) (f : zf) (s : Int32) : Int32 := zes [(¬ zsd n s, -1), (¬ 0 < zWt f n, -3)]
def zpv (n c : Nat) : Nat := if c = 0 then n - 1 else c - 1
set_option maxHeartbeats 4000000 in
set_option maxRecDepth 100000 in
theorem x_turn {σ : zA} {h : zH} (hX : RX σ h) (s : Int32) : K_X5_turn [.ref 0, .int s] h (zPi RX zB1 h σ (zeTu σ.1.1 σ.1.2 s) (ztn (zu σ.1.2 σ.1.1 0 (zpv σ.1.1 s.toNatClampNeg)) (zu σ.1.2 σ.1.1 1 (zpv σ.1.1 s.toNatClampNeg)) (zu σ.1.2 σ.1.1 0 s.toNatClampNeg) (zu σ.1.2 σ.1.1 1 s.toNatClampNeg)) σ) := by
  have hS := hX.1
  have hn := hS.2.1
  refine CT.of rfl rfl (Nat.le_of_ble_eq_true rfl) rfl ?_
  refine WG.aload_n (pc' := 1) dX5_turn_0 rfl rfl ?_
  refine WG.getR (r := 1) f_X5_10 (pc' := 4) dX5_turn_1 rfl rfl rfl rfl ?_
  refine WG.iload_n (pc' := 5) dX5_turn_4 rfl rfl ?_
  refine WG.callVd (c_X4_has hS s) m_X5_105 b_X4_has rfl rfl rfl (zrk_of rfl) rfl (Nat.le_of_ble_eq_true rfl) dX5_turn_5 (pc' := 8) rfl ?_
  refine WG.if_ne (tgt := 17) (pc' := 11) dX5_turn_8 rfl (by decide) (fun c_8 => ?_) (fun c_8 => ?_)
  · rw [zb_ne] at c_8
    refine WG.aload_n (pc' := 18) dX5_turn_17 rfl rfl ?_
    refine WG.getR (r := 69) f_X5_36 (pc' := 21) dX5_turn_18 rfl rfl rfl rfl ?_
    refine WG.aload_n (pc' := 22) dX5_turn_21 rfl rfl ?_
    refine WG.getR (r := 1) f_X5_10 (pc' := 25) dX5_turn_22 rfl rfl rfl rfl ?_
    refine WG.callV (x_settle hX) m_X5_156 b_X0_settle rfl rfl rfl (zrk_of rfl) rfl (Nat.le_of_ble_eq_true rfl) dX5_turn_25 (pc' := 28) rfl (fun r_ h_ q_ => ?_)
    obtain ⟨rfl, hL, hX1, hF1⟩ := q_
    refine WG.if_ne (tgt := 38) (pc' := 31) dX5_turn_28 rfl (by decide) (fun c_28 => ?_) (fun c_28 => ?_)
    · rw [zb_ne] at c_28
      have he : zeTu σ.1.1 σ.1.2 s = 0 := (zes_n c_8).trans (zes_n c_28)
      obtain ⟨j, hj, rfl⟩ := zsd_of (by omega) c_8
      rw [nI_clamp (by omega)]
      refine WG.aload_n (pc' := 39) dX5_turn_38 rfl rfl ?_
      refine WG.getR (r := 69) f_X5_36 (pc' := 42) dX5_turn_39 rfl rfl rfl rfl ?_
      refine WG.iload_n (pc' := 43) dX5_turn_42 rfl rfl ?_
      refine WG.callVd (c_X0_turnAt hL hj (t := zpv σ.1.1 j) rfl) m_X5_186 b_X0_turnAt rfl rfl rfl (zrk_of rfl) rfl (Nat.le_of_ble_eq_true rfl) dX5_turn_43 (pc' := 46) rfl ?_
      refine WG.ireturn dX5_turn_46 rfl (by first | rfl | decide) ?_
      exact zok hX1 hF1 he rfl
    · rw [zb_eq] at c_28
      refine WG.aload_n (pc' := 32) dX5_turn_31 rfl rfl ?_
      refine WG.bipush (v := -3) (pc' := 34) dX5_turn_32 rfl rfl ?_
      refine WG.callVd (c_X5_refuse 3 (by decide)) m_X5_71 b_X5_refuse rfl rfl rfl (zrk_of rfl) rfl (Nat.le_of_ble_eq_true rfl) dX5_turn_34 (pc' := 37) rfl ?_
      refine WG.ireturn dX5_turn_37 rfl (by first | rfl | decide) ?_
      exact zrX hX1 hF1 (by decide) ((zes_n c_8).trans (zes_t c_28))
  · rw [zb_eq] at c_8
    refine WG.aload_n (pc' := 12) dX5_turn_11 rfl rfl ?_
    refine WG.iconst (v := -1) (pc' := 13) dX5_turn_12 rfl rfl ?_
    refine WG.callVd (c_X5_refuse 1 (by decide)) m_X5_71 b_X5_refuse rfl rfl rfl (zrk_of rfl) rfl (Nat.le_of_ble_eq_true rfl) dX5_turn_13 (pc' := 16) rfl ?_
    refine WG.ireturn dX5_turn_16 rfl (by first | rfl | decide) ?_
    exact zrX hX zFr.rf (by decide) (zes_t c_8)
theorem zsq0 {a b : Int} (h : a * a + b * b = 0) : a = 0 ∧ b = 0 := by
  have h1 : 0 ≤ a * a := by rcases Int.le_total 0 a with q | q; exact Int.mul_nonneg q q; exact Int.mul_nonneg_of_nonpos_of_nonpos q q
  have h2 : 0 ≤ b * b := by rcases Int.le_total 0 b with q | q; exact Int.mul_nonneg q q; exact Int.mul_nonneg_of_nonpos_of_nonpos q q
  exact ⟨by rcases Int.mul_eq_zero.mp (show a * a = 0 by omega) with q | q <;> exact q, by rcases Int.mul_eq_zero.mp (show b * b = 0 by omega) with q | q <;> exact q⟩
theorem zperp {ax ay bx by_ : Int} (h1 : ax * by_ - ay * bx = 0) (h2 : ax * bx + ay * by_ = 0) (ha : ¬ (ax = 0 ∧ ay = 0)) : bx = 0 ∧ by_ = 0 := by
  have e1 : (ax * ax + ay * ay) * bx = ax * (ax * bx + ay * by_) - ay * (ax * by_ - ay * bx) := by grind
  have e2 : (ax * ax + ay * ay) * by_ = ay * (ax * bx + ay * by_) + ax * (ax * by_ - ay * bx) := by grind
  rw [h1, h2] at e1 e2
  have n : ax * ax + ay * ay ≠ 0 := fun q => ha (zsq0 q)
  constructor
  · rcases Int.mul_eq_zero.mp (show (ax * ax + ay * ay) * bx = 0 by rw [e1]; omega) with q | q
    · exact absurd q n
    · exact q
  · rcases Int.mul_eq_zero.mp (show (ax * ax + ay * ay) * by_ = 0 by rw [e2]; omega) with q | q
    · exact absurd q n
    · exact q
/-- neither straight on nor back only if a step is 0 -/
theorem zdot {ax ay bx by_ : Int64} (h1 : zl ax 7978176) (h2 : zl ay 7978176) (h3 : zl bx 7978176) (h4 : zl by_ 7978176) (hn : ¬ ((ax = 0 ∧ ay = 0) ∨ (bx = 0 ∧ by_ = 0))) (hc : ax * by_ - ay * bx = 0) : ax * bx + ay * by_ ≠ 0 := by
  intro hd
  have z : (0 : Int64).toInt = 0 := by decide
  have m1 := zl_mul h1 h4 (by decide)
  have m2 := zl_mul h2 h3 (by decide)
  have m3 := zl_mul h1 h3 (by decide)
  have m4 := zl_mul h2 h4 (by decide)
  have s1 := (zl_sub m1.2 m2.2 (by decide)).1
  have s2 := (zl_add m3.2 m4.2 (by decide)).1
  rw [hc, z, m1.1, m2.1] at s1
  rw [hd, z, m3.1, m4.1] at s2
  have e : ∀ x : Int64, x.toInt = 0 → x = 0 := fun x q => Int64.toInt_inj.mp (by rw [q, z])
  have := zperp s1.symm s2.symm (fun q => hn (Or.inl ⟨e _ q.1, e _ q.2⟩))
  exact hn (Or.inr ⟨e _ this.1, e _ this.2⟩)
set_option maxHeartbeats 4000000 in
set_option maxRecDepth 100000 in
theorem m_turnJ {n t j : Nat} {w : Int64} {ux uy px py : Nat → Int64} {h : zH} {Q : Option Value → zH → Prop} (hL : RCm n w ux uy px py h) (ht : t < n) (hj : j < n) (hdt : ¬ ((ux t = 0 ∧ uy t = 0) ∨ (ux j = 0 ∧ uy j = 0)) → ux t * uy j - uy t * ux j = 0 → ux t * ux j + uy t * uy j ≠ 0) (hQ : Q (some (.int (ztn (ux t) (uy t) (ux j) (uy j)))) h) : W_X6_turn Q 44 [some (.ref 86), some (.int (nI j)), none, none, none, none, none, none, none, none, none, none, none] [.int (nI t)] h := by
  have hn := hL.1
  have t1 := (hL.2.2.1 _ ht).1
  have t2 := (hL.2.2.1 _ ht).2
  have t3 := (hL.2.2.1 _ hj).1
  have t4 := (hL.2.2.1 _ hj).2
  generalize ux t = ax at *
  generalize uy t = ay at *
  generalize ux j = bx at *
  generalize uy j = by_ at *
  have key : ∀ v : Int32, v = ztn ax ay bx by_ → Q (some (.int v)) h := fun v hv => by rw [hv]; exact hQ
  refine WG.istore_n (L' := [_, _, _, _, _, _, _, _, _, _, _, _, _]) (pc' := 45) dX6_turn_44 rfl (by decide) rfl ?_
  refine WG.aload_n (pc' := 46) dX6_turn_45 rfl rfl ?_
  refine WG.getR (r := 94) f_X6_41 (pc' := 49) dX6_turn_46 rfl rfl rfl rfl ?_
  refine WG.iconst (v := 2) (pc' := 50) dX6_turn_49 rfl rfl ?_
  refine WG.iload_n (pc' := 51) dX6_turn_50 rfl rfl ?_
  refine WG.imul (pc' := 52) dX6_turn_51 rfl ?_
  refine WG.laloadN (j := 2 * t) (pc' := 53) dX6_turn_52 rfl rfl (zi2' t) (by omega) (by first | decide | omega) ?_
  rw [t1]
  refine WG.lstore_n (L' := [_, _, _, _, _, _, _, _, _, _, _, _, _]) (pc' := 54) dX6_turn_53 rfl (by decide) rfl ?_
  refine WG.aload_n (pc' := 55) dX6_turn_54 rfl rfl ?_
  refine WG.getR (r := 94) f_X6_41 (pc' := 58) dX6_turn_55 rfl rfl rfl rfl ?_
  refine WG.iconst (v := 2) (pc' := 59) dX6_turn_58 rfl rfl ?_
  refine WG.iload_n (pc' := 60) dX6_turn_59 rfl rfl ?_
  refine WG.imul (pc' := 61) dX6_turn_60 rfl ?_
  refine WG.iconst (v := 1) (pc' := 62) dX6_turn_61 rfl rfl ?_
  refine WG.iadd (pc' := 63) dX6_turn_62 rfl ?_
  refine WG.laloadN (j := 2 * t + 1) (pc' := 64) dX6_turn_63 rfl rfl (zi2 t 1) (by omega) (by first | decide | omega) ?_
  rw [t2]
  refine WG.lstore (L' := [_, _, _, _, _, _, _, _, _, _, _, _, _]) (pc' := 66) dX6_turn_64 rfl (by decide) rfl ?_
  refine WG.aload_n (pc' := 67) dX6_turn_66 rfl rfl ?_
  refine WG.getR (r := 94) f_X6_41 (pc' := 70) dX6_turn_67 rfl rfl rfl rfl ?_
  refine WG.iconst (v := 2) (pc' := 71) dX6_turn_70 rfl rfl ?_
  refine WG.iload_n (pc' := 72) dX6_turn_71 rfl rfl ?_
  refine WG.imul (pc' := 73) dX6_turn_72 rfl ?_
  refine WG.laloadN (j := 2 * j) (pc' := 74) dX6_turn_73 rfl rfl (zi2' j) (by omega) (by first | decide | omega) ?_
  rw [t3]
  refine WG.lstore (L' := [_, _, _, _, _, _, _, _, _, _, _, _, _]) (pc' := 76) dX6_turn_74 rfl (by decide) rfl ?_
  refine WG.aload_n (pc' := 77) dX6_turn_76 rfl rfl ?_
  refine WG.getR (r := 94) f_X6_41 (pc' := 80) dX6_turn_77 rfl rfl rfl rfl ?_
  refine WG.iconst (v := 2) (pc' := 81) dX6_turn_80 rfl rfl ?_
  refine WG.iload_n (pc' := 82) dX6_turn_81 rfl rfl ?_
  refine WG.imul (pc' := 83) dX6_turn_82 rfl ?_
  refine WG.iconst (v := 1) (pc' := 84) dX6_turn_83 rfl rfl ?_
  refine WG.iadd (pc' := 85) dX6_turn_84 rfl ?_
  refine WG.laloadN (j := 2 * j + 1) (pc' := 86) dX6_turn_85 rfl rfl (zi2 j 1) (by omega) (by first | decide | omega) ?_
  rw [t4]
  refine WG.lstore (L' := [_, _, _, _, _, _, _, _, _, _, _, _, _]) (pc' := 88) dX6_turn_86 rfl (by decide) rfl ?_
  refine WG.lload_n (pc' := 89) dX6_turn_88 rfl rfl ?_
  refine WG.lconst (v := 0) (pc' := 90) dX6_turn_89 rfl rfl ?_
  refine WG.lif_ne (tgt := 101) (pc1 := 91) (pc' := 94) dX6_turn_90 rfl dX6_turn_91 rfl (by decide) (fun c_91 => ?_) (fun c_91 => ?_)
  · refine WG.lload (pc' := 103) dX6_turn_101 rfl rfl ?_
    refine WG.lconst (v := 0) (pc' := 104) dX6_turn_103 rfl rfl ?_
    refine WG.lif_ne (tgt := 117) (pc1 := 105) (pc' := 108) dX6_turn_104 rfl dX6_turn_105 rfl (by decide) (fun c_105 => ?_) (fun c_105 => ?_)
    · refine WG.lload_n (pc' := 118) dX6_turn_117 rfl rfl ?_
      refine WG.lload (pc' := 120) dX6_turn_118 rfl rfl ?_
      refine WG.lmul (pc' := 121) dX6_turn_120 rfl ?_
      refine WG.lload (pc' := 123) dX6_turn_121 rfl rfl ?_
      refine WG.lload (pc' := 125) dX6_turn_123 rfl rfl ?_
      refine WG.lmul (pc' := 126) dX6_turn_125 rfl ?_
      refine WG.lsub (pc' := 127) dX6_turn_126 rfl ?_
      refine WG.lstore (L' := [_, _, _, _, _, _, _, _, _, _, _, _, _]) (pc' := 129) dX6_turn_127 rfl (by decide) rfl ?_
      refine WG.lload (pc' := 131) dX6_turn_129 rfl rfl ?_
      refine WG.lconst (v := 0) (pc' := 132) dX6_turn_131 rfl rfl ?_
      refine WG.lif_le (tgt := 140) (pc1 := 133) (pc' := 136) dX6_turn_132 rfl dX6_turn_133 rfl (by decide) (fun c_133 => ?_) (fun c_133 => ?_)
      · refine WG.lload (pc' := 142) dX6_turn_140 rfl rfl ?_
        refine WG.lconst (v := 0) (pc' := 143) dX6_turn_142 rfl rfl ?_
        refine WG.lif_ge (tgt := 151) (pc1 := 144) (pc' := 147) dX6_turn_143 rfl dX6_turn_144 rfl (by decide) (fun c_144 => ?_) (fun c_144 => ?_)
        · refine WG.lload_n (pc' := 152) dX6_turn_151 rfl rfl ?_
          refine WG.lload (pc' := 154) dX6_turn_152 rfl rfl ?_
          refine WG.lmul (pc' := 155) dX6_turn_154 rfl ?_
          refine WG.lload (pc' := 157) dX6_turn_155 rfl rfl ?_
          refine WG.lload (pc' := 159) dX6_turn_157 rfl rfl ?_
          refine WG.lmul (pc' := 160) dX6_turn_159 rfl ?_
          refine WG.ladd (pc' := 161) dX6_turn_160 rfl ?_
          refine WG.lconst (v := 0) (pc' := 162) dX6_turn_161 rfl rfl ?_
          refine WG.lif_ge (tgt := 170) (pc1 := 163) (pc' := 166) dX6_turn_162 rfl dX6_turn_163 rfl (by decide) (fun c_163 => ?_) (fun c_163 => ?_)
          · refine WG.iconst (v := 0) (pc' := 171) dX6_turn_170 rfl rfl ?_
            refine WG.ireturn dX6_turn_171 rfl (by first | rfl | decide) ?_
            exact key _ (by clear key hQ hL t1 t2 t3 t4; unfold ztn; grind)
          · refine WG.iconst (v := 3) (pc' := 167) dX6_turn_166 rfl rfl ?_
            refine WG.goto (tgt := 171) dX6_turn_167 (by decide) ?_
            refine WG.ireturn dX6_turn_171 rfl (by first | rfl | decide) ?_
            exact key _ (by clear key hQ hL t1 t2 t3 t4; unfold ztn; grind)
        · refine WG.iconst (v := 2) (pc' := 148) dX6_turn_147 rfl rfl ?_
          refine WG.goto (tgt := 171) dX6_turn_148 (by decide) ?_
          refine WG.ireturn dX6_turn_171 rfl (by first | rfl | decide) ?_
          exact key _ (by clear key hQ hL t1 t2 t3 t4; unfold ztn; grind)
      · refine WG.iconst (v := 1) (pc' := 137) dX6_turn_136 rfl rfl ?_
        refine WG.goto (tgt := 171) dX6_turn_137 (by decide) ?_
        refine WG.ireturn dX6_turn_171 rfl (by first | rfl | decide) ?_
        exact key _ (by clear key hQ hL t1 t2 t3 t4; unfold ztn; grind)
    · refine WG.lload (pc' := 110) dX6_turn_108 rfl rfl ?_
      refine WG.lconst (v := 0) (pc' := 111) dX6_turn_110 rfl rfl ?_
      refine WG.lif_ne (tgt := 117) (pc1 := 112) (pc' := 115) dX6_turn_111 rfl dX6_turn_112 rfl (by decide) (fun c_112 => ?_) (fun c_112 => ?_)
      · refine WG.lload_n (pc' := 118) dX6_turn_117 rfl rfl ?_
        refine WG.lload (pc' := 120) dX6_turn_118 rfl rfl ?_
        refine WG.lmul (pc' := 121) dX6_turn_120 rfl ?_
        refine WG.lload (pc' := 123) dX6_turn_121 rfl rfl ?_
        refine WG.lload (pc' := 125) dX6_turn_123 rfl rfl ?_
        refine WG.lmul (pc' := 126) dX6_turn_125 rfl ?_
        refine WG.lsub (pc' := 127) dX6_turn_126 rfl ?_
        refine WG.lstore (L' := [_, _, _, _, _, _, _, _, _, _, _, _, _]) (pc' := 129) dX6_turn_127 rfl (by decide) rfl ?_
        refine WG.lload (pc' := 131) dX6_turn_129 rfl rfl ?_
        refine WG.lconst (v := 0) (pc' := 132) dX6_turn_131 rfl rfl ?_
        refine WG.lif_le (tgt := 140) (pc1 := 133) (pc' := 136) dX6_turn_132 rfl dX6_turn_133 rfl (by decide) (fun c_133 => ?_) (fun c_133 => ?_)
        · refine WG.lload (pc' := 142) dX6_turn_140 rfl rfl ?_
          refine WG.lconst (v := 0) (pc' := 143) dX6_turn_142 rfl rfl ?_
          refine WG.lif_ge (tgt := 151) (pc1 := 144) (pc' := 147) dX6_turn_143 rfl dX6_turn_144 rfl (by decide) (fun c_144 => ?_) (fun c_144 => ?_)
          · refine WG.lload_n (pc' := 152) dX6_turn_151 rfl rfl ?_
            refine WG.lload (pc' := 154) dX6_turn_152 rfl rfl ?_
            refine WG.lmul (pc' := 155) dX6_turn_154 rfl ?_
            refine WG.lload (pc' := 157) dX6_turn_155 rfl rfl ?_
            refine WG.lload (pc' := 159) dX6_turn_157 rfl rfl ?_
            refine WG.lmul (pc' := 160) dX6_turn_159 rfl ?_
            refine WG.ladd (pc' := 161) dX6_turn_160 rfl ?_
            refine WG.lconst (v := 0) (pc' := 162) dX6_turn_161 rfl rfl ?_
            refine WG.lif_ge (tgt := 170) (pc1 := 163) (pc' := 166) dX6_turn_162 rfl dX6_turn_163 rfl (by decide) (fun c_163 => ?_) (fun c_163 => ?_)
            · refine WG.iconst (v := 0) (pc' := 171) dX6_turn_170 rfl rfl ?_
              refine WG.ireturn dX6_turn_171 rfl (by first | rfl | decide) ?_
              exact key _ (by clear key hQ hL t1 t2 t3 t4; unfold ztn; grind)
            · refine WG.iconst (v := 3) (pc' := 167) dX6_turn_166 rfl rfl ?_
              refine WG.goto (tgt := 171) dX6_turn_167 (by decide) ?_
              refine WG.ireturn dX6_turn_171 rfl (by first | rfl | decide) ?_
              exact key _ (by clear key hQ hL t1 t2 t3 t4; unfold ztn; grind)
          · refine WG.iconst (v := 2) (pc' := 148) dX6_turn_147 rfl rfl ?_
            refine WG.goto (tgt := 171) dX6_turn_148 (by decide) ?_
            refine WG.ireturn dX6_turn_171 rfl (by first | rfl | decide) ?_
            exact key _ (by clear key hQ hL t1 t2 t3 t4; unfold ztn; grind)
        · refine WG.iconst (v := 1) (pc' := 137) dX6_turn_136 rfl rfl ?_
          refine WG.goto (tgt := 171) dX6_turn_137 (by decide) ?_
          refine WG.ireturn dX6_turn_171 rfl (by first | rfl | decide) ?_
          exact key _ (by clear key hQ hL t1 t2 t3 t4; unfold ztn; grind)
      · refine WG.iconst (v := 4) (pc' := 116) dX6_turn_115 rfl rfl ?_
        refine WG.ireturn dX6_turn_116 rfl (by first | rfl | decide) ?_
        exact key _ (by clear key hQ hL t1 t2 t3 t4; unfold ztn; grind)
  · refine WG.lload (pc' := 96) dX6_turn_94 rfl rfl ?_
    refine WG.lconst (v := 0) (pc' := 97) dX6_turn_96 rfl rfl ?_
    refine WG.lif_eq (tgt := 115) (pc1 := 98) (pc' := 101) dX6_turn_97 rfl dX6_turn_98 rfl (by decide) (fun c_98 => ?_) (fun c_98 => ?_)
    · refine WG.iconst (v := 4) (pc' := 116) dX6_turn_115 rfl rfl ?_
      refine WG.ireturn dX6_turn_116 rfl (by first | rfl | decide) ?_
      exact key _ (by clear key hQ hL t1 t2 t3 t4; unfold ztn; grind)
    · refine WG.lload (pc' := 103) dX6_turn_101 rfl rfl ?_
      refine WG.lconst (v := 0) (pc' := 104) dX6_turn_103 rfl rfl ?_
      refine WG.lif_ne (tgt := 117) (pc1 := 105) (pc' := 108) dX6_turn_104 rfl dX6_turn_105 rfl (by decide) (fun c_105 => ?_) (fun c_105 => ?_)
      · refine WG.lload_n (pc' := 118) dX6_turn_117 rfl rfl ?_
        refine WG.lload (pc' := 120) dX6_turn_118 rfl rfl ?_
        refine WG.lmul (pc' := 121) dX6_turn_120 rfl ?_
        refine WG.lload (pc' := 123) dX6_turn_121 rfl rfl ?_
        refine WG.lload (pc' := 125) dX6_turn_123 rfl rfl ?_
        refine WG.lmul (pc' := 126) dX6_turn_125 rfl ?_
        refine WG.lsub (pc' := 127) dX6_turn_126 rfl ?_
        refine WG.lstore (L' := [_, _, _, _, _, _, _, _, _, _, _, _, _]) (pc' := 129) dX6_turn_127 rfl (by decide) rfl ?_
        refine WG.lload (pc' := 131) dX6_turn_129 rfl rfl ?_
        refine WG.lconst (v := 0) (pc' := 132) dX6_turn_131 rfl rfl ?_
        refine WG.lif_le (tgt := 140) (pc1 := 133) (pc' := 136) dX6_turn_132 rfl dX6_turn_133 rfl (by decide) (fun c_133 => ?_) (fun c_133 => ?_)
        · refine WG.lload (pc' := 142) dX6_turn_140 rfl rfl ?_
          refine WG.lconst (v := 0) (pc' := 143) dX6_turn_142 rfl rfl ?_
          refine WG.lif_ge (tgt := 151) (pc1 := 144) (pc' := 147) dX6_turn_143 rfl dX6_turn_144 rfl (by decide) (fun c_144 => ?_) (fun c_144 => ?_)
          · refine WG.lload_n (pc' := 152) dX6_turn_151 rfl rfl ?_
            refine WG.lload (pc' := 154) dX6_turn_152 rfl rfl ?_
            refine WG.lmul (pc' := 155) dX6_turn_154 rfl ?_
            refine WG.lload (pc' := 157) dX6_turn_155 rfl rfl ?_
            refine WG.lload (pc' := 159) dX6_turn_157 rfl rfl ?_
            refine WG.lmul (pc' := 160) dX6_turn_159 rfl ?_
            refine WG.ladd (pc' := 161) dX6_turn_160 rfl ?_
            refine WG.lconst (v := 0) (pc' := 162) dX6_turn_161 rfl rfl ?_
            refine WG.lif_ge (tgt := 170) (pc1 := 163) (pc' := 166) dX6_turn_162 rfl dX6_turn_163 rfl (by decide) (fun c_163 => ?_) (fun c_163 => ?_)
            · refine WG.iconst (v := 0) (pc' := 171) dX6_turn_170 rfl rfl ?_
              refine WG.ireturn dX6_turn_171 rfl (by first | rfl | decide) ?_
              exact key _ (by clear key hQ hL t1 t2 t3 t4; unfold ztn; grind)
            · refine WG.iconst (v := 3) (pc' := 167) dX6_turn_166 rfl rfl ?_
              refine WG.goto (tgt := 171) dX6_turn_167 (by decide) ?_
              refine WG.ireturn dX6_turn_171 rfl (by first | rfl | decide) ?_
              exact key _ (by clear key hQ hL t1 t2 t3 t4; unfold ztn; grind)
          · refine WG.iconst (v := 2) (pc' := 148) dX6_turn_147 rfl rfl ?_
            refine WG.goto (tgt := 171) dX6_turn_148 (by decide) ?_
            refine WG.ireturn dX6_turn_171 rfl (by first | rfl | decide) ?_
            exact key _ (by clear key hQ hL t1 t2 t3 t4; unfold ztn; grind)
        · refine WG.iconst (v := 1) (pc' := 137) dX6_turn_136 rfl rfl ?_
          refine WG.goto (tgt := 171) dX6_turn_137 (by decide) ?_
          refine WG.ireturn dX6_turn_171 rfl (by first | rfl | decide) ?_
          exact key _ (by clear key hQ hL t1 t2 t3 t4; unfold ztn; grind)
      · refine WG.lload (pc' := 110) dX6_turn_108 rfl rfl ?_
        refine WG.lconst (v := 0) (pc' := 111) dX6_turn_110 rfl rfl ?_
        refine WG.lif_ne (tgt := 117) (pc1 := 112) (pc' := 115) dX6_turn_111 rfl dX6_turn_112 rfl (by decide) (fun c_112 => ?_) (fun c_112 => ?_)
        · refine WG.lload_n (pc' := 118) dX6_turn_117 rfl rfl ?_
          refine WG.lload (pc' := 120) dX6_turn_118 rfl rfl ?_
          refine WG.lmul (pc' := 121) dX6_turn_120 rfl ?_
          refine WG.lload (pc' := 123) dX6_turn_121 rfl rfl ?_
          refine WG.lload (pc' := 125) dX6_turn_123 rfl rfl ?_
          refine WG.lmul (pc' := 126) dX6_turn_125 rfl ?_
          refine WG.lsub (pc' := 127) dX6_turn_126 rfl ?_
          refine WG.lstore (L' := [_, _, _, _, _, _, _, _, _, _, _, _, _]) (pc' := 129) dX6_turn_127 rfl (by decide) rfl ?_
          refine WG.lload (pc' := 131) dX6_turn_129 rfl rfl ?_
          refine WG.lconst (v := 0) (pc' := 132) dX6_turn_131 rfl rfl ?_
          refine WG.lif_le (tgt := 140) (pc1 := 133) (pc' := 136) dX6_turn_132 rfl dX6_turn_133 rfl (by decide) (fun c_133 => ?_) (fun c_133 => ?_)
          · refine WG.lload (pc' := 142) dX6_turn_140 rfl rfl ?_
            refine WG.lconst (v := 0) (pc' := 143) dX6_turn_142 rfl rfl ?_
            refine WG.lif_ge (tgt := 151) (pc1 := 144) (pc' := 147) dX6_turn_143 rfl dX6_turn_144 rfl (by decide) (fun c_144 => ?_) (fun c_144 => ?_)
            · refine WG.lload_n (pc' := 152) dX6_turn_151 rfl rfl ?_
              refine WG.lload (pc' := 154) dX6_turn_152 rfl rfl ?_
              refine WG.lmul (pc' := 155) dX6_turn_154 rfl ?_
              refine WG.lload (pc' := 157) dX6_turn_155 rfl rfl ?_
              refine WG.lload (pc' := 159) dX6_turn_157 rfl rfl ?_
              refine WG.lmul (pc' := 160) dX6_turn_159 rfl ?_
              refine WG.ladd (pc' := 161) dX6_turn_160 rfl ?_
              refine WG.lconst (v := 0) (pc' := 162) dX6_turn_161 rfl rfl ?_
              refine WG.lif_ge (tgt := 170) (pc1 := 163) (pc' := 166) dX6_turn_162 rfl dX6_turn_163 rfl (by decide) (fun c_163 => ?_) (fun c_163 => ?_)
              · refine WG.iconst (v := 0) (pc' := 171) dX6_turn_170 rfl rfl ?_
                refine WG.ireturn dX6_turn_171 rfl (by first | rfl | decide) ?_
                exact key _ (by clear key hQ hL t1 t2 t3 t4; unfold ztn; grind)
              · refine WG.iconst (v := 3) (pc' := 167) dX6_turn_166 rfl rfl ?_
                refine WG.goto (tgt := 171) dX6_turn_167 (by decide) ?_
                refine WG.ireturn dX6_turn_171 rfl (by first | rfl | decide) ?_
                exact key _ (by clear key hQ hL t1 t2 t3 t4; unfold ztn; grind)
            · refine WG.iconst (v := 2) (pc' := 148) dX6_turn_147 rfl rfl ?_
              refine WG.goto (tgt := 171) dX6_turn_148 (by decide) ?_
              refine WG.ireturn dX6_turn_171 rfl (by first | rfl | decide) ?_
              exact key _ (by clear key hQ hL t1 t2 t3 t4; unfold ztn; grind)
          · refine WG.iconst (v := 1) (pc' := 137) dX6_turn_136 rfl rfl ?_
            refine WG.goto (tgt := 171) dX6_turn_137 (by decide) ?_
            refine WG.ireturn dX6_turn_171 rfl (by first | rfl | decide) ?_
            exact key _ (by clear key hQ hL t1 t2 t3 t4; unfold ztn; grind)
        · refine WG.iconst (v := 4) (pc' := 116) dX6_turn_115 rfl rfl ?_
          refine WG.ireturn dX6_turn_116 rfl (by first | rfl | decide) ?_
          exact key _ (by clear key hQ hL t1 t2 t3 t4; unfold ztn; grind)
set_option maxHeartbeats 4000000 in
set_option maxRecDepth 100000 in
theorem m_turn {σ : zA} {h : zH} (hX : RM σ h) (hV : VS σ.1.1 σ.1.2) (s : Int32) : K_X6_turn [.ref 86, .int s] h (zPi RM zB2 h σ (zeTu σ.1.1 σ.1.2 s) (ztn (zu σ.1.2 σ.1.1 0 (zpv σ.1.1 s.toNatClampNeg)) (zu σ.1.2 σ.1.1 1 (zpv σ.1.1 s.toNatClampNeg)) (zu σ.1.2 σ.1.1 0 s.toNatClampNeg) (zu σ.1.2 σ.1.1 1 s.toNatClampNeg)) σ) := by
  have hS := hX.1
  have hn := hS.1
  refine CT.of rfl rfl (Nat.le_of_ble_eq_true rfl) rfl ?_
  refine WG.aload_n (pc' := 1) dX6_turn_0 rfl rfl ?_
  refine WG.iload_n (pc' := 2) dX6_turn_1 rfl rfl ?_
  refine WG.callVd (c_X6_isSide hS s) m_X6_106 b_X6_isSide rfl rfl rfl (zrk_of rfl) rfl (Nat.le_of_ble_eq_true rfl) dX6_turn_2 (pc' := 5) rfl ?_
  refine WG.if_ne (tgt := 14) (pc' := 8) dX6_turn_5 rfl (by decide) (fun c_5 => ?_) (fun c_5 => ?_)
  · rw [zb_ne] at c_5
    refine WG.aload_n (pc' := 15) dX6_turn_14 rfl rfl ?_
    refine WG.callV (m_spreads hX) m_X6_200 b_X6_spreadsAll rfl rfl rfl (zrk_of rfl) rfl (Nat.le_of_ble_eq_true rfl) dX6_turn_15 (pc' := 18) rfl (fun r_ h_ q_ => ?_)
    obtain ⟨rfl, hL, hX1, hF1⟩ := q_
    refine WG.if_ne (tgt := 28) (pc' := 21) dX6_turn_18 rfl (by decide) (fun c_18 => ?_) (fun c_18 => ?_)
    · rw [zb_ne] at c_18
      have he : zeTu σ.1.1 σ.1.2 s = 0 := (zes_n c_5).trans (zes_n c_18)
      obtain ⟨j, hj, rfl⟩ := zsd_of (by omega) c_5
      rw [nI_clamp (by omega)]
      have hz : nI j = 0 ↔ j = 0 := nI_eq (a := j) (b := 0) (by omega) (by omega)
      have htn : zpv σ.1.1 j < σ.1.1 := by unfold zpv; split <;> omega
      have b1 := zu_b hV htn (a := 0) (by decide)
      have b2 := zu_b hV htn (a := 1) (by decide)
      have b3 := zu_b hV hj (a := 0) (by decide)
      have b4 := zu_b hV hj (a := 1) (by decide)
      have J := m_turnJ (Q := zPi RM zB2 h σ (zeTu σ.1.1 σ.1.2 (nI j)) (ztn (zu σ.1.2 σ.1.1 0 (zpv σ.1.1 j)) (zu σ.1.2 σ.1.1 1 (zpv σ.1.1 j)) (zu σ.1.2 σ.1.1 0 j) (zu σ.1.2 σ.1.1 1 j)) σ) hL htn hj (zdot b1 b2 b3 b4) (zok hX1 hF1 he rfl)
      refine WG.iload_n (pc' := 29) dX6_turn_28 rfl rfl ?_
      refine WG.if_ne (tgt := 41) (pc' := 32) dX6_turn_29 rfl (by decide) (fun c_29 => ?_) (fun c_29 => ?_)
      · have c29 := mt hz.mpr c_29
        refine WG.iload_n (pc' := 42) dX6_turn_41 rfl rfl ?_
        refine WG.iconst (v := 1) (pc' := 43) dX6_turn_42 rfl rfl ?_
        refine WG.isub (pc' := 44) dX6_turn_43 rfl ?_
        first
          | (rw [show nI σ.1.1 - 1 = nI (zpv σ.1.1 j) by unfold zpv; rw [if_pos c29]; exact pk_sub (b := 1) (by omega)]; exact J)
          | (rw [show nI j - 1 = nI (zpv σ.1.1 j) by unfold zpv; rw [if_neg c29]; exact pk_sub (b := 1) (by omega)]; exact J)
      · have c29 := hz.mp c_29
        refine WG.aload_n (pc' := 33) dX6_turn_32 rfl rfl ?_
        refine WG.callVd (c_X6_many hX1.1) m_X6_63 b_X6_many rfl rfl rfl (zrk_of rfl) rfl (Nat.le_of_ble_eq_true rfl) dX6_turn_33 (pc' := 36) rfl ?_
        refine WG.iconst (v := 1) (pc' := 37) dX6_turn_36 rfl rfl ?_
        refine WG.isub (pc' := 38) dX6_turn_37 rfl ?_
        refine WG.goto (tgt := 44) dX6_turn_38 (by decide) ?_
        first
          | (rw [show nI σ.1.1 - 1 = nI (zpv σ.1.1 j) by unfold zpv; rw [if_pos c29]; exact pk_sub (b := 1) (by omega)]; exact J)
          | (rw [show nI j - 1 = nI (zpv σ.1.1 j) by unfold zpv; rw [if_neg c29]; exact pk_sub (b := 1) (by omega)]; exact J)
    · rw [zb_eq] at c_18
      refine WG.aload_n (pc' := 22) dX6_turn_21 rfl rfl ?_
      refine WG.bipush (v := -3) (pc' := 24) dX6_turn_22 rfl rfl ?_
      refine WG.callVd (c_X6_no 3 (by decide)) m_X6_13 b_X6_no rfl rfl rfl (zrk_of rfl) rfl (Nat.le_of_ble_eq_true rfl) dX6_turn_24 (pc' := 27) rfl ?_
      refine WG.ireturn dX6_turn_27 rfl (by first | rfl | decide) ?_
      exact zrM hX1 hF1 (by decide) ((zes_n c_5).trans (zes_t c_18))
  · rw [zb_eq] at c_5
    refine WG.aload_n (pc' := 9) dX6_turn_8 rfl rfl ?_
    refine WG.iconst (v := -1) (pc' := 10) dX6_turn_9 rfl rfl ?_
    refine WG.callVd (c_X6_no 1 (by decide)) m_X6_13 b_X6_no rfl rfl rfl (zrk_of rfl) rfl (Nat.le_of_ble_eq_true rfl) dX6_turn_10 (pc' := 13) rfl ?_
    refine WG.ireturn dX6_turn_13 rfl (by first | rfl | decide) ?_
    exact zrM hX zFr.rf (by decide) (zes_t c_5)
noncomputable def zeCr (n : Nat) (f : zf) (a b : Int32) : Int32 := zes [(¬ (zsd n a ∧ zsd n b ∧ a ≠ b), -1), (¬ (0 < zWt f n ∧ ¬ znb n a.toNatClampNeg b.toNatClampNeg), -3)]
set_option maxHeartbeats 4000000 in
set_option maxRecDepth 100000 in
theorem x_cross {σ : zA} {h : zH} (hX : RX σ h) (a b : Int32) : K_X5_cross [.ref 0, .int a, .int b] h (zPi RX zB1 h σ (zeCr σ.1.1 σ.1.2 a b) (zb (zmt σ.1.1 (zx σ.1.2 σ.1.1 0) (zx σ.1.2 σ.1.1 1) a.toNatClampNeg b.toNatClampNeg)) σ) := by
  have hS := hX.1
  have hn := hS.2.1
  refine CT.of rfl rfl (Nat.le_of_ble_eq_true rfl) rfl ?_
  refine WG.aload_n (pc' := 1) dX5_cross_0 rfl rfl ?_
  refine WG.getR (r := 1) f_X5_10 (pc' := 4) dX5_cross_1 rfl rfl rfl rfl ?_
  refine WG.iload_n (pc' := 5) dX5_cross_4 rfl rfl ?_
  refine WG.callVd (c_X4_has hS a) m_X5_105 b_X4_has rfl rfl rfl (zrk_of rfl) rfl (Nat.le_of_ble_eq_true rfl) dX5_cross_5 (pc' := 8) rfl ?_
  refine WG.if_eq (tgt := 27) (pc' := 11) dX5_cross_8 rfl (by decide) (fun c_8 => ?_) (fun c_8 => ?_)
  · rw [zb_eq] at c_8
    have hbad : ¬ (zsd σ.1.1 a ∧ zsd σ.1.1 b ∧ a ≠ b) := fun z => c_8 z.1
    refine WG.aload_n (pc' := 28) dX5_cross_27 rfl rfl ?_
    refine WG.iconst (v := -1) (pc' := 29) dX5_cross_28 rfl rfl ?_
    refine WG.callVd (c_X5_refuse 1 (by decide)) m_X5_71 b_X5_refuse rfl rfl rfl (zrk_of rfl) rfl (Nat.le_of_ble_eq_true rfl) dX5_cross_29 (pc' := 32) rfl ?_
    refine WG.ireturn dX5_cross_32 rfl (by first | rfl | decide) ?_
    exact zrX hX zFr.rf (by decide) (zes_t hbad)
  · rw [zb_nn] at c_8
    refine WG.aload_n (pc' := 12) dX5_cross_11 rfl rfl ?_
    refine WG.getR (r := 1) f_X5_10 (pc' := 15) dX5_cross_12 rfl rfl rfl rfl ?_
    refine WG.iload_n (pc' := 16) dX5_cross_15 rfl rfl ?_
    refine WG.callVd (c_X4_has hS b) m_X5_105 b_X4_has rfl rfl rfl (zrk_of rfl) rfl (Nat.le_of_ble_eq_true rfl) dX5_cross_16 (pc' := 19) rfl ?_
    refine WG.if_eq (tgt := 27) (pc' := 22) dX5_cross_19 rfl (by decide) (fun c_19 => ?_) (fun c_19 => ?_)
    · rw [zb_eq] at c_19
      have hbad : ¬ (zsd σ.1.1 a ∧ zsd σ.1.1 b ∧ a ≠ b) := fun z => c_19 z.2.1
      refine WG.aload_n (pc' := 28) dX5_cross_27 rfl rfl ?_
      refine WG.iconst (v := -1) (pc' := 29) dX5_cross_28 rfl rfl ?_
      refine WG.callVd (c_X5_refuse 1 (by decide)) m_X5_71 b_X5_refuse rfl rfl rfl (zrk_of rfl) rfl (Nat.le_of_ble_eq_true rfl) dX5_cross_29 (pc' := 32) rfl ?_
      refine WG.ireturn dX5_cross_32 rfl (by first | rfl | decide) ?_
      exact zrX hX zFr.rf (by decide) (zes_t hbad)
    · rw [zb_nn] at c_19
      refine WG.iload_n (pc' := 23) dX5_cross_22 rfl rfl ?_
      refine WG.iload_n (pc' := 24) dX5_cross_23 rfl rfl ?_
      refine WG.icmp_ne (tgt := 33) (pc' := 27) dX5_cross_24 rfl (by decide) (fun c_24 => ?_) (fun c_24 => ?_)
      · have hgood : zsd σ.1.1 a ∧ zsd σ.1.1 b ∧ a ≠ b := ⟨c_8, c_19, c_24⟩
        obtain ⟨i, hi, rfl⟩ := zsd_of (by omega) c_8
        obtain ⟨j, hj, rfl⟩ := zsd_of (by omega) c_19
        rw [nI_clamp (show i < 2 ^ 31 by omega), nI_clamp (show j < 2 ^ 31 by omega)]
        have eC : zeCr σ.1.1 σ.1.2 (nI i) (nI j) = zes [(¬ (0 < zWt σ.1.2 σ.1.1 ∧ ¬ znb σ.1.1 i j), -3)] := by
          unfold zeCr; rw [nI_clamp (show i < 2 ^ 31 by omega), nI_clamp (show j < 2 ^ 31 by omega)]; exact zes_n hgood
        refine WG.aload_n (pc' := 34) dX5_cross_33 rfl rfl ?_
        refine WG.getR (r := 69) f_X5_36 (pc' := 37) dX5_cross_34 rfl rfl rfl rfl ?_
        refine WG.aload_n (pc' := 38) dX5_cross_37 rfl rfl ?_
        refine WG.getR (r := 1) f_X5_10 (pc' := 41) dX5_cross_38 rfl rfl rfl rfl ?_
        refine WG.callV (x_settle hX) m_X5_156 b_X0_settle rfl rfl rfl (zrk_of rfl) rfl (Nat.le_of_ble_eq_true rfl) dX5_cross_41 (pc' := 44) rfl (fun r_ h_ q_ => ?_)
        obtain ⟨rfl, hL, hX1, hF1⟩ := q_
        refine WG.if_eq (tgt := 59) (pc' := 47) dX5_cross_44 rfl (by decide) (fun c_44 => ?_) (fun c_44 => ?_)
        · rw [zb_eq] at c_44
          have hb2 : ¬ (0 < zWt σ.1.2 σ.1.1 ∧ ¬ znb σ.1.1 i j) := fun z => c_44 z.1
          refine WG.aload_n (pc' := 60) dX5_cross_59 rfl rfl ?_
          refine WG.bipush (v := -3) (pc' := 62) dX5_cross_60 rfl rfl ?_
          refine WG.callVd (c_X5_refuse 3 (by decide)) m_X5_71 b_X5_refuse rfl rfl rfl (zrk_of rfl) rfl (Nat.le_of_ble_eq_true rfl) dX5_cross_62 (pc' := 65) rfl ?_
          refine WG.ireturn dX5_cross_65 rfl (by first | rfl | decide) ?_
          exact zrX hX1 hF1 (by decide) (eC.trans (zes_t hb2))
        · rw [zb_nn] at c_44
          refine WG.aload_n (pc' := 48) dX5_cross_47 rfl rfl ?_
          refine WG.getR (r := 69) f_X5_36 (pc' := 51) dX5_cross_48 rfl rfl rfl rfl ?_
          refine WG.iload_n (pc' := 52) dX5_cross_51 rfl rfl ?_
          refine WG.iload_n (pc' := 53) dX5_cross_52 rfl rfl ?_
          refine WG.callVd (c_X0_areNeighbours hL hi hj) m_X5_189 b_X0_areNeighbours rfl rfl rfl (zrk_of rfl) rfl (Nat.le_of_ble_eq_true rfl) dX5_cross_53 (pc' := 56) rfl ?_
          refine WG.if_eq (tgt := 66) (pc' := 59) dX5_cross_56 rfl (by decide) (fun c_56 => ?_) (fun c_56 => ?_)
          · rw [zb_eq] at c_56
            refine WG.aload_n (pc' := 67) dX5_cross_66 rfl rfl ?_
            refine WG.getR (r := 69) f_X5_36 (pc' := 70) dX5_cross_67 rfl rfl rfl rfl ?_
            refine WG.iload_n (pc' := 71) dX5_cross_70 rfl rfl ?_
            refine WG.iload_n (pc' := 72) dX5_cross_71 rfl rfl ?_
            refine WG.callVd (c_X0_meet hL hi hj) m_X5_193 b_X0_meet rfl rfl rfl (zrk_of rfl) rfl (Nat.le_of_ble_eq_true rfl) dX5_cross_72 (pc' := 75) rfl ?_
            refine WG.if_eq (tgt := 82) (pc' := 78) dX5_cross_75 rfl (by decide) (fun c_75 => ?_) (fun c_75 => ?_)
            · rw [zb_eq] at c_75
              refine WG.iconst (v := 0) (pc' := 83) dX5_cross_82 rfl rfl ?_
              refine WG.ireturn dX5_cross_83 rfl (by first | rfl | decide) ?_
              exact zok hX1 hF1 (eC.trans (zes_n ⟨c_44, c_56⟩)) (by first | rw [zb_t c_75] | rw [zb_f c_75])
            · rw [zb_nn] at c_75
              refine WG.iconst (v := 1) (pc' := 79) dX5_cross_78 rfl rfl ?_
              refine WG.goto (tgt := 83) dX5_cross_79 (by decide) ?_
              refine WG.ireturn dX5_cross_83 rfl (by first | rfl | decide) ?_
              exact zok hX1 hF1 (eC.trans (zes_n ⟨c_44, c_56⟩)) (by first | rw [zb_t c_75] | rw [zb_f c_75])
          · rw [zb_nn] at c_56
            have hb2 : ¬ (0 < zWt σ.1.2 σ.1.1 ∧ ¬ znb σ.1.1 i j) := fun z => z.2 c_56
            refine WG.aload_n (pc' := 60) dX5_cross_59 rfl rfl ?_
            refine WG.bipush (v := -3) (pc' := 62) dX5_cross_60 rfl rfl ?_
            refine WG.callVd (c_X5_refuse 3 (by decide)) m_X5_71 b_X5_refuse rfl rfl rfl (zrk_of rfl) rfl (Nat.le_of_ble_eq_true rfl) dX5_cross_62 (pc' := 65) rfl ?_
            refine WG.ireturn dX5_cross_65 rfl (by first | rfl | decide) ?_
            exact zrX hX1 hF1 (by decide) (eC.trans (zes_t hb2))
      · have hbad : ¬ (zsd σ.1.1 a ∧ zsd σ.1.1 b ∧ a ≠ b) := fun z => z.2.2 c_24
        refine WG.aload_n (pc' := 28) dX5_cross_27 rfl rfl ?_
        refine WG.iconst (v := -1) (pc' := 29) dX5_cross_28 rfl rfl ?_
        refine WG.callVd (c_X5_refuse 1 (by decide)) m_X5_71 b_X5_refuse rfl rfl rfl (zrk_of rfl) rfl (Nat.le_of_ble_eq_true rfl) dX5_cross_29 (pc' := 32) rfl ?_
        refine WG.ireturn dX5_cross_32 rfl (by first | rfl | decide) ?_
        exact zrX hX zFr.rf (by decide) (zes_t hbad)
set_option maxHeartbeats 4000000 in
set_option maxRecDepth 100000 in
theorem m_cross {σ : zA} {h : zH} (hX : RM σ h) (a b : Int32) : K_X6_cross_ [.ref 86, .int a, .int b] h (zPi RM zB2 h σ (zeCr σ.1.1 σ.1.2 a b) (zb (zmt σ.1.1 (zx σ.1.2 σ.1.1 0) (zx σ.1.2 σ.1.1 1) a.toNatClampNeg b.toNatClampNeg)) σ) := by
  have hS := hX.1
  have hn := hS.1
  refine CT.of rfl rfl (Nat.le_of_ble_eq_true rfl) rfl ?_
  refine WG.aload_n (pc' := 1) dX6_cross__0 rfl rfl ?_
  refine WG.iload_n (pc' := 2) dX6_cross__1 rfl rfl ?_
  refine WG.callVd (c_X6_isSide hS a) m_X6_106 b_X6_isSide rfl rfl rfl (zrk_of rfl) rfl (Nat.le_of_ble_eq_true rfl) dX6_cross__2 (pc' := 5) rfl ?_
  refine WG.if_eq (tgt := 21) (pc' := 8) dX6_cross__5 rfl (by decide) (fun c_5 => ?_) (fun c_5 => ?_)
  · rw [zb_eq] at c_5
    have hbad : ¬ (zsd σ.1.1 a ∧ zsd σ.1.1 b ∧ a ≠ b) := fun z => c_5 z.1
    refine WG.aload_n (pc' := 22) dX6_cross__21 rfl rfl ?_
    refine WG.iconst (v := -1) (pc' := 23) dX6_cross__22 rfl rfl ?_
    refine WG.callVd (c_X6_no 1 (by decide)) m_X6_13 b_X6_no rfl rfl rfl (zrk_of rfl) rfl (Nat.le_of_ble_eq_true rfl) dX6_cross__23 (pc' := 26) rfl ?_
    refine WG.ireturn dX6_cross__26 rfl (by first | rfl | decide) ?_
    exact zrM hX zFr.rf (by decide) (zes_t hbad)
  · rw [zb_nn] at c_5
    refine WG.aload_n (pc' := 9) dX6_cross__8 rfl rfl ?_
    refine WG.iload_n (pc' := 10) dX6_cross__9 rfl rfl ?_
    refine WG.callVd (c_X6_isSide hS b) m_X6_106 b_X6_isSide rfl rfl rfl (zrk_of rfl) rfl (Nat.le_of_ble_eq_true rfl) dX6_cross__10 (pc' := 13) rfl ?_
    refine WG.if_eq (tgt := 21) (pc' := 16) dX6_cross__13 rfl (by decide) (fun c_13 => ?_) (fun c_13 => ?_)
    · rw [zb_eq] at c_13
      have hbad : ¬ (zsd σ.1.1 a ∧ zsd σ.1.1 b ∧ a ≠ b) := fun z => c_13 z.2.1
      refine WG.aload_n (pc' := 22) dX6_cross__21 rfl rfl ?_
      refine WG.iconst (v := -1) (pc' := 23) dX6_cross__22 rfl rfl ?_
      refine WG.callVd (c_X6_no 1 (by decide)) m_X6_13 b_X6_no rfl rfl rfl (zrk_of rfl) rfl (Nat.le_of_ble_eq_true rfl) dX6_cross__23 (pc' := 26) rfl ?_
      refine WG.ireturn dX6_cross__26 rfl (by first | rfl | decide) ?_
      exact zrM hX zFr.rf (by decide) (zes_t hbad)
    · rw [zb_nn] at c_13
      refine WG.iload_n (pc' := 17) dX6_cross__16 rfl rfl ?_
      refine WG.iload_n (pc' := 18) dX6_cross__17 rfl rfl ?_
      refine WG.icmp_ne (tgt := 27) (pc' := 21) dX6_cross__18 rfl (by decide) (fun c_18 => ?_) (fun c_18 => ?_)
      · have hgood : zsd σ.1.1 a ∧ zsd σ.1.1 b ∧ a ≠ b := ⟨c_5, c_13, c_18⟩
        obtain ⟨i, hi, rfl⟩ := zsd_of (by omega) c_5
        obtain ⟨j, hj, rfl⟩ := zsd_of (by omega) c_13
        rw [nI_clamp (show i < 2 ^ 31 by omega), nI_clamp (show j < 2 ^ 31 by omega)]
        have eC : zeCr σ.1.1 σ.1.2 (nI i) (nI j) = zes [(¬ (0 < zWt σ.1.2 σ.1.1 ∧ ¬ znb σ.1.1 i j), -3)] := by
          unfold zeCr; rw [nI_clamp (show i < 2 ^ 31 by omega), nI_clamp (show j < 2 ^ 31 by omega)]; exact zes_n hgood
        refine WG.aload_n (pc' := 28) dX6_cross__27 rfl rfl ?_
        refine WG.callV (m_spreads hX) m_X6_200 b_X6_spreadsAll rfl rfl rfl (zrk_of rfl) rfl (Nat.le_of_ble_eq_true rfl) dX6_cross__28 (pc' := 31) rfl (fun r_ h_ q_ => ?_)
        obtain ⟨rfl, hL, hX1, hF1⟩ := q_
        refine WG.if_eq (tgt := 43) (pc' := 34) dX6_cross__31 rfl (by decide) (fun c_31 => ?_) (fun c_31 => ?_)
        · rw [zb_eq] at c_31
          have hb2 : ¬ (0 < zWt σ.1.2 σ.1.1 ∧ ¬ znb σ.1.1 i j) := fun z => c_31 z.1
          refine WG.aload_n (pc' := 44) dX6_cross__43 rfl rfl ?_
          refine WG.bipush (v := -3) (pc' := 46) dX6_cross__44 rfl rfl ?_
          refine WG.callVd (c_X6_no 3 (by decide)) m_X6_13 b_X6_no rfl rfl rfl (zrk_of rfl) rfl (Nat.le_of_ble_eq_true rfl) dX6_cross__46 (pc' := 49) rfl ?_
          refine WG.ireturn dX6_cross__49 rfl (by first | rfl | decide) ?_
          exact zrM hX1 hF1 (by decide) (eC.trans (zes_t hb2))
        · rw [zb_nn] at c_31
          refine WG.aload_n (pc' := 35) dX6_cross__34 rfl rfl ?_
          refine WG.iload_n (pc' := 36) dX6_cross__35 rfl rfl ?_
          refine WG.iload_n (pc' := 37) dX6_cross__36 rfl rfl ?_
          refine WG.callVd (c_X6_areNeighbours hX1.1 hi hj) m_X6_247 b_X6_areNeighbours rfl rfl rfl (zrk_of rfl) rfl (Nat.le_of_ble_eq_true rfl) dX6_cross__37 (pc' := 40) rfl ?_
          refine WG.if_eq (tgt := 50) (pc' := 43) dX6_cross__40 rfl (by decide) (fun c_40 => ?_) (fun c_40 => ?_)
          · rw [zb_eq] at c_40
            refine WG.aload_n (pc' := 51) dX6_cross__50 rfl rfl ?_
            refine WG.iload_n (pc' := 52) dX6_cross__51 rfl rfl ?_
            refine WG.iload_n (pc' := 53) dX6_cross__52 rfl rfl ?_
            refine WG.callVd (c_X6_doCross hX1.1 hL hi hj) m_X6_251 b_X6_doCross rfl rfl rfl (zrk_of rfl) rfl (Nat.le_of_ble_eq_true rfl) dX6_cross__53 (pc' := 56) rfl ?_
            refine WG.if_eq (tgt := 63) (pc' := 59) dX6_cross__56 rfl (by decide) (fun c_56 => ?_) (fun c_56 => ?_)
            · rw [zb_eq] at c_56
              refine WG.iconst (v := 0) (pc' := 64) dX6_cross__63 rfl rfl ?_
              refine WG.ireturn dX6_cross__64 rfl (by first | rfl | decide) ?_
              exact zok hX1 hF1 (eC.trans (zes_n ⟨c_31, c_40⟩)) (by first | rw [zb_t c_56] | rw [zb_f c_56])
            · rw [zb_nn] at c_56
              refine WG.iconst (v := 1) (pc' := 60) dX6_cross__59 rfl rfl ?_
              refine WG.goto (tgt := 64) dX6_cross__60 (by decide) ?_
              refine WG.ireturn dX6_cross__64 rfl (by first | rfl | decide) ?_
              exact zok hX1 hF1 (eC.trans (zes_n ⟨c_31, c_40⟩)) (by first | rw [zb_t c_56] | rw [zb_f c_56])
          · rw [zb_nn] at c_40
            have hb2 : ¬ (0 < zWt σ.1.2 σ.1.1 ∧ ¬ znb σ.1.1 i j) := fun z => z.2 c_40
            refine WG.aload_n (pc' := 44) dX6_cross__43 rfl rfl ?_
            refine WG.bipush (v := -3) (pc' := 46) dX6_cross__44 rfl rfl ?_
            refine WG.callVd (c_X6_no 3 (by decide)) m_X6_13 b_X6_no rfl rfl rfl (zrk_of rfl) rfl (Nat.le_of_ble_eq_true rfl) dX6_cross__46 (pc' := 49) rfl ?_
            refine WG.ireturn dX6_cross__49 rfl (by first | rfl | decide) ?_
            exact zrM hX1 hF1 (by decide) (eC.trans (zes_t hb2))
      · have hbad : ¬ (zsd σ.1.1 a ∧ zsd σ.1.1 b ∧ a ≠ b) := fun z => z.2.2 c_18
        refine WG.aload_n (pc' := 22) dX6_cross__21 rfl rfl ?_
        refine WG.iconst (v := -1) (pc' := 23) dX6_cross__22 rfl rfl ?_
        refine WG.callVd (c_X6_no 1 (by decide)) m_X6_13 b_X6_no rfl rfl rfl (zrk_of rfl) rfl (Nat.le_of_ble_eq_true rfl) dX6_cross__23 (pc' := 26) rfl ?_
        refine WG.ireturn dX6_cross__26 rfl (by first | rfl | decide) ?_
        exact zrM hX zFr.rf (by decide) (zes_t hbad)
noncomputable def zeCs (n : Nat) (f : zf) : Int32 := zes [(¬ 0 < zWt f n, -3)]
set_option maxHeartbeats 4000000 in
set_option maxRecDepth 100000 in
theorem x_crosses {σ : zA} {h : zH} (hX : RX σ h) : K_X5_crosses [.ref 0] h (zPi RX zB1 h σ (zeCs σ.1.1 σ.1.2) (zmo σ.1.1 (zx σ.1.2 σ.1.1 0) (zx σ.1.2 σ.1.1 1) σ.1.1) σ) := by
  refine CT.of rfl rfl (Nat.le_of_ble_eq_true rfl) rfl ?_
  refine WG.aload_n (pc' := 1) dX5_crosses_0 rfl rfl ?_
  refine WG.getR (r := 69) f_X5_36 (pc' := 4) dX5_crosses_1 rfl rfl rfl rfl ?_
  refine WG.aload_n (pc' := 5) dX5_crosses_4 rfl rfl ?_
  refine WG.getR (r := 1) f_X5_10 (pc' := 8) dX5_crosses_5 rfl rfl rfl rfl ?_
  refine WG.callV (x_settle hX) m_X5_156 b_X0_settle rfl rfl rfl (zrk_of rfl) rfl (Nat.le_of_ble_eq_true rfl) dX5_crosses_8 (pc' := 11) rfl (fun r_ h_ q_ => ?_)
  obtain ⟨rfl, hL, hX1, hF1⟩ := q_
  refine WG.if_ne (tgt := 21) (pc' := 14) dX5_crosses_11 rfl (by decide) (fun c_11 => ?_) (fun c_11 => ?_)
  · rw [zb_ne] at c_11
    refine WG.aload_n (pc' := 22) dX5_crosses_21 rfl rfl ?_
    refine WG.getR (r := 69) f_X5_36 (pc' := 25) dX5_crosses_22 rfl rfl rfl rfl ?_
    refine WG.callVd (c_X0_meetings hL) m_X5_196 b_X0_meetings rfl rfl rfl (zrk_of rfl) rfl (Nat.le_of_ble_eq_true rfl) dX5_crosses_25 (pc' := 28) rfl ?_
    refine WG.ireturn dX5_crosses_28 rfl (by first | rfl | decide) ?_
    exact zok hX1 hF1 (zes_n c_11) rfl
  · rw [zb_eq] at c_11
    refine WG.aload_n (pc' := 15) dX5_crosses_14 rfl rfl ?_
    refine WG.bipush (v := -3) (pc' := 17) dX5_crosses_15 rfl rfl ?_
    refine WG.callVd (c_X5_refuse 3 (by decide)) m_X5_71 b_X5_refuse rfl rfl rfl (zrk_of rfl) rfl (Nat.le_of_ble_eq_true rfl) dX5_crosses_17 (pc' := 20) rfl ?_
    refine WG.ireturn dX5_crosses_20 rfl (by first | rfl | decide) ?_
    exact zrX hX1 hF1 (by decide) (zes_t c_11)
set_option maxHeartbeats 4000000 in
set_option maxRecDepth 100000 in
theorem m_crosses {σ : zA} {h : zH} (hX : RM σ h) : K_X6_crosses [.ref 86] h (zPi RM zB2 h σ (zeCs σ.1.1 σ.1.2) (zmo σ.1.1 (zx σ.1.2 σ.1.1 0) (zx σ.1.2 σ.1.1 1) σ.1.1) σ) := by
  refine CT.of rfl rfl (Nat.le_of_ble_eq_true rfl) rfl ?_
  refine WG.aload_n (pc' := 1) dX6_crosses_0 rfl rfl ?_
  refine WG.callV (m_spreads hX) m_X6_200 b_X6_spreadsAll rfl rfl rfl (zrk_of rfl) rfl (Nat.le_of_ble_eq_true rfl) dX6_crosses_1 (pc' := 4) rfl (fun r_ h_ q_ => ?_)
  obtain ⟨rfl, hL, hX1, hF1⟩ := q_
  refine WG.if_eq (tgt := 14) (pc' := 7) dX6_crosses_4 rfl (by decide) (fun c_4 => ?_) (fun c_4 => ?_)
  · rw [zb_eq] at c_4
    refine WG.aload_n (pc' := 15) dX6_crosses_14 rfl rfl ?_
    refine WG.bipush (v := -3) (pc' := 17) dX6_crosses_15 rfl rfl ?_
    refine WG.callVd (c_X6_no 3 (by decide)) m_X6_13 b_X6_no rfl rfl rfl (zrk_of rfl) rfl (Nat.le_of_ble_eq_true rfl) dX6_crosses_17 (pc' := 20) rfl ?_
    refine WG.ireturn dX6_crosses_20 rfl (by first | rfl | decide) ?_
    first
      | exact zok hX1 hF1 (zes_n c_4) rfl
      | exact zrM hX1 hF1 (by decide) (zes_t c_4)
  · rw [zb_nn] at c_4
    refine WG.aload_n (pc' := 8) dX6_crosses_7 rfl rfl ?_
    refine WG.callVd (c_X6_crossings hX1.1 hL) m_X6_254 b_X6_crossings rfl rfl rfl (zrk_of rfl) rfl (Nat.le_of_ble_eq_true rfl) dX6_crosses_8 (pc' := 11) rfl ?_
    refine WG.goto (tgt := 20) dX6_crosses_11 (by decide) ?_
    refine WG.ireturn dX6_crosses_20 rfl (by first | rfl | decide) ?_
    first
      | exact zok hX1 hF1 (zes_n c_4) rfl
      | exact zrM hX1 hF1 (by decide) (zes_t c_4)
