/-! hull: the class's -/
theorem yzo_b {n : Nat} {px py : Nat → Int64} {s : Int32} (hn : n ≤ 8) (hB : zPB n px py) (hzb : ∀ a, a < n → (zbit s a ↔ yO n px py a)) {c0 : Nat} (h0 : yO n px py c0) : ∀ (r q cnt : Nat) (sum : Int64), n < r + cnt → yI n px py s c0 q sum cnt → zl (zho n px py s n) 260715693238122496 := by
  intro r
  induction r with
  | zero =>
    intro q cnt sum h1 hI
    have := hI.2.2.2.1
    have := yct_n (P := yB n px py c0 q) n
    omega
  | succ r ih =>
    intro q cnt sum h1 hI
    obtain ⟨e, hs, ⟨he, hc, hI2⟩ | ⟨he, hc, ht⟩⟩ := yI_s hn hB hzb h0 hI
    · exact ih e (cnt + 1) _ (by omega) hI2
    · rw [ht]
      have b5 := hI.2.2.2.2.1
      have b6 := hI.2.2.2.2.2
      have c8 := yct_n (P := yO n px py) n
      unfold zl
      omega
theorem yzo_l {n : Nat} {px py : Nat → Int64} {s : Int32} (hn : n ≤ 8) (hB : zPB n px py) (hzb : ∀ a, a < n → (zbit s a ↔ yO n px py a)) : zl (zho n px py s n) 260715693238122496 := by
  by_cases c : yct (yO n px py) n ≤ 2
  · rw [yzo_2 hn hB hzb c]; show (0 : Int64).toInt.natAbs ≤ _; decide
  · have := yct_n (P := yO n px py) n
    obtain ⟨c0, h0⟩ := yO_ex hB (by omega)
    obtain ⟨k, hk, hk0⟩ := y2 (by omega) h0
    obtain ⟨e, hs⟩ := yL3 hB h0 hk hk0
    exact yzo_b hn hB hzb h0 (n + 1) e 1 0 (by omega) (yI_1 hB hzb h0 hs)
set_option maxHeartbeats 4000000 in
set_option maxRecDepth 100000 in
theorem x_hull {σ : zA} {h : zH} (hX : RX σ h) (hV : VS σ.1.1 σ.1.2) (p : Int32) : K_X5_hull [.ref 0, .int p] h (zPl RX zB1 h σ (zeAr σ.1.1 σ.1.2 p) (zfr (zho σ.1.1 (zx σ.1.2 σ.1.1 0) (zx σ.1.2 σ.1.1 1) (zob σ.1.1 (zx σ.1.2 σ.1.1 0) (zx σ.1.2 σ.1.1 1) σ.1.1) σ.1.1) (2 * zWt σ.1.2 σ.1.1 * zWt σ.1.2 σ.1.1) p)) := by
  have hn := hX.1.2.1
  have hB := zPB_x hV
  have hwb := zWt_b hV
  obtain ⟨m, hm, em, hb, hzb, hpc⟩ := yobS (px := zx σ.1.2 σ.1.1 0) (py := zx σ.1.2 σ.1.1 1) hn
  have hz : zl (zho σ.1.1 (zx σ.1.2 σ.1.1 0) (zx σ.1.2 σ.1.1 1) (zob σ.1.1 (zx σ.1.2 σ.1.1 0) (zx σ.1.2 σ.1.1 1) σ.1.1) σ.1.1) 260715693238122496 := by rw [em]; exact yzo_l hn hB hzb
  refine CT.of rfl rfl (Nat.le_of_ble_eq_true rfl) rfl ?_
  refine WG.iload_n (pc' := 1) dX5_hull_0 rfl rfl ?_
  refine WG.callSd (c_X5_isOneOfTwo h p) m_X5_144 b_X5_isOneOfTwo rfl (zrk_of rfl) rfl (Nat.le_of_ble_eq_true rfl) dX5_hull_1 (pc' := 4) rfl ?_
  refine WG.if_ne (tgt := 14) (pc' := 7) dX5_hull_4 rfl (by decide) (fun c_4 => ?_) (fun c_4 => ?_)
  · rw [zb_ne] at c_4
    refine WG.aload_n (pc' := 15) dX5_hull_14 rfl rfl ?_
    refine WG.getR (r := 69) f_X5_36 (pc' := 18) dX5_hull_15 rfl rfl rfl rfl ?_
    refine WG.aload_n (pc' := 19) dX5_hull_18 rfl rfl ?_
    refine WG.getR (r := 1) f_X5_10 (pc' := 22) dX5_hull_19 rfl rfl rfl rfl ?_
    refine WG.callV (x_settle hX) m_X5_156 b_X0_settle rfl rfl rfl (zrk_of rfl) rfl (Nat.le_of_ble_eq_true rfl) dX5_hull_22 (pc' := 25) rfl (fun r_ h_ q_ => ?_)
    obtain ⟨rfl, hL, hX1, hF1⟩ := q_
    refine WG.if_ne (tgt := 35) (pc' := 28) dX5_hull_25 rfl (by decide) (fun c_25 => ?_) (fun c_25 => ?_)
    · rw [zb_ne] at c_25
      refine WG.aload_n (pc' := 36) dX5_hull_35 rfl rfl ?_
      refine WG.getR (r := 69) f_X5_36 (pc' := 39) dX5_hull_36 rfl rfl rfl rfl ?_
      refine WG.callVd (c_X0_hullSum hL) m_X5_207 b_X0_hullSum rfl rfl rfl (zrk_of rfl) rfl (Nat.le_of_ble_eq_true rfl) dX5_hull_39 (pc' := 42) rfl ?_
      refine WG.aload_n (pc' := 43) dX5_hull_42 rfl rfl ?_
      refine WG.getR (r := 69) f_X5_36 (pc' := 46) dX5_hull_43 rfl rfl rfl rfl ?_
      refine WG.callVd (c_X0_unit hL) m_X5_183 b_X0_unit rfl rfl rfl (zrk_of rfl) rfl (Nat.le_of_ble_eq_true rfl) dX5_hull_46 (pc' := 49) rfl ?_
      refine WG.iload_n (pc' := 50) dX5_hull_49 rfl rfl ?_
      refine WG.callSd (c_X5_fraction (zbd_of hz (by decide)) (zbd_of (zun_b hwb).2 (by decide)) (zUne hwb c_25)) m_X5_171 b_X5_fraction rfl (zrk_of rfl) rfl (Nat.le_of_ble_eq_true rfl) dX5_hull_50 (pc' := 53) rfl ?_
      refine WG.lreturn dX5_hull_53 rfl ?_
      exact zokl hX1 hF1 ((zes_n c_4).trans (zes_n c_25)) rfl
    · rw [zb_eq] at c_25
      refine WG.aload_n (pc' := 29) dX5_hull_28 rfl rfl ?_
      refine WG.bipush (v := -3) (pc' := 31) dX5_hull_29 rfl rfl ?_
      refine WG.callVd (c_X5_refuseLong 3 (by decide)) m_X5_116 b_X5_refuseLong rfl rfl rfl (zrk_of rfl) rfl (Nat.le_of_ble_eq_true rfl) dX5_hull_31 (pc' := 34) rfl ?_
      refine WG.lreturn dX5_hull_34 rfl ?_
      exact zrXl hX1 hF1 (by decide) ((zes_n c_4).trans (zes_t c_25))
  · rw [zb_eq] at c_4
    refine WG.aload_n (pc' := 8) dX5_hull_7 rfl rfl ?_
    refine WG.bipush (v := -2) (pc' := 10) dX5_hull_8 rfl rfl ?_
    refine WG.callVd (c_X5_refuseLong 2 (by decide)) m_X5_116 b_X5_refuseLong rfl rfl rfl (zrk_of rfl) rfl (Nat.le_of_ble_eq_true rfl) dX5_hull_10 (pc' := 13) rfl ?_
    refine WG.lreturn dX5_hull_13 rfl ?_
    exact zrXl hX zFr.rf (by decide) (zes_t c_4)
