def zTn (px py : Nat → Int64) (k : Nat) : Int64 := if k % 2 = 0 then px (k / 2) else py (k / 2)
noncomputable def zeJ (n : Nat) (f : zf) (l : Int32) : Int32 := zes [(¬ zsd 3 l, -1), (¬ 0 < zWt f n, -3)]
def zjd (T g : Nat → Int64) (m : Nat) : Nat → Nat → Int32
  | 0, _ => -9
  | q + 1, k => if k < m then (if g k = T k then zjd T g m q (k + 1) else nI (k / 2)) else nI (100 + k / 2)
def zvJ (z : zls) (T : Nat → Int64) (n : Nat) : Int32 := match z with
  | none => -11
  | some (_, m, g) => zjd T g m (2 * n) 0
theorem zsd_k {m k : Nat} (hm : m < 2 ^ 31) (hk : k < 2 ^ 31) : zsd m (nI k) ↔ k < m := ⟨fun z => (nI_ltI hk hm).mp z.2, fun z => zsd_nI hm z⟩
theorem RCm.tn {n k : Nat} {w : Int64} {ux uy px py : Nat → Int64} {h : zH} (hL : RCm n w ux uy px py h) (hk : k < 2 * n) : h.2 95 k = zTn px py k := by
  have z := hL.2.2.2 (k / 2) (by omega)
  unfold zTn
  by_cases c : k % 2 = 0
  · rw [if_pos c, ← z.1, show 2 * (k / 2) = k by omega]
  · rw [if_neg c, ← z.2, show 2 * (k / 2) + 1 = k by omega]
set_option maxHeartbeats 4000000 in
set_option maxRecDepth 100000 in
theorem x_judge0 {σ : zA} {h h1 : zH} {e V : Int32} {T g : Nat → Int64} {m j n : Nat} (he : e = 0) (hX1 : RX σ h1) (hF1 : zFr zB1 h h1) (h4 : h1.1 69 4 = nI n) (hn : n ≤ 8) (k : Nat) (hk : k + 0 = 2 * n) (hv : V = zjd T g m 0 k) : W_X5_judge (zPi RX zB1 h σ e V σ) 53 [some (.ref 0), some (.int (nI j)), some (.ref (79 + 2 * j)), some (.int (nI k))] [] h1 := by
  refine WG.iload_n (pc' := 54) dX5_judge_53 rfl rfl ?_
  refine WG.iconst (v := 2) (pc' := 55) dX5_judge_54 rfl rfl ?_
  refine WG.aload_n (pc' := 56) dX5_judge_55 rfl rfl ?_
  refine WG.getR (r := 69) f_X5_36 (pc' := 59) dX5_judge_56 rfl rfl rfl rfl ?_
  refine WG.getI f_X5_279 (pc' := 62) dX5_judge_59 rfl rfl rfl ?_
  refine WG.imul (pc' := 63) dX5_judge_62 rfl ?_
  rw [h4, zi2']
  refine WG.icmp_ge (tgt := 109) (pc' := 66) dX5_judge_63 rfl (by decide) (fun c_63 => ?_) (fun c_63 => ?_)
  · refine WG.bipush (v := -9) (pc' := 111) dX5_judge_109 rfl rfl ?_
    refine WG.ireturn dX5_judge_111 rfl (by first | rfl | decide) ?_
    exact zok hX1 hF1 he hv.symm
  · exact absurd ((nI_leI (a := 2 * n) (b := k) (by omega) (by omega)).mpr (by omega)) c_63
set_option maxHeartbeats 4000000 in
set_option maxRecDepth 100000 in
theorem x_judgeS {σ : zA} {h h1 : zH} {e V s : Int32} {w : Int64} {ux uy px py g : Nat → Int64} {m j n q : Nat} (he : e = 0) (hX1 : RX σ h1) (hF1 : zFr zB1 h h1) (hL : RLay n w ux uy px py h1) (hR : RR (79 + 2 * j) (some (s, m, g)) h1) (hr : isR (79 + 2 * j)) (hn : n ≤ 8) (ih : ∀ k, k + q = 2 * n → V = zjd (zTn px py) g m q k → W_X5_judge (zPi RX zB1 h σ e V σ) 53 [some (.ref 0), some (.int (nI j)), some (.ref (79 + 2 * j)), some (.int (nI k))] [] h1) (k : Nat) (hk : k + (q + 1) = 2 * n) (hv : V = zjd (zTn px py) g m (q + 1) k) : W_X5_judge (zPi RX zB1 h σ e V σ) 53 [some (.ref 0), some (.int (nI j)), some (.ref (79 + 2 * j)), some (.int (nI k))] [] h1 := by
  have hm := hR.2.1
  have ez := zsd_k (m := m) (k := k) (by omega) (by omega)
  refine WG.iload_n (pc' := 54) dX5_judge_53 rfl rfl ?_
  refine WG.iconst (v := 2) (pc' := 55) dX5_judge_54 rfl rfl ?_
  refine WG.aload_n (pc' := 56) dX5_judge_55 rfl rfl ?_
  refine WG.getR (r := 69) f_X5_36 (pc' := 59) dX5_judge_56 rfl rfl rfl rfl ?_
  refine WG.getI f_X5_279 (pc' := 62) dX5_judge_59 rfl rfl rfl ?_
  refine WG.imul (pc' := 63) dX5_judge_62 rfl ?_
  rw [hL.2.1, zi2']
  refine WG.icmp_ge (tgt := 109) (pc' := 66) dX5_judge_63 rfl (by decide) (fun c_63 => ?_) (fun c_63 => ?_)
  · exact absurd ((nI_leI (a := 2 * n) (b := k) (by omega) (by omega)).mp c_63) (by omega)
  · refine WG.aload_n (pc' := 67) dX5_judge_66 rfl rfl ?_
    refine WG.iload_n (pc' := 68) dX5_judge_67 rfl rfl ?_
    refine WG.callVd (c_X3_has hR) m_X5_261 b_X3_has (zRo (by assumption)) rfl rfl (zrk_of rfl) rfl (Nat.le_of_ble_eq_true rfl) dX5_judge_68 (pc' := 71) rfl ?_
    refine WG.if_ne (tgt := 81) (pc' := 74) dX5_judge_71 rfl (by decide) (fun c_71 => ?_) (fun c_71 => ?_)
    · rw [zb_ne, ez] at c_71
      refine WG.aload_n (pc' := 82) dX5_judge_81 rfl rfl ?_
      refine WG.getR f_X5_264 (pc' := 85) dX5_judge_82 rfl (zRo (by assumption)) rfl (zRr (by assumption)) ?_
      refine WG.iload_n (pc' := 86) dX5_judge_85 rfl rfl ?_
      refine WG.laloadN (j := k) (pc' := 87) dX5_judge_86 rfl (zRa (by assumption)) rfl (by omega) (by first | decide | omega) ?_
      rw [hR.2.2.2.2.2 k c_71]
      refine WG.aload_n (pc' := 88) dX5_judge_87 rfl rfl ?_
      refine WG.getR (r := 69) f_X5_36 (pc' := 91) dX5_judge_88 rfl rfl rfl rfl ?_
      refine WG.iload_n (pc' := 92) dX5_judge_91 rfl rfl ?_
      refine WG.callVd (c_X0_toldNumber hL (by omega)) m_X5_280 b_X0_toldNumber rfl rfl rfl (zrk_of rfl) rfl (Nat.le_of_ble_eq_true rfl) dX5_judge_92 (pc' := 95) rfl ?_
      refine WG.lif_eq (tgt := 103) (pc1 := 96) (pc' := 99) dX5_judge_95 rfl dX5_judge_96 rfl (by decide) (fun c_96 => ?_) (fun c_96 => ?_)
      · refine WG.iinc1 (L' := [_, _, _, _]) (pc' := 106) dX5_judge_103 rfl rfl (by decide) rfl ?_
        refine WG.goto (tgt := 53) dX5_judge_106 (by decide) ?_
        rw [nI_1]
        exact ih (k + 1) (by omega) (hv.trans ((if_pos c_71).trans (if_pos c_96)))
      · refine WG.iload_n (pc' := 100) dX5_judge_99 rfl rfl ?_
        refine WG.iconst (v := 2) (pc' := 101) dX5_judge_100 rfl rfl ?_
        refine WG.idiv (pc' := 102) dX5_judge_101 rfl (by decide) ?_
        refine WG.ireturn dX5_judge_102 rfl (by first | rfl | decide) ?_
        exact zok hX1 hF1 he (by rw [hv, show zjd (zTn px py) g m (q + 1) k = nI (k / 2) from (if_pos c_71).trans (if_neg c_96), znI2 (by omega)])
    · rw [zb_eq, ez] at c_71
      refine WG.bipush (v := 100) (pc' := 76) dX5_judge_74 rfl rfl ?_
      refine WG.iload_n (pc' := 77) dX5_judge_76 rfl rfl ?_
      refine WG.iconst (v := 2) (pc' := 78) dX5_judge_77 rfl rfl ?_
      refine WG.idiv (pc' := 79) dX5_judge_78 rfl (by decide) ?_
      refine WG.iadd (pc' := 80) dX5_judge_79 rfl ?_
      refine WG.ireturn dX5_judge_80 rfl (by first | rfl | decide) ?_
      exact zok hX1 hF1 he (by rw [hv, show zjd (zTn px py) g m (q + 1) k = nI (100 + k / 2) from if_neg c_71, znI2 (by omega)]; exact nI_add 100 (k / 2))
set_option maxHeartbeats 4000000 in
set_option maxRecDepth 100000 in
theorem x_judge {σ : zA} {h : zH} (hX : RX σ h) (l : Int32) : K_X5_judge [.ref 0, .int l] h (zPi RX zB1 h σ (zeJ σ.1.1 σ.1.2 l) (zvJ (σ.2.2.2.2.2.1 l.toNatClampNeg) (zTn (zx σ.1.2 σ.1.1 0) (zx σ.1.2 σ.1.1 1)) σ.1.1) σ) := by
  have hn := hX.1.2.1
  refine CT.of rfl rfl (Nat.le_of_ble_eq_true rfl) rfl ?_
  refine WG.iload_n (pc' := 1) dX5_judge_0 rfl rfl ?_
  refine WG.callSd (c_X5_isList h l) m_X5_245 b_X5_isList rfl (zrk_of rfl) rfl (Nat.le_of_ble_eq_true rfl) dX5_judge_1 (pc' := 4) rfl ?_
  refine WG.if_ne (tgt := 13) (pc' := 7) dX5_judge_4 rfl (by decide) (fun c_4 => ?_) (fun c_4 => ?_)
  · rw [zb_ne] at c_4
    refine WG.aload_n (pc' := 14) dX5_judge_13 rfl rfl ?_
    refine WG.getR (r := 69) f_X5_36 (pc' := 17) dX5_judge_14 rfl rfl rfl rfl ?_
    refine WG.aload_n (pc' := 18) dX5_judge_17 rfl rfl ?_
    refine WG.getR (r := 1) f_X5_10 (pc' := 21) dX5_judge_18 rfl rfl rfl rfl ?_
    refine WG.callV (x_settle hX) m_X5_156 b_X0_settle rfl rfl rfl (zrk_of rfl) rfl (Nat.le_of_ble_eq_true rfl) dX5_judge_21 (pc' := 24) rfl (fun r_ h_ q_ => ?_)
    obtain ⟨rfl, hL, hX1, hF1⟩ := q_
    refine WG.if_ne (tgt := 34) (pc' := 27) dX5_judge_24 rfl (by decide) (fun c_24 => ?_) (fun c_24 => ?_)
    · rw [zb_ne] at c_24
      have he : zeJ σ.1.1 σ.1.2 l = 0 := (zes_n c_4).trans (zes_n c_24)
      obtain ⟨j, hj, rfl⟩ := zsd_of (by decide) c_4
      rw [nI_clamp (show j < 2 ^ 31 by omega)]
      have hR := hX1.2.2.2.2.2.1 j hj
      have hr := isR_l hj
      have h4 := hL.2.1
      refine WG.aload_n (pc' := 35) dX5_judge_34 rfl rfl ?_
      refine WG.getR (r := 78) f_X5_63 (pc' := 38) dX5_judge_35 rfl rfl rfl rfl ?_
      refine WG.iload_n (pc' := 39) dX5_judge_38 rfl rfl ?_
      refine WG.aaloadN (j := j) (r := 79 + 2 * (j)) (pc' := 40) dX5_judge_39 rfl (t := 1) (Or.inr rfl) rfl rfl (by omega) (by decide) rfl ?_
      refine WG.astore_n (L' := [_, _, _, _]) (pc' := 41) dX5_judge_40 rfl (by decide) rfl ?_
      refine WG.aload_n (pc' := 42) dX5_judge_41 rfl rfl ?_
      refine WG.callVd (c_X3_isMissing hR) m_X5_251 b_X3_isMissing (zRo (by assumption)) rfl rfl (zrk_of rfl) rfl (Nat.le_of_ble_eq_true rfl) dX5_judge_42 (pc' := 45) rfl ?_
      refine WG.if_eq (tgt := 51) (pc' := 48) dX5_judge_45 rfl (by decide) (fun c_45 => ?_) (fun c_45 => ?_)
      · rw [zb_eq] at c_45
        obtain ⟨⟨s, m, g⟩, hz⟩ := Option.ne_none_iff_exists'.mp c_45
        rw [hz] at hR ⊢
        have hm := hR.2.1
        have loop : ∀ (q k : Nat), k + q = 2 * σ.1.1 → zjd (zTn (zx σ.1.2 σ.1.1 0) (zx σ.1.2 σ.1.1 1)) g m (2 * σ.1.1) 0 = zjd (zTn (zx σ.1.2 σ.1.1 0) (zx σ.1.2 σ.1.1 1)) g m q k → W_X5_judge (zPi RX zB1 h σ (zeJ σ.1.1 σ.1.2 (nI j)) (zjd (zTn (zx σ.1.2 σ.1.1 0) (zx σ.1.2 σ.1.1 1)) g m (2 * σ.1.1) 0) σ) 53 [some (.ref 0), some (.int (nI j)), some (.ref (79 + 2 * j)), some (.int (nI k))] [] h_ := by
          intro q
          induction q with
          | zero => exact x_judge0 he hX1 hF1 h4 hn
          | succ q ih => exact x_judgeS he hX1 hF1 hL hR hr hn ih
        refine WG.iconst (v := 0) (pc' := 52) dX5_judge_51 rfl rfl ?_
        refine WG.istore_n (L' := [_, _, _, _]) (pc' := 53) dX5_judge_52 rfl (by decide) rfl ?_
        exact loop (2 * σ.1.1) 0 (by omega) rfl
      · rw [zb_nn] at c_45
        refine WG.bipush (v := -11) (pc' := 50) dX5_judge_48 rfl rfl ?_
        refine WG.ireturn dX5_judge_50 rfl (by first | rfl | decide) ?_
        exact zok hX1 hF1 he (by rw [c_45]; rfl)
    · rw [zb_eq] at c_24
      refine WG.aload_n (pc' := 28) dX5_judge_27 rfl rfl ?_
      refine WG.bipush (v := -3) (pc' := 30) dX5_judge_28 rfl rfl ?_
      refine WG.callVd (c_X5_refuse 3 (by decide)) m_X5_71 b_X5_refuse rfl rfl rfl (zrk_of rfl) rfl (Nat.le_of_ble_eq_true rfl) dX5_judge_30 (pc' := 33) rfl ?_
      refine WG.ireturn dX5_judge_33 rfl (by first | rfl | decide) ?_
      exact zrX hX1 hF1 (by decide) ((zes_n c_4).trans (zes_t c_24))
  · rw [zb_eq] at c_4
    refine WG.aload_n (pc' := 8) dX5_judge_7 rfl rfl ?_
    refine WG.iconst (v := -1) (pc' := 9) dX5_judge_8 rfl rfl ?_
    refine WG.callVd (c_X5_refuse 1 (by decide)) m_X5_71 b_X5_refuse rfl rfl rfl (zrk_of rfl) rfl (Nat.le_of_ble_eq_true rfl) dX5_judge_9 (pc' := 12) rfl ?_
    refine WG.ireturn dX5_judge_12 rfl (by first | rfl | decide) ?_
    exact zrX hX zFr.rf (by decide) (zes_t c_4)
set_option maxHeartbeats 4000000 in
set_option maxRecDepth 100000 in
theorem m_judge0 {σ : zA} {h h1 : zH} {e V : Int32} {T g : Nat → Int64} {m j : Nat} (he : e = 0) (hX1 : RM σ h1) (hF1 : zFr zB2 h h1) (k : Nat) (hk : k + 0 = 2 * σ.1.1) (hv : V = zjd T g m 0 k) : W_X6_judge (zPi RM zB2 h σ e V σ) 41 [some (.ref 86), some (.int (nI j)), some (.int (nI k))] [] h1 := by
  have hn := hX1.1.1
  refine WG.iload_n (pc' := 42) dX6_judge_41 rfl rfl ?_
  refine WG.iconst (v := 2) (pc' := 43) dX6_judge_42 rfl rfl ?_
  refine WG.aload_n (pc' := 44) dX6_judge_43 rfl rfl ?_
  refine WG.callVd (c_X6_many hX1.1) m_X6_63 b_X6_many rfl rfl rfl (zrk_of rfl) rfl (Nat.le_of_ble_eq_true rfl) dX6_judge_44 (pc' := 47) rfl ?_
  refine WG.imul (pc' := 48) dX6_judge_47 rfl ?_
  rw [zi2']
  refine WG.icmp_ge (tgt := 99) (pc' := 51) dX6_judge_48 rfl (by decide) (fun c_48 => ?_) (fun c_48 => ?_)
  · refine WG.bipush (v := -9) (pc' := 101) dX6_judge_99 rfl rfl ?_
    refine WG.ireturn dX6_judge_101 rfl (by first | rfl | decide) ?_
    exact zok hX1 hF1 he hv.symm
  · exact absurd ((nI_leI (a := 2 * σ.1.1) (b := k) (by omega) (by omega)).mpr (by omega)) c_48
set_option maxHeartbeats 4000000 in
set_option maxRecDepth 100000 in
theorem m_judgeS {σ : zA} {h h1 : zH} {e V s : Int32} {w : Int64} {ux uy px py g : Nat → Int64} {m j q : Nat} (hj : j < 3) (he : e = 0) (hX1 : RM σ h1) (hF1 : zFr zB2 h h1) (hL : RCm σ.1.1 w ux uy px py h1) (hR : RQ j (some (s, m, g)) h1) (ih : ∀ k, k + q = 2 * σ.1.1 → V = zjd (zTn px py) g m q k → W_X6_judge (zPi RM zB2 h σ e V σ) 41 [some (.ref 86), some (.int (nI j)), some (.int (nI k))] [] h1) (k : Nat) (hk : k + (q + 1) = 2 * σ.1.1) (hv : V = zjd (zTn px py) g m (q + 1) k) : W_X6_judge (zPi RM zB2 h σ e V σ) 41 [some (.ref 86), some (.int (nI j)), some (.int (nI k))] [] h1 := by
  have hn := hX1.1.1
  obtain ⟨r1, r2, r3, r4, r5⟩ := hR
  refine WG.iload_n (pc' := 42) dX6_judge_41 rfl rfl ?_
  refine WG.iconst (v := 2) (pc' := 43) dX6_judge_42 rfl rfl ?_
  refine WG.aload_n (pc' := 44) dX6_judge_43 rfl rfl ?_
  refine WG.callVd (c_X6_many hX1.1) m_X6_63 b_X6_many rfl rfl rfl (zrk_of rfl) rfl (Nat.le_of_ble_eq_true rfl) dX6_judge_44 (pc' := 47) rfl ?_
  refine WG.imul (pc' := 48) dX6_judge_47 rfl ?_
  rw [zi2']
  refine WG.icmp_ge (tgt := 99) (pc' := 51) dX6_judge_48 rfl (by decide) (fun c_48 => ?_) (fun c_48 => ?_)
  · exact absurd ((nI_leI (a := 2 * σ.1.1) (b := k) (by omega) (by omega)).mp c_48) (by omega)
  · refine WG.iload_n (pc' := 52) dX6_judge_51 rfl rfl ?_
    refine WG.aload_n (pc' := 53) dX6_judge_52 rfl rfl ?_
    refine WG.getR (r := 98) f_X6_54 (pc' := 56) dX6_judge_53 rfl rfl rfl rfl ?_
    refine WG.iload_n (pc' := 57) dX6_judge_56 rfl rfl ?_
    refine WG.ialoadN (j := j) (pc' := 58) dX6_judge_57 rfl rfl rfl (by omega) (by first | decide | omega) ?_
    rw [r4]
    refine WG.icmp_lt (tgt := 68) (pc' := 61) dX6_judge_58 rfl (by decide) (fun c_58 => ?_) (fun c_58 => ?_)
    · have c58 := (nI_ltI (a := k) (b := m) (by omega) (by omega)).mp c_58
      refine WG.aload_n (pc' := 69) dX6_judge_68 rfl rfl ?_
      refine WG.getR (r := 99) f_X6_57 (pc' := 72) dX6_judge_69 rfl rfl rfl rfl ?_
      refine WG.bipush (v := 20) (pc' := 74) dX6_judge_72 rfl rfl ?_
      refine WG.iload_n (pc' := 75) dX6_judge_74 rfl rfl ?_
      refine WG.imul (pc' := 76) dX6_judge_75 rfl ?_
      refine WG.iload_n (pc' := 77) dX6_judge_76 rfl rfl ?_
      refine WG.iadd (pc' := 78) dX6_judge_77 rfl ?_
      refine WG.laloadN (j := 20 * j + k) (pc' := 79) dX6_judge_78 rfl rfl (zi20 j k) (by omega) (by first | decide | omega) ?_
      rw [r5 k c58]
      refine WG.aload_n (pc' := 80) dX6_judge_79 rfl rfl ?_
      refine WG.getR (r := 95) f_X6_45 (pc' := 83) dX6_judge_80 rfl rfl rfl rfl ?_
      refine WG.iload_n (pc' := 84) dX6_judge_83 rfl rfl ?_
      refine WG.laloadN (j := k) (pc' := 85) dX6_judge_84 rfl rfl rfl (by omega) (by first | decide | omega) ?_
      skip
      refine WG.lif_eq (tgt := 93) (pc1 := 86) (pc' := 89) dX6_judge_85 rfl dX6_judge_86 rfl (by decide) (fun c_86 => ?_) (fun c_86 => ?_)
      · refine WG.iinc1 (L' := [_, _, _]) (pc' := 96) dX6_judge_93 rfl rfl (by decide) rfl ?_
        refine WG.goto (tgt := 41) dX6_judge_96 (by decide) ?_
        rw [nI_1]
        exact ih (k + 1) (by omega) (hv.trans ((if_pos c58).trans (if_pos (by rw [← hL.tn (by omega)]; exact c_86))))
      · refine WG.iload_n (pc' := 90) dX6_judge_89 rfl rfl ?_
        refine WG.iconst (v := 2) (pc' := 91) dX6_judge_90 rfl rfl ?_
        refine WG.idiv (pc' := 92) dX6_judge_91 rfl (by decide) ?_
        refine WG.ireturn dX6_judge_92 rfl (by first | rfl | decide) ?_
        exact zok hX1 hF1 he (by rw [hv, show zjd (zTn px py) g m (q + 1) k = nI (k / 2) from (if_pos c58).trans (if_neg (by rw [← hL.tn (by omega)]; exact c_86)), znI2 (by omega)])
    · have c58 := mt (nI_ltI (a := k) (b := m) (by omega) (by omega)).mpr c_58
      refine WG.bipush (v := 100) (pc' := 63) dX6_judge_61 rfl rfl ?_
      refine WG.iload_n (pc' := 64) dX6_judge_63 rfl rfl ?_
      refine WG.iconst (v := 2) (pc' := 65) dX6_judge_64 rfl rfl ?_
      refine WG.idiv (pc' := 66) dX6_judge_65 rfl (by decide) ?_
      refine WG.iadd (pc' := 67) dX6_judge_66 rfl ?_
      refine WG.ireturn dX6_judge_67 rfl (by first | rfl | decide) ?_
      exact zok hX1 hF1 he (by rw [hv, show zjd (zTn px py) g m (q + 1) k = nI (100 + k / 2) from if_neg c58, znI2 (by omega)]; exact nI_add 100 (k / 2))
set_option maxHeartbeats 4000000 in
set_option maxRecDepth 100000 in
theorem m_judge {σ : zA} {h : zH} (hX : RM σ h) (l : Int32) : K_X6_judge [.ref 86, .int l] h (zPi RM zB2 h σ (zeJ σ.1.1 σ.1.2 l) (zvJ (σ.2.2.2.2.2.1 l.toNatClampNeg) (zTn (zx σ.1.2 σ.1.1 0) (zx σ.1.2 σ.1.1 1)) σ.1.1) σ) := by
  refine CT.of rfl rfl (Nat.le_of_ble_eq_true rfl) rfl ?_
  refine WG.iload_n (pc' := 1) dX6_judge_0 rfl rfl ?_
  refine WG.callSd (c_X6_isList h l) m_X6_308 b_X6_isList rfl (zrk_of rfl) rfl (Nat.le_of_ble_eq_true rfl) dX6_judge_1 (pc' := 4) rfl ?_
  refine WG.if_ne (tgt := 13) (pc' := 7) dX6_judge_4 rfl (by decide) (fun c_4 => ?_) (fun c_4 => ?_)
  · rw [zb_ne] at c_4
    refine WG.aload_n (pc' := 14) dX6_judge_13 rfl rfl ?_
    refine WG.callV (m_spreads hX) m_X6_200 b_X6_spreadsAll rfl rfl rfl (zrk_of rfl) rfl (Nat.le_of_ble_eq_true rfl) dX6_judge_14 (pc' := 17) rfl (fun r_ h_ q_ => ?_)
    obtain ⟨rfl, hL, hX1, hF1⟩ := q_
    refine WG.if_ne (tgt := 27) (pc' := 20) dX6_judge_17 rfl (by decide) (fun c_17 => ?_) (fun c_17 => ?_)
    · rw [zb_ne] at c_17
      have he : zeJ σ.1.1 σ.1.2 l = 0 := (zes_n c_4).trans (zes_n c_17)
      obtain ⟨j, hj, rfl⟩ := zsd_of (by decide) c_4
      rw [nI_clamp (show j < 2 ^ 31 by omega)]
      have hR := hX1.2.2.2.2.2.1 j hj
      refine WG.aload_n (pc' := 28) dX6_judge_27 rfl rfl ?_
      refine WG.getR (r := 97) f_X6_51 (pc' := 31) dX6_judge_28 rfl rfl rfl rfl ?_
      refine WG.iload_n (pc' := 32) dX6_judge_31 rfl rfl ?_
      refine WG.ialoadN (j := j) (pc' := 33) dX6_judge_32 rfl rfl rfl (by omega) (by first | decide | omega) ?_
      refine WG.if_ge (tgt := 39) (pc' := 36) dX6_judge_33 rfl (by decide) (fun c_33 => ?_) (fun c_33 => ?_)
      · obtain ⟨⟨s, m, g⟩, hz⟩ : ∃ z, σ.2.2.2.2.2.1 j = some z := by
          revert hR
          generalize σ.2.2.2.2.2.1 j = z
          intro hR
          match z, hR with
          | none, hR => exact absurd c_33 (by rw [show h_.1 97 j = -1 from hR]; decide)
          | some z, _ => exact ⟨z, rfl⟩
        rw [hz] at hR ⊢
        have loop : ∀ (q k : Nat), k + q = 2 * σ.1.1 → zjd (zTn (zx σ.1.2 σ.1.1 0) (zx σ.1.2 σ.1.1 1)) g m (2 * σ.1.1) 0 = zjd (zTn (zx σ.1.2 σ.1.1 0) (zx σ.1.2 σ.1.1 1)) g m q k → W_X6_judge (zPi RM zB2 h σ (zeJ σ.1.1 σ.1.2 (nI j)) (zjd (zTn (zx σ.1.2 σ.1.1 0) (zx σ.1.2 σ.1.1 1)) g m (2 * σ.1.1) 0) σ) 41 [some (.ref 86), some (.int (nI j)), some (.int (nI k))] [] h_ := by
          intro q
          induction q with
          | zero => exact m_judge0 he hX1 hF1
          | succ q ih => exact m_judgeS hj he hX1 hF1 hL hR ih
        refine WG.iconst (v := 0) (pc' := 40) dX6_judge_39 rfl rfl ?_
        refine WG.istore_n (L' := [_, _, _]) (pc' := 41) dX6_judge_40 rfl (by decide) rfl ?_
        exact loop (2 * σ.1.1) 0 (by omega) rfl
      · have hz : σ.2.2.2.2.2.1 j = none := by
          revert hR
          generalize σ.2.2.2.2.2.1 j = z
          intro hR
          match z, hR with
          | none, _ => rfl
          | some (s, m, g), hR => exact absurd (by rw [hR.2.2.1]; exact zs1n hR.2.1) c_33
        refine WG.bipush (v := -11) (pc' := 38) dX6_judge_36 rfl rfl ?_
        refine WG.ireturn dX6_judge_38 rfl (by first | rfl | decide) ?_
        exact zok hX1 hF1 he (by rw [hz]; rfl)
    · rw [zb_eq] at c_17
      refine WG.aload_n (pc' := 21) dX6_judge_20 rfl rfl ?_
      refine WG.bipush (v := -3) (pc' := 23) dX6_judge_21 rfl rfl ?_
      refine WG.callVd (c_X6_no 3 (by decide)) m_X6_13 b_X6_no rfl rfl rfl (zrk_of rfl) rfl (Nat.le_of_ble_eq_true rfl) dX6_judge_23 (pc' := 26) rfl ?_
      refine WG.ireturn dX6_judge_26 rfl (by first | rfl | decide) ?_
      exact zrM hX1 hF1 (by decide) ((zes_n c_4).trans (zes_t c_17))
  · rw [zb_eq] at c_4
    refine WG.aload_n (pc' := 8) dX6_judge_7 rfl rfl ?_
    refine WG.iconst (v := -1) (pc' := 9) dX6_judge_8 rfl rfl ?_
    refine WG.callVd (c_X6_no 1 (by decide)) m_X6_13 b_X6_no rfl rfl rfl (zrk_of rfl) rfl (Nat.le_of_ble_eq_true rfl) dX6_judge_9 (pc' := 12) rfl ?_
    refine WG.ireturn dX6_judge_12 rfl (by first | rfl | decide) ?_
    exact zrM hX zFr.rf (by decide) (zes_t c_4)
