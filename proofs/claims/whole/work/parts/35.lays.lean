/-! lays -/
def zgl (g T : Nat → Int64) (s : Int32) (i k : Nat) : Nat → Int64 := fun p => if i ≤ p ∧ p < i + k then zcut s (T (p - i)) else g p
noncomputable def zvY (z : zls) (i : Int32) (n : Nat) : Int32 := match z with
  | none => -11
  | some (_, m, _) => @ite Int32 (zsd m i ∧ i.toNatClampNeg + 2 * n ≤ m) (Classical.propDecidable _) (nI n) (-13)
noncomputable def zuY (z : zls) (T : Nat → Int64) (i : Int32) (n : Nat) : zls := match z with
  | none => none
  | some (s, m, g) => @ite zls (zsd m i) (Classical.propDecidable _) (some (s, m, zgl g T s i.toNatClampNeg (2 * n))) (some (s, m, g))
theorem zW0 {f : zf} {n : Nat} (h : 0 < zWt f n) : 0 < n := by
  rcases (show n = 0 ∨ 0 < n by omega) with rfl | q
  · exact absurd h (by show ¬ (0 : Int64) < (zsum (zw f) 0).toInt64; show ¬ (0 : Int64) < (0 : Int32).toInt64; decide)
  · exact q
theorem RR.ex {k m : Nat} {s : Int32} {g g' : Nat → Int64} {h : zH} (hR : RR k (some (s, m, g)) h) (e : ∀ i, i < m → g i = g' i) : RR k (some (s, m, g')) h := ⟨hR.1, hR.2.1, hR.2.2.1, hR.2.2.2.1, hR.2.2.2.2.1, fun i hi => (hR.2.2.2.2.2 i hi).trans (e i hi)⟩
theorem RQ.ex {l m : Nat} {s : Int32} {g g' : Nat → Int64} {h : zH} (hR : RQ l (some (s, m, g)) h) (e : ∀ i, i < m → g i = g' i) : RQ l (some (s, m, g')) h := ⟨hR.1, hR.2.1, hR.2.2.1, hR.2.2.2.1, fun i hi => (hR.2.2.2.2 i hi).trans (e i hi)⟩
theorem zgl_s {g T : Nat → Int64} {s : Int32} {i k : Nat} (p : Nat) : zup (zgl g T s i k) (i + k) (zcut s (T k)) p = zgl g T s i (k + 1) p := by
  unfold zup zgl
  by_cases c : p = i + k
  · rw [if_pos c, if_pos (by omega), show p - i = k by omega]
  · rw [if_neg c]
    by_cases c2 : i ≤ p ∧ p < i + k
    · rw [if_pos c2, if_pos (by omega)]
    · rw [if_neg c2, if_neg (by omega)]
set_option maxHeartbeats 4000000 in
set_option maxRecDepth 100000 in
theorem x_laysL {σ : zA} {h : zH} {e V s : Int32} {w : Int64} {ux uy px py g : Nat → Int64} {m j n i : Nat} {σ' : zA} (hj : j < 3) (he : e = 0) (hn : n ≤ 8) (hm : m ≤ 20) (him : i < m) (hV : V = if i + 2 * n ≤ m then nI n else -13) (hfin : ∀ h1, RR (79 + 2 * j) (some (s, m, zgl g (zTn px py) s i (2 * n))) h1 → ∀ h0, RX σ h0 → zFr (zRg (79 + 2 * j) 2) h0 h1 → RX σ' h1) (h0 : zH) (hX0 : RX σ h0) (hF0 : zFr zB1 h h0) (hr : isR (79 + 2 * j)) : ∀ (q k : Nat) (h1 : zH), k + q = 2 * n → i + k ≤ m → RLay n w ux uy px py h1 → RR (79 + 2 * j) (some (s, m, zgl g (zTn px py) s i k)) h1 → zFr (zRg (79 + 2 * j) 2) h0 h1 → W_X5_lays (zPi RX zB1 h σ e V σ') 65 [some (.ref 0), some (.int (nI j)), some (.int (nI i)), some (.ref (79 + 2 * j)), some (.int (nI k))] [] h1 := by
  intro q
  induction q with
  | zero =>
    intro k h1 hk hik hL hR hF
    refine WG.iload (pc' := 67) dX5_lays_65 rfl rfl ?_
    refine WG.iconst (v := 2) (pc' := 68) dX5_lays_67 rfl rfl ?_
    refine WG.aload_n (pc' := 69) dX5_lays_68 rfl rfl ?_
    refine WG.getR (r := 69) f_X5_36 (pc' := 72) dX5_lays_69 rfl rfl rfl rfl ?_
    refine WG.getI f_X5_279 (pc' := 75) dX5_lays_72 rfl rfl rfl ?_
    refine WG.imul (pc' := 76) dX5_lays_75 rfl ?_
    rw [hL.2.1, zi2']
    refine WG.icmp_ge (tgt := 108) (pc' := 79) dX5_lays_76 rfl (by decide) (fun c_76 => ?_) (fun c_76 => ?_)
    · refine WG.aload_n (pc' := 109) dX5_lays_108 rfl rfl ?_
      refine WG.getR (r := 69) f_X5_36 (pc' := 112) dX5_lays_109 rfl rfl rfl rfl ?_
      refine WG.getI f_X5_279 (pc' := 115) dX5_lays_112 rfl rfl rfl ?_
      refine WG.ireturn dX5_lays_115 rfl (by first | rfl | decide) ?_
      exact zok (hfin h1 (by rw [show 2 * n = k by omega]; exact hR) h0 hX0 hF) (hF0.tr (zB_setL hj hF)) he (by rw [hL.2.1, hV, if_pos (by omega)])
    · exact absurd ((nI_leI (a := 2 * n) (b := k) (by omega) (by omega)).mpr (by omega)) c_76
  | succ q ih =>
    intro k h1 hk hik hL hR hF
    by_cases c : i + k < m
    · skip
      refine WG.iload (pc' := 67) dX5_lays_65 rfl rfl ?_
      refine WG.iconst (v := 2) (pc' := 68) dX5_lays_67 rfl rfl ?_
      refine WG.aload_n (pc' := 69) dX5_lays_68 rfl rfl ?_
      refine WG.getR (r := 69) f_X5_36 (pc' := 72) dX5_lays_69 rfl rfl rfl rfl ?_
      refine WG.getI f_X5_279 (pc' := 75) dX5_lays_72 rfl rfl rfl ?_
      refine WG.imul (pc' := 76) dX5_lays_75 rfl ?_
      rw [hL.2.1, zi2']
      refine WG.icmp_ge (tgt := 108) (pc' := 79) dX5_lays_76 rfl (by decide) (fun c_76 => ?_) (fun c_76 => ?_)
      · exact absurd ((nI_leI (a := 2 * n) (b := k) (by omega) (by omega)).mp c_76) (by omega)
      · refine WG.aload_n (pc' := 80) dX5_lays_79 rfl rfl ?_
        refine WG.iload_n (pc' := 81) dX5_lays_80 rfl rfl ?_
        refine WG.iload (pc' := 83) dX5_lays_81 rfl rfl ?_
        refine WG.iadd (pc' := 84) dX5_lays_83 rfl ?_
        refine WG.aload_n (pc' := 85) dX5_lays_84 rfl rfl ?_
        refine WG.getR (r := 69) f_X5_36 (pc' := 88) dX5_lays_85 rfl rfl rfl rfl ?_
        refine WG.iload (pc' := 90) dX5_lays_88 rfl rfl ?_
        rw [nI_add]
        refine WG.callVd (c_X0_toldNumber hL (by omega)) m_X5_280 b_X0_toldNumber rfl rfl rfl (zrk_of rfl) rfl (Nat.le_of_ble_eq_true rfl) dX5_lays_90 (pc' := 93) rfl ?_
        refine WG.callVd (c_X3_set hR c) m_X5_255 b_X3_set (zRo (by assumption)) rfl rfl (zrk_of rfl) rfl (Nat.le_of_ble_eq_true rfl) dX5_lays_93 (pc' := 96) rfl ?_
        refine WG.if_ne (tgt := 102) (pc' := 99) dX5_lays_96 rfl (by decide) (fun c_96 => ?_) (fun c_96 => ?_)
        · refine WG.iinc1 (L' := [_, _, _, _, _]) (pc' := 105) dX5_lays_102 rfl rfl (by decide) rfl ?_
          refine WG.goto (tgt := 65) dX5_lays_105 (by decide) ?_
          rw [nI_1]
          exact ih (k + 1) _ (by omega) (by omega) (hL.fo (P := zRg (79 + 2 * j) 2) (zFr.rf.L ⟨by omega, by omega⟩) (fun o z => by obtain ⟨z1, z2⟩ := z; omega)) (RR.ex (RR.set hR) (fun p _ => zgl_s p)) (hF.L ⟨by omega, by omega⟩)
        · exact absurd c_96 (by decide)
    · have hns : ¬ zsd m (nI (i + k)) := fun z => c ((zsd_k (by omega) (by omega)).mp z)
      refine WG.iload (pc' := 67) dX5_lays_65 rfl rfl ?_
      refine WG.iconst (v := 2) (pc' := 68) dX5_lays_67 rfl rfl ?_
      refine WG.aload_n (pc' := 69) dX5_lays_68 rfl rfl ?_
      refine WG.getR (r := 69) f_X5_36 (pc' := 72) dX5_lays_69 rfl rfl rfl rfl ?_
      refine WG.getI f_X5_279 (pc' := 75) dX5_lays_72 rfl rfl rfl ?_
      refine WG.imul (pc' := 76) dX5_lays_75 rfl ?_
      rw [hL.2.1, zi2']
      refine WG.icmp_ge (tgt := 108) (pc' := 79) dX5_lays_76 rfl (by decide) (fun c_76 => ?_) (fun c_76 => ?_)
      · exact absurd ((nI_leI (a := 2 * n) (b := k) (by omega) (by omega)).mp c_76) (by omega)
      · refine WG.aload_n (pc' := 80) dX5_lays_79 rfl rfl ?_
        refine WG.iload_n (pc' := 81) dX5_lays_80 rfl rfl ?_
        refine WG.iload (pc' := 83) dX5_lays_81 rfl rfl ?_
        refine WG.iadd (pc' := 84) dX5_lays_83 rfl ?_
        refine WG.aload_n (pc' := 85) dX5_lays_84 rfl rfl ?_
        refine WG.getR (r := 69) f_X5_36 (pc' := 88) dX5_lays_85 rfl rfl rfl rfl ?_
        refine WG.iload (pc' := 90) dX5_lays_88 rfl rfl ?_
        rw [nI_add]
        refine WG.callVd (c_X0_toldNumber hL (by omega)) m_X5_280 b_X0_toldNumber rfl rfl rfl (zrk_of rfl) rfl (Nat.le_of_ble_eq_true rfl) dX5_lays_90 (pc' := 93) rfl ?_
        refine WG.callVd (c_X3_setNot hR hns) m_X5_255 b_X3_set (zRo (by assumption)) rfl rfl (zrk_of rfl) rfl (Nat.le_of_ble_eq_true rfl) dX5_lays_93 (pc' := 96) rfl ?_
        refine WG.if_ne (tgt := 102) (pc' := 99) dX5_lays_96 rfl (by decide) (fun c_96 => ?_) (fun c_96 => ?_)
        · exact absurd rfl c_96
        · refine WG.bipush (v := -13) (pc' := 101) dX5_lays_99 rfl rfl ?_
          refine WG.ireturn dX5_lays_101 rfl (by first | rfl | decide) ?_
          exact zok (hfin h1 (hR.ex (fun p hp => by unfold zgl; by_cases z : i ≤ p; (rw [if_pos (by omega), if_pos (by omega)]); (rw [if_neg (by omega), if_neg (by omega)]))) h0 hX0 hF) (hF0.tr (zB_setL hj hF)) he (by rw [hV, if_neg (by omega)])
set_option maxHeartbeats 4000000 in
set_option maxRecDepth 100000 in
theorem x_lays {σ : zA} {h : zH} (hX : RX σ h) (l i : Int32) : K_X5_lays [.ref 0, .int l, .int i] h (zPi RX zB1 h σ (zeJ σ.1.1 σ.1.2 l) (zvY (σ.2.2.2.2.2.1 l.toNatClampNeg) i σ.1.1) (zsL σ l.toNatClampNeg (zuY (σ.2.2.2.2.2.1 l.toNatClampNeg) (zTn (zx σ.1.2 σ.1.1 0) (zx σ.1.2 σ.1.1 1)) i σ.1.1))) := by
  have hn := hX.1.2.1
  refine CT.of rfl rfl (Nat.le_of_ble_eq_true rfl) rfl ?_
  refine WG.iload_n (pc' := 1) dX5_lays_0 rfl rfl ?_
  refine WG.callSd (c_X5_isList h l) m_X5_245 b_X5_isList rfl (zrk_of rfl) rfl (Nat.le_of_ble_eq_true rfl) dX5_lays_1 (pc' := 4) rfl ?_
  refine WG.if_ne (tgt := 13) (pc' := 7) dX5_lays_4 rfl (by decide) (fun c_4 => ?_) (fun c_4 => ?_)
  · rw [zb_ne] at c_4
    refine WG.aload_n (pc' := 14) dX5_lays_13 rfl rfl ?_
    refine WG.getR (r := 69) f_X5_36 (pc' := 17) dX5_lays_14 rfl rfl rfl rfl ?_
    refine WG.aload_n (pc' := 18) dX5_lays_17 rfl rfl ?_
    refine WG.getR (r := 1) f_X5_10 (pc' := 21) dX5_lays_18 rfl rfl rfl rfl ?_
    refine WG.callV (x_settle hX) m_X5_156 b_X0_settle rfl rfl rfl (zrk_of rfl) rfl (Nat.le_of_ble_eq_true rfl) dX5_lays_21 (pc' := 24) rfl (fun r_ h_ q_ => ?_)
    obtain ⟨rfl, hL, hX1, hF1⟩ := q_
    refine WG.if_ne (tgt := 34) (pc' := 27) dX5_lays_24 rfl (by decide) (fun c_24 => ?_) (fun c_24 => ?_)
    · rw [zb_ne] at c_24
      have he : zeJ σ.1.1 σ.1.2 l = 0 := (zes_n c_4).trans (zes_n c_24)
      obtain ⟨j, hj, rfl⟩ := zsd_of (by decide) c_4
      rw [nI_clamp (show j < 2 ^ 31 by omega)]
      have hR := hX1.2.2.2.2.2.1 j hj
      have hr := isR_l hj
      have hsame := zsL_same σ j
      refine WG.aload_n (pc' := 35) dX5_lays_34 rfl rfl ?_
      refine WG.getR (r := 78) f_X5_63 (pc' := 38) dX5_lays_35 rfl rfl rfl rfl ?_
      refine WG.iload_n (pc' := 39) dX5_lays_38 rfl rfl ?_
      refine WG.aaloadN (j := j) (r := 79 + 2 * (j)) (pc' := 40) dX5_lays_39 rfl (t := 1) (Or.inr rfl) rfl rfl (by omega) (by decide) rfl ?_
      refine WG.astore_n (L' := [_, _, _, _, _]) (pc' := 41) dX5_lays_40 rfl (by decide) rfl ?_
      refine WG.aload_n (pc' := 42) dX5_lays_41 rfl rfl ?_
      refine WG.callVd (c_X3_isMissing hR) m_X5_251 b_X3_isMissing (zRo (by assumption)) rfl rfl (zrk_of rfl) rfl (Nat.le_of_ble_eq_true rfl) dX5_lays_42 (pc' := 45) rfl ?_
      refine WG.if_eq (tgt := 51) (pc' := 48) dX5_lays_45 rfl (by decide) (fun c_45 => ?_) (fun c_45 => ?_)
      · rw [zb_eq] at c_45
        obtain ⟨⟨s, m, g⟩, hz⟩ := Option.ne_none_iff_exists'.mp c_45
        rw [hz] at hR hsame ⊢
        have hm := hR.2.1
        refine WG.aload_n (pc' := 52) dX5_lays_51 rfl rfl ?_
        refine WG.iload_n (pc' := 53) dX5_lays_52 rfl rfl ?_
        refine WG.callVd (c_X3_has hR) m_X5_261 b_X3_has (zRo (by assumption)) rfl rfl (zrk_of rfl) rfl (Nat.le_of_ble_eq_true rfl) dX5_lays_53 (pc' := 56) rfl ?_
        refine WG.if_ne (tgt := 62) (pc' := 59) dX5_lays_56 rfl (by decide) (fun c_56 => ?_) (fun c_56 => ?_)
        · rw [zb_ne] at c_56
          obtain ⟨k, hk, rfl⟩ := zsd_of (by omega) c_56
          have eu : zuY (some (s, m, g)) (zTn (zx σ.1.2 σ.1.1 0) (zx σ.1.2 σ.1.1 1)) (nI k) σ.1.1 = some (s, m, zgl g (zTn (zx σ.1.2 σ.1.1 0) (zx σ.1.2 σ.1.1 1)) s k (2 * σ.1.1)) := (if_pos c_56).trans (by rw [nI_clamp (show k < 2 ^ 31 by omega)])
          have ev : zvY (some (s, m, g)) (nI k) σ.1.1 = if k + 2 * σ.1.1 ≤ m then nI σ.1.1 else -13 := by
            show @ite Int32 (zsd m (nI k) ∧ (nI k).toNatClampNeg + 2 * σ.1.1 ≤ m) (Classical.propDecidable _) (nI σ.1.1) (-13) = _
            by_cases z : k + 2 * σ.1.1 ≤ m
            · rw [if_pos z, if_pos ⟨c_56, by rw [nI_clamp (show k < 2 ^ 31 by omega)]; exact z⟩]
            · rw [if_neg z, if_neg (fun y => z (by rw [nI_clamp (show k < 2 ^ 31 by omega)] at y; exact y.2))]
          rw [eu]
          refine WG.iconst (v := 0) (pc' := 63) dX5_lays_62 rfl rfl ?_
          refine WG.istore (L' := [_, _, _, _, _]) (pc' := 65) dX5_lays_63 rfl (by decide) rfl ?_
          exact x_laysL hj he hn hm hk ev (fun h1 q1 h0 q0 q2 => q0.setL hj q1 q2) h_ hX1 hF1 hr (2 * σ.1.1) 0 h_ (by omega) (by omega) hL (hR.ex (fun p _ => by unfold zgl; rw [if_neg (by omega)])) zFr.rf
        · rw [zb_eq] at c_56
          refine WG.bipush (v := -13) (pc' := 61) dX5_lays_59 rfl rfl ?_
          refine WG.ireturn dX5_lays_61 rfl (by first | rfl | decide) ?_
          exact zok (by rw [show zuY (some (s, m, g)) (zTn (zx σ.1.2 σ.1.1 0) (zx σ.1.2 σ.1.1 1)) i σ.1.1 = some (s, m, g) from if_neg c_56, hsame]; exact hX1) hF1 he (show (-13 : Int32) = zvY (some (s, m, g)) i σ.1.1 from (if_neg (fun y => c_56 y.1)).symm)
      · rw [zb_nn] at c_45
        refine WG.bipush (v := -11) (pc' := 50) dX5_lays_48 rfl rfl ?_
        refine WG.ireturn dX5_lays_50 rfl (by first | rfl | decide) ?_
        exact zok (by rw [c_45] at hsame ⊢; show RX (zsL σ j none) _; rw [hsame]; exact hX1) hF1 he (by rw [c_45]; rfl)
    · rw [zb_eq] at c_24
      refine WG.aload_n (pc' := 28) dX5_lays_27 rfl rfl ?_
      refine WG.bipush (v := -3) (pc' := 30) dX5_lays_28 rfl rfl ?_
      refine WG.callVd (c_X5_refuse 3 (by decide)) m_X5_71 b_X5_refuse rfl rfl rfl (zrk_of rfl) rfl (Nat.le_of_ble_eq_true rfl) dX5_lays_30 (pc' := 33) rfl ?_
      refine WG.ireturn dX5_lays_33 rfl (by first | rfl | decide) ?_
      exact zrX hX1 hF1 (by decide) ((zes_n c_4).trans (zes_t c_24))
  · rw [zb_eq] at c_4
    refine WG.aload_n (pc' := 8) dX5_lays_7 rfl rfl ?_
    refine WG.iconst (v := -1) (pc' := 9) dX5_lays_8 rfl rfl ?_
    refine WG.callVd (c_X5_refuse 1 (by decide)) m_X5_71 b_X5_refuse rfl rfl rfl (zrk_of rfl) rfl (Nat.le_of_ble_eq_true rfl) dX5_lays_9 (pc' := 12) rfl ?_
    refine WG.ireturn dX5_lays_12 rfl (by first | rfl | decide) ?_
    exact zrX hX zFr.rf (by decide) (zes_t c_4)
