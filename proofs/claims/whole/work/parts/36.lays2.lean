/-! lays, the other side; count -/
theorem zi_lo {a b : Nat} (h : a + b < 1000) : (nI a).toInt64 + (nI b).toInt64 = (nI (a + b)).toInt64 := by
  have h1 : ∀ n, n < 1000 → (nI n).toInt64.toInt = n := by
    intro n hn
    rw [Int32.toInt_toInt64]
    exact nI_toInt (by omega)
  apply Int64.toInt_inj.mp
  rw [Int64.toInt_add, h1 a (by omega), h1 b (by omega), h1 (a + b) h]
  exact (Int.bmod_eq_of_le (by omega) (by omega)).trans (by omega)
theorem zi_bk (x : Int32) : x.toInt64.toInt32 = x := by simp
theorem zsL_two (σ : zA) (l : Nat) (a b : zls) : zsL (zsL σ l a) l b = zsL σ l b := by
  unfold zsL
  have : (fun i => if i = l then b else (if i = l then a else σ.2.2.2.2.2.1 i)) = fun i => if i = l then b else σ.2.2.2.2.2.1 i := by
    funext i
    by_cases c : i = l
    · rw [if_pos c, if_pos c]
    · rw [if_neg c, if_neg c, if_neg c]
  show (σ.1, σ.2.1, σ.2.2.1, σ.2.2.2.1, σ.2.2.2.2.1, (fun i => if i = l then b else (if i = l then a else σ.2.2.2.2.2.1 i)), σ.2.2.2.2.2.2) = _
  rw [this]
theorem RM.exL {σ : zA} {l m : Nat} {s : Int32} {g g' : Nat → Int64} {h : zH} (hX : RM (zsL σ l (some (s, m, g))) h) (hR : RQ l (some (s, m, g)) h) (e : ∀ i, i < m → g i = g' i) : RM (zsL σ l (some (s, m, g'))) h := by
  have := hX.setQ (hR.ex e) zFr.rf (fun _ _ => rfl) (fun _ _ => rfl) (fun _ _ _ _ => rfl)
  rw [zsL_two] at this
  exact this
set_option maxHeartbeats 4000000 in
set_option maxRecDepth 100000 in
theorem m_laysL {σ : zA} {h : zH} {e V s : Int32} {w : Int64} {ux uy px py g : Nat → Int64} {m j i : Nat} {σ' : zA} (hj : j < 3) (he : e = 0) (him : i < m) (hV : V = if i + 2 * σ.1.1 ≤ m then nI σ.1.1 else -13) (hfin : σ' = zsL σ j (some (s, m, zgl g (zTn px py) s i (2 * σ.1.1)))) : ∀ (q k : Nat) (h1 : zH) (a b : Option Value), k + q = 2 * σ.1.1 → i + k ≤ m → RCm σ.1.1 w ux uy px py h1 → RM (zsL σ j (some (s, m, zgl g (zTn px py) s i k))) h1 → zFr zB2 h h1 → W_X6_lays (zPi RM zB2 h σ e V σ') 41 [some (.ref 86), some (.int (nI j)), some (.int (nI i)), some (.int (nI k)), a, b] [] h1 := by
  intro q
  induction q with
  | zero =>
    intro k h1 a b hk hik hL hX1 hF
    have hn : σ.1.1 ≤ 8 := hX1.1.1
    have hG : RG 88 0 σ.1.1 σ.1.2 h1 := hX1.1
    refine WG.iload_n (pc' := 42) dX6_lays_41 rfl rfl ?_
    refine WG.iconst (v := 2) (pc' := 43) dX6_lays_42 rfl rfl ?_
    refine WG.aload_n (pc' := 44) dX6_lays_43 rfl rfl ?_
    refine WG.callVd (c_X6_many hG) m_X6_63 b_X6_many rfl rfl rfl (zrk_of rfl) rfl (Nat.le_of_ble_eq_true rfl) dX6_lays_44 (pc' := 47) rfl ?_
    refine WG.imul (pc' := 48) dX6_lays_47 rfl ?_
    rw [zi2']
    refine WG.icmp_ge (tgt := 99) (pc' := 51) dX6_lays_48 rfl (by decide) (fun c_48 => ?_) (fun c_48 => ?_)
    · refine WG.aload_n (pc' := 100) dX6_lays_99 rfl rfl ?_
      refine WG.callVd (c_X6_many hG) m_X6_63 b_X6_many rfl rfl rfl (zrk_of rfl) rfl (Nat.le_of_ble_eq_true rfl) dX6_lays_100 (pc' := 103) rfl ?_
      refine WG.ireturn dX6_lays_103 rfl (by first | rfl | decide) ?_
      exact zok (by rw [hfin, show 2 * σ.1.1 = k by omega]; exact hX1) hF he (by rw [hV, if_pos (by omega)])
    · exact absurd ((nI_leI (a := 2 * σ.1.1) (b := k) (by omega) (by omega)).mpr (by omega)) c_48
  | succ q ih =>
    intro k h1 a b hk hik hL hX1 hF
    have hn : σ.1.1 ≤ 8 := hX1.1.1
    have hG : RG 88 0 σ.1.1 σ.1.2 h1 := hX1.1
    have hR : RQ j (some (s, m, zgl g (zTn px py) s i k)) h1 := by
      have := hX1.2.2.2.2.2.1 j hj
      rw [show (zsL σ j (some (s, m, zgl g (zTn px py) s i k))).2.2.2.2.2.1 j = some (s, m, zgl g (zTn px py) s i k) from if_pos rfl] at this
      exact this
    have hR0 := hR
    obtain ⟨r1, r2, r3, r4, r5⟩ := hR
    by_cases c : i + k < m
    · have hc : (0 ≤ (nI i).toInt64 + (nI k).toInt64 ∧ (nI i).toInt64 + (nI k).toInt64 ≤ (nI m - 1).toInt64) := by
        rw [zi_lo (by omega), zin_iff (by omega)]; exact zsd_nI (by omega) c
      refine WG.iload_n (pc' := 42) dX6_lays_41 rfl rfl ?_
      refine WG.iconst (v := 2) (pc' := 43) dX6_lays_42 rfl rfl ?_
      refine WG.aload_n (pc' := 44) dX6_lays_43 rfl rfl ?_
      refine WG.callVd (c_X6_many hG) m_X6_63 b_X6_many rfl rfl rfl (zrk_of rfl) rfl (Nat.le_of_ble_eq_true rfl) dX6_lays_44 (pc' := 47) rfl ?_
      refine WG.imul (pc' := 48) dX6_lays_47 rfl ?_
      rw [zi2']
      refine WG.icmp_ge (tgt := 99) (pc' := 51) dX6_lays_48 rfl (by decide) (fun c_48 => ?_) (fun c_48 => ?_)
      · exact absurd ((nI_leI (a := 2 * σ.1.1) (b := k) (by omega) (by omega)).mp c_48) (by omega)
      · refine WG.iload_n (pc' := 52) dX6_lays_51 rfl rfl ?_
        refine WG.i2l (pc' := 53) dX6_lays_52 rfl ?_
        refine WG.iload_n (pc' := 54) dX6_lays_53 rfl rfl ?_
        refine WG.i2l (pc' := 55) dX6_lays_54 rfl ?_
        refine WG.ladd (pc' := 56) dX6_lays_55 rfl ?_
        refine WG.lstore (L' := [_, _, _, _, _, _]) (pc' := 58) dX6_lays_56 rfl (by decide) rfl ?_
        refine WG.lload (pc' := 60) dX6_lays_58 rfl rfl ?_
        refine WG.lconst (v := 0) (pc' := 61) dX6_lays_60 rfl rfl ?_
        refine WG.aload_n (pc' := 62) dX6_lays_61 rfl rfl ?_
        refine WG.getR (r := 98) f_X6_54 (pc' := 65) dX6_lays_62 rfl rfl rfl rfl ?_
        refine WG.iload_n (pc' := 66) dX6_lays_65 rfl rfl ?_
        refine WG.ialoadN (j := j) (pc' := 67) dX6_lays_66 rfl rfl rfl (by omega) (by first | decide | omega) ?_
        rw [r4]
        refine WG.iconst (v := 1) (pc' := 68) dX6_lays_67 rfl rfl ?_
        refine WG.isub (pc' := 69) dX6_lays_68 rfl ?_
        refine WG.i2l (pc' := 70) dX6_lays_69 rfl ?_
        refine WG.callSd (c_X6_in _ _ _ _) m_X6_67 b_X6_in rfl (zrk_of rfl) rfl (Nat.le_of_ble_eq_true rfl) dX6_lays_70 (pc' := 73) rfl ?_
        refine WG.if_ne (tgt := 79) (pc' := 76) dX6_lays_73 rfl (by decide) (fun c_73 => ?_) (fun c_73 => ?_)
        · refine WG.aload_n (pc' := 80) dX6_lays_79 rfl rfl ?_
          refine WG.iload_n (pc' := 81) dX6_lays_80 rfl rfl ?_
          refine WG.lload (pc' := 83) dX6_lays_81 rfl rfl ?_
          refine WG.l2i (pc' := 84) dX6_lays_83 rfl ?_
          refine WG.aload_n (pc' := 85) dX6_lays_84 rfl rfl ?_
          refine WG.getR (r := 95) f_X6_45 (pc' := 88) dX6_lays_85 rfl rfl rfl rfl ?_
          refine WG.iload_n (pc' := 89) dX6_lays_88 rfl rfl ?_
          refine WG.laloadN (j := k) (pc' := 90) dX6_lays_89 rfl rfl rfl (by omega) (by first | decide | omega) ?_
          rw [zi_lo (by omega), zi_bk, hL.tn (by omega)]
          refine WG.callVd (c_X6_lies hj (show i + k < 20 by omega) r3) m_X6_311 b_X6_lies rfl rfl rfl (zrk_of rfl) rfl (Nat.le_of_ble_eq_true rfl) dX6_lays_90 (pc' := 93) rfl ?_
          refine WG.iinc1 (L' := [_, _, _, _, _, _]) (pc' := 96) dX6_lays_93 rfl rfl (by decide) rfl ?_
          refine WG.goto (tgt := 41) dX6_lays_96 (by decide) ?_
          rw [nI_1]
          exact ih (k + 1) _ _ _ (by omega) (by omega) (hL.fo (zFr.rf.L (P := fun o => o = 99) rfl) (by omega) (by omega) (by omega)) (by rw [← funext (zgl_s (g := g) (T := zTn px py) (s := s) (i := i) (k := k))]; have := hX1.setI (v := zcut s (zTn px py k)) hR0 (show i + k < 20 by omega); rw [zsL_two] at this; exact this) (hF.L (by show 86 ≤ 99; decide))
        · exact absurd hc (zb_eq.mp c_73)
    · have hc : ¬ (0 ≤ (nI i).toInt64 + (nI k).toInt64 ∧ (nI i).toInt64 + (nI k).toInt64 ≤ (nI m - 1).toInt64) := by
        rw [zi_lo (by omega), zin_iff (by omega)]; exact fun z => c ((zsd_k (by omega) (by omega)).mp z)
      refine WG.iload_n (pc' := 42) dX6_lays_41 rfl rfl ?_
      refine WG.iconst (v := 2) (pc' := 43) dX6_lays_42 rfl rfl ?_
      refine WG.aload_n (pc' := 44) dX6_lays_43 rfl rfl ?_
      refine WG.callVd (c_X6_many hG) m_X6_63 b_X6_many rfl rfl rfl (zrk_of rfl) rfl (Nat.le_of_ble_eq_true rfl) dX6_lays_44 (pc' := 47) rfl ?_
      refine WG.imul (pc' := 48) dX6_lays_47 rfl ?_
      rw [zi2']
      refine WG.icmp_ge (tgt := 99) (pc' := 51) dX6_lays_48 rfl (by decide) (fun c_48 => ?_) (fun c_48 => ?_)
      · exact absurd ((nI_leI (a := 2 * σ.1.1) (b := k) (by omega) (by omega)).mp c_48) (by omega)
      · refine WG.iload_n (pc' := 52) dX6_lays_51 rfl rfl ?_
        refine WG.i2l (pc' := 53) dX6_lays_52 rfl ?_
        refine WG.iload_n (pc' := 54) dX6_lays_53 rfl rfl ?_
        refine WG.i2l (pc' := 55) dX6_lays_54 rfl ?_
        refine WG.ladd (pc' := 56) dX6_lays_55 rfl ?_
        refine WG.lstore (L' := [_, _, _, _, _, _]) (pc' := 58) dX6_lays_56 rfl (by decide) rfl ?_
        refine WG.lload (pc' := 60) dX6_lays_58 rfl rfl ?_
        refine WG.lconst (v := 0) (pc' := 61) dX6_lays_60 rfl rfl ?_
        refine WG.aload_n (pc' := 62) dX6_lays_61 rfl rfl ?_
        refine WG.getR (r := 98) f_X6_54 (pc' := 65) dX6_lays_62 rfl rfl rfl rfl ?_
        refine WG.iload_n (pc' := 66) dX6_lays_65 rfl rfl ?_
        refine WG.ialoadN (j := j) (pc' := 67) dX6_lays_66 rfl rfl rfl (by omega) (by first | decide | omega) ?_
        rw [r4]
        refine WG.iconst (v := 1) (pc' := 68) dX6_lays_67 rfl rfl ?_
        refine WG.isub (pc' := 69) dX6_lays_68 rfl ?_
        refine WG.i2l (pc' := 70) dX6_lays_69 rfl ?_
        refine WG.callSd (c_X6_in _ _ _ _) m_X6_67 b_X6_in rfl (zrk_of rfl) rfl (Nat.le_of_ble_eq_true rfl) dX6_lays_70 (pc' := 73) rfl ?_
        refine WG.if_ne (tgt := 79) (pc' := 76) dX6_lays_73 rfl (by decide) (fun c_73 => ?_) (fun c_73 => ?_)
        · exact absurd (zb_ne.mp c_73) hc
        · refine WG.bipush (v := -13) (pc' := 78) dX6_lays_76 rfl rfl ?_
          refine WG.ireturn dX6_lays_78 rfl (by first | rfl | decide) ?_
          exact zok (by rw [hfin]; exact RM.exL hX1 hR0 (fun p hp => by unfold zgl; by_cases z : i ≤ p; (rw [if_pos (by omega), if_pos (by omega)]); (rw [if_neg (by omega), if_neg (by omega)]))) hF he (by rw [hV, if_neg (by omega)])
set_option maxHeartbeats 4000000 in
set_option maxRecDepth 100000 in
theorem m_laysF {σ : zA} {h h_ : zH} {e s i : Int32} {w : Int64} {ux uy px py g : Nat → Int64} {m j : Nat} (hj : j < 3) (he : e = 0) (h0 : 0 < σ.1.1) (hX1 : RM σ h_) (hF1 : zFr zB2 h h_) (hL : RCm σ.1.1 w ux uy px py h_) (hR : RQ j (some (s, m, g)) h_) (hsame : zsL σ j (some (s, m, g)) = σ) : W_X6_lays (zPi RM zB2 h σ e (zvY (some (s, m, g)) i σ.1.1) (zsL σ j (zuY (some (s, m, g)) (zTn px py) i σ.1.1))) 41 [some (.ref 86), some (.int (nI j)), some (.int i), some (.int (nI 0)), none, none] [] h_ := by
  have hm := hR.1
  have hn := hX1.1.1
  by_cases c_56 : zsd m i
  · obtain ⟨k, hk, rfl⟩ := zsd_of (by omega) c_56
    have eu : zuY (some (s, m, g)) (zTn px py) (nI k) σ.1.1 = some (s, m, zgl g (zTn px py) s k (2 * σ.1.1)) := (if_pos c_56).trans (by rw [nI_clamp (show k < 2 ^ 31 by omega)])
    have ev : zvY (some (s, m, g)) (nI k) σ.1.1 = if k + 2 * σ.1.1 ≤ m then nI σ.1.1 else -13 := by
      show @ite Int32 (zsd m (nI k) ∧ (nI k).toNatClampNeg + 2 * σ.1.1 ≤ m) (Classical.propDecidable _) (nI σ.1.1) (-13) = _
      by_cases z : k + 2 * σ.1.1 ≤ m
      · rw [if_pos z, if_pos ⟨c_56, by rw [nI_clamp (show k < 2 ^ 31 by omega)]; exact z⟩]
      · rw [if_neg z, if_neg (fun y => z (by rw [nI_clamp (show k < 2 ^ 31 by omega)] at y; exact y.2))]
    rw [eu]
    exact m_laysL hj he hk ev rfl (2 * σ.1.1) 0 h_ _ _ (by omega) (by omega) hL (by rw [show zgl g (zTn px py) s k 0 = g from funext (fun p => by unfold zgl; rw [if_neg (by omega)]), hsame]; exact hX1) hF1
  · obtain ⟨r1, r2, r3, r4, r5⟩ := hR
    have ez : i.toInt64 + (nI 0).toInt64 = i.toInt64 := Int64.add_zero _
    have hu : zuY (some (s, m, g)) (zTn px py) i σ.1.1 = some (s, m, g) := if_neg c_56
    have hv : zvY (some (s, m, g)) i σ.1.1 = -13 := if_neg (fun y => c_56 y.1)
    rw [hu, hv, hsame]
    refine WG.iload_n (pc' := 42) dX6_lays_41 rfl rfl ?_
    refine WG.iconst (v := 2) (pc' := 43) dX6_lays_42 rfl rfl ?_
    refine WG.aload_n (pc' := 44) dX6_lays_43 rfl rfl ?_
    refine WG.callVd (c_X6_many hX1.1) m_X6_63 b_X6_many rfl rfl rfl (zrk_of rfl) rfl (Nat.le_of_ble_eq_true rfl) dX6_lays_44 (pc' := 47) rfl ?_
    refine WG.imul (pc' := 48) dX6_lays_47 rfl ?_
    rw [zi2']
    refine WG.icmp_ge (tgt := 99) (pc' := 51) dX6_lays_48 rfl (by decide) (fun c_48 => ?_) (fun c_48 => ?_)
    · exact absurd ((nI_leI (a := 2 * σ.1.1) (b := 0) (by omega) (by omega)).mp c_48) (by omega)
    · refine WG.iload_n (pc' := 52) dX6_lays_51 rfl rfl ?_
      refine WG.i2l (pc' := 53) dX6_lays_52 rfl ?_
      refine WG.iload_n (pc' := 54) dX6_lays_53 rfl rfl ?_
      refine WG.i2l (pc' := 55) dX6_lays_54 rfl ?_
      refine WG.ladd (pc' := 56) dX6_lays_55 rfl ?_
      refine WG.lstore (L' := [_, _, _, _, _, _]) (pc' := 58) dX6_lays_56 rfl (by decide) rfl ?_
      refine WG.lload (pc' := 60) dX6_lays_58 rfl rfl ?_
      refine WG.lconst (v := 0) (pc' := 61) dX6_lays_60 rfl rfl ?_
      refine WG.aload_n (pc' := 62) dX6_lays_61 rfl rfl ?_
      refine WG.getR (r := 98) f_X6_54 (pc' := 65) dX6_lays_62 rfl rfl rfl rfl ?_
      refine WG.iload_n (pc' := 66) dX6_lays_65 rfl rfl ?_
      refine WG.ialoadN (j := j) (pc' := 67) dX6_lays_66 rfl rfl rfl (by omega) (by first | decide | omega) ?_
      rw [r4]
      refine WG.iconst (v := 1) (pc' := 68) dX6_lays_67 rfl rfl ?_
      refine WG.isub (pc' := 69) dX6_lays_68 rfl ?_
      refine WG.i2l (pc' := 70) dX6_lays_69 rfl ?_
      refine WG.callSd (c_X6_in _ _ _ _) m_X6_67 b_X6_in rfl (zrk_of rfl) rfl (Nat.le_of_ble_eq_true rfl) dX6_lays_70 (pc' := 73) rfl ?_
      refine WG.if_ne (tgt := 79) (pc' := 76) dX6_lays_73 rfl (by decide) (fun c_73 => ?_) (fun c_73 => ?_)
      · exact absurd ((zin_iff (by omega) i).mp (by rw [← ez]; exact zb_ne.mp c_73)) c_56
      · refine WG.bipush (v := -13) (pc' := 78) dX6_lays_76 rfl rfl ?_
        refine WG.ireturn dX6_lays_78 rfl (by first | rfl | decide) ?_
        exact zok hX1 hF1 he rfl
set_option maxHeartbeats 4000000 in
set_option maxRecDepth 100000 in
theorem m_lays {σ : zA} {h : zH} (hX : RM σ h) (l i : Int32) : K_X6_lays [.ref 86, .int l, .int i] h (zPi RM zB2 h σ (zeJ σ.1.1 σ.1.2 l) (zvY (σ.2.2.2.2.2.1 l.toNatClampNeg) i σ.1.1) (zsL σ l.toNatClampNeg (zuY (σ.2.2.2.2.2.1 l.toNatClampNeg) (zTn (zx σ.1.2 σ.1.1 0) (zx σ.1.2 σ.1.1 1)) i σ.1.1))) := by
  refine CT.of rfl rfl (Nat.le_of_ble_eq_true rfl) rfl ?_
  refine WG.iload_n (pc' := 1) dX6_lays_0 rfl rfl ?_
  refine WG.callSd (c_X6_isList h l) m_X6_308 b_X6_isList rfl (zrk_of rfl) rfl (Nat.le_of_ble_eq_true rfl) dX6_lays_1 (pc' := 4) rfl ?_
  refine WG.if_ne (tgt := 13) (pc' := 7) dX6_lays_4 rfl (by decide) (fun c_4 => ?_) (fun c_4 => ?_)
  · rw [zb_ne] at c_4
    refine WG.aload_n (pc' := 14) dX6_lays_13 rfl rfl ?_
    refine WG.callV (m_spreads hX) m_X6_200 b_X6_spreadsAll rfl rfl rfl (zrk_of rfl) rfl (Nat.le_of_ble_eq_true rfl) dX6_lays_14 (pc' := 17) rfl (fun r_ h_ q_ => ?_)
    obtain ⟨rfl, hL, hX1, hF1⟩ := q_
    refine WG.if_ne (tgt := 27) (pc' := 20) dX6_lays_17 rfl (by decide) (fun c_17 => ?_) (fun c_17 => ?_)
    · rw [zb_ne] at c_17
      have he : zeJ σ.1.1 σ.1.2 l = 0 := (zes_n c_4).trans (zes_n c_17)
      have h0 := zW0 c_17
      obtain ⟨j, hj, rfl⟩ := zsd_of (by decide) c_4
      rw [nI_clamp (show j < 2 ^ 31 by omega)]
      have hR := hX1.2.2.2.2.2.1 j hj
      have hsame := zsL_same σ j
      refine WG.aload_n (pc' := 28) dX6_lays_27 rfl rfl ?_
      refine WG.getR (r := 97) f_X6_51 (pc' := 31) dX6_lays_28 rfl rfl rfl rfl ?_
      refine WG.iload_n (pc' := 32) dX6_lays_31 rfl rfl ?_
      refine WG.ialoadN (j := j) (pc' := 33) dX6_lays_32 rfl rfl rfl (by omega) (by first | decide | omega) ?_
      refine WG.if_ge (tgt := 39) (pc' := 36) dX6_lays_33 rfl (by decide) (fun c_33 => ?_) (fun c_33 => ?_)
      · obtain ⟨⟨s, m, g⟩, hz⟩ : ∃ z, σ.2.2.2.2.2.1 j = some z := by
          revert hR
          generalize σ.2.2.2.2.2.1 j = z
          intro hR
          match z, hR with
          | none, hR => exact absurd c_33 (by rw [show h_.1 97 j = -1 from hR]; decide)
          | some z, _ => exact ⟨z, rfl⟩
        rw [hz] at hR hsame ⊢
        have hm := hR.1
        refine WG.iconst (v := 0) (pc' := 40) dX6_lays_39 rfl rfl ?_
        refine WG.istore_n (L' := [_, _, _, _, _, _]) (pc' := 41) dX6_lays_40 rfl (by decide) rfl ?_
        exact m_laysF hj he h0 hX1 hF1 hL hR hsame
      · have hz : σ.2.2.2.2.2.1 j = none := by
          revert hR
          generalize σ.2.2.2.2.2.1 j = z
          intro hR
          match z, hR with
          | none, _ => rfl
          | some (s, m, g), hR => exact absurd (by rw [hR.2.2.1]; exact zs1n hR.2.1) c_33
        refine WG.bipush (v := -11) (pc' := 38) dX6_lays_36 rfl rfl ?_
        refine WG.ireturn dX6_lays_38 rfl (by first | rfl | decide) ?_
        exact zok (by rw [hz] at hsame ⊢; show RM (zsL σ j none) _; rw [hsame]; exact hX1) hF1 he (by rw [hz]; rfl)
    · rw [zb_eq] at c_17
      refine WG.aload_n (pc' := 21) dX6_lays_20 rfl rfl ?_
      refine WG.bipush (v := -3) (pc' := 23) dX6_lays_21 rfl rfl ?_
      refine WG.callVd (c_X6_no 3 (by decide)) m_X6_13 b_X6_no rfl rfl rfl (zrk_of rfl) rfl (Nat.le_of_ble_eq_true rfl) dX6_lays_23 (pc' := 26) rfl ?_
      refine WG.ireturn dX6_lays_26 rfl (by first | rfl | decide) ?_
      exact zrM hX1 hF1 (by decide) ((zes_n c_4).trans (zes_t c_17))
  · rw [zb_eq] at c_4
    refine WG.aload_n (pc' := 8) dX6_lays_7 rfl rfl ?_
    refine WG.iconst (v := -1) (pc' := 9) dX6_lays_8 rfl rfl ?_
    refine WG.callVd (c_X6_no 1 (by decide)) m_X6_13 b_X6_no rfl rfl rfl (zrk_of rfl) rfl (Nat.le_of_ble_eq_true rfl) dX6_lays_9 (pc' := 12) rfl ?_
    refine WG.ireturn dX6_lays_12 rfl (by first | rfl | decide) ?_
    exact zrM hX zFr.rf (by decide) (zes_t c_4)
