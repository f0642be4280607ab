/-! parcel and count -/
set_option maxRecDepth 100000 in
theorem zremD : ∀ n : Fin 9, ∀ a : Fin 16, 0 < n.1 → a.1 < 2 * n.1 → nI a.1 - nI a.1 / nI n.1 * nI n.1 = nI (zro n.1 a.1) := by decide
theorem zrem {n a : Nat} (hn : n ≤ 8) (h : a < 2 * n) : nI a - nI a / nI n * nI n = nI (zro n a) := zremD ⟨n, by omega⟩ ⟨a, by omega⟩ (show 0 < n by omega) h
theorem zn0 {n : Nat} (hn : n ≤ 8) (h : 0 < n) : ¬ nI n = 0 := by
  intro q
  have := (nI_eq (a := n) (b := 0) (by omega) (by omega)).mp q
  omega
theorem zpk {n : Nat} {k : Int32} (hn : n ≤ 8) (h1 : ¬ k < 0) (h2 : ¬ nI n - 2 < k) : ∃ m, k = nI m ∧ m + 2 ≤ n := by
  by_cases q : 2 ≤ n
  · rw [show nI n - 2 = nI (n - 2) from pk_sub (b := 2) q] at h2
    have e : nI (n - 2 + 1) = nI (n - 2) + 1 := nI_succ _
    have : zsd (n - 2 + 1) k := by
      have b1 : (nI (n - 2)) < 100 := (nI_ltI (a := n - 2) (b := 100) (by omega) (by omega)).mpr (by omega)
      refine ⟨by grind, ?_⟩
      rw [e]; grind
    obtain ⟨m, hm, rfl⟩ := zsd_of (by omega) this
    exact ⟨m, rfl, by omega⟩
  · exfalso
    have : nI n - 2 < 0 := by rcases (show n = 0 ∨ n = 1 by omega) with rfl | rfl <;> decide
    grind
set_option maxHeartbeats 4000000 in
set_option maxRecDepth 100000 in
theorem c_X6_parcelOf {n : Nat} {f : zf} {w : Int64} {ux uy px py : Nat → Int64} {h : zH} (hG : RG 88 0 n f h) (hL : RCm n w ux uy px py h) {c k : Nat} (hc : c < n) (hk : k + 2 ≤ n ∨ k = 0) : K_X6_parcelOf [.ref 86, .int (nI c), .int (nI k)] h (zD (some (.long (zpa n px py c k))) h) := by
  have hn := hL.1
  have hne := zn0 hn (show 0 < n by omega)
  refine CT.of rfl rfl (Nat.le_of_ble_eq_true rfl) rfl ?_
  have loop : ∀ (m j : Nat), j ≤ k → k - j < m → W_X6_parcelOf (zD (some (.long (zpa n px py c k))) h) 5 [some (.ref 86), some (.int (nI c)), some (.int (nI k)), some (.long (zpa n px py c j)), none, some (.int (nI (j + 1)))] [] h := by
    intro m
    induction m with
    | zero => intro i h1 h2; omega
    | succ m ih =>
      intro j hj hm
      refine WG.iload (pc' := 7) dX6_parcelOf_5 rfl rfl ?_
      refine WG.iload_n (pc' := 8) dX6_parcelOf_7 rfl rfl ?_
      refine WG.icmp_gt (tgt := 45) (pc' := 11) dX6_parcelOf_8 rfl (by decide) (fun c_8 => ?_) (fun c_8 => ?_)
      · obtain rfl : j = k := by have := (nI_ltI (by omega) (by omega)).mp c_8; omega
        refine WG.lload_n (pc' := 46) dX6_parcelOf_45 rfl rfl ?_
        refine WG.lreturn dX6_parcelOf_46 rfl ?_
        exact ⟨rfl, rfl⟩
      · have hlt : j < k := by have := mt (nI_ltI (a := k) (b := j + 1) (by omega) (by omega)).mpr c_8; omega
        refine WG.lload_n (pc' := 12) dX6_parcelOf_11 rfl rfl ?_
        refine WG.aload_n (pc' := 13) dX6_parcelOf_12 rfl rfl ?_
        refine WG.iload_n (pc' := 14) dX6_parcelOf_13 rfl rfl ?_
        refine WG.iload_n (pc' := 15) dX6_parcelOf_14 rfl rfl ?_
        refine WG.iload (pc' := 17) dX6_parcelOf_15 rfl rfl ?_
        refine WG.iadd (pc' := 18) dX6_parcelOf_17 rfl ?_
        refine WG.aload_n (pc' := 19) dX6_parcelOf_18 rfl rfl ?_
        refine WG.callVd (c_X6_many hG) m_X6_63 b_X6_many rfl rfl rfl (zrk_of rfl) rfl (Nat.le_of_ble_eq_true rfl) dX6_parcelOf_19 (pc' := 22) rfl ?_
        rw [nI_add]
        refine WG.irem (pc' := 23) dX6_parcelOf_22 rfl hne ?_
        refine WG.iload_n (pc' := 24) dX6_parcelOf_23 rfl rfl ?_
        refine WG.iload (pc' := 26) dX6_parcelOf_24 rfl rfl ?_
        refine WG.iadd (pc' := 27) dX6_parcelOf_26 rfl ?_
        refine WG.iconst (v := 1) (pc' := 28) dX6_parcelOf_27 rfl rfl ?_
        refine WG.iadd (pc' := 29) dX6_parcelOf_28 rfl ?_
        refine WG.aload_n (pc' := 30) dX6_parcelOf_29 rfl rfl ?_
        refine WG.callVd (c_X6_many hG) m_X6_63 b_X6_many rfl rfl rfl (zrk_of rfl) rfl (Nat.le_of_ble_eq_true rfl) dX6_parcelOf_30 (pc' := 33) rfl ?_
        rw [nI_add, nI_1]
        refine WG.irem (pc' := 34) dX6_parcelOf_33 rfl hne ?_
        rw [zrem hn (by omega), zrem hn (by omega)]
        refine WG.callVd (c_X6_three hL hc (zro_lt2 (by omega)) (zro_lt2 (by omega))) m_X6_232 b_X6_three rfl rfl rfl (zrk_of rfl) rfl (Nat.le_of_ble_eq_true rfl) dX6_parcelOf_34 (pc' := 37) rfl ?_
        refine WG.ladd (pc' := 38) dX6_parcelOf_37 rfl ?_
        refine WG.lstore_n (L' := [_, _, _, _, _, _]) (pc' := 39) dX6_parcelOf_38 rfl (by decide) rfl ?_
        refine WG.iinc1 (L' := [_, _, _, _, _, _]) (pc' := 42) dX6_parcelOf_39 rfl rfl (by decide) rfl ?_
        refine WG.goto (tgt := 5) dX6_parcelOf_42 (by decide) ?_
        have q := ih (j + 1) hlt (by omega)
        rw [nI_succ (j + 1)] at q
        exact q
  refine WG.lconst (v := 0) (pc' := 1) dX6_parcelOf_0 rfl rfl ?_
  refine WG.lstore_n (L' := [_, _, _, _, _, _]) (pc' := 2) dX6_parcelOf_1 rfl (by decide) rfl ?_
  refine WG.iconst (v := 1) (pc' := 3) dX6_parcelOf_2 rfl rfl ?_
  refine WG.istore (L' := [_, _, _, _, _, _]) (pc' := 5) dX6_parcelOf_3 rfl (by decide) rfl ?_
  exact loop (k + 1) 0 (by omega) (by omega)
noncomputable def zePa (n : Nat) (f : zf) (s k p : Int32) : Int32 := zes [(¬ zsd n s, -1), (k < 0, -4), (nI n - 2 < k, -6), (¬ (p = 0 ∨ p = 1), -2), (¬ 0 < zWt f n, -3)]
set_option maxHeartbeats 4000000 in
set_option maxRecDepth 100000 in
theorem x_parcel {σ : zA} {h : zH} (hX : RX σ h) (hV : VS σ.1.1 σ.1.2) (s k p : Int32) : K_X5_parcel [.ref 0, .int s, .int k, .int p] h (zPl RX zB1 h σ (zePa σ.1.1 σ.1.2 s k p) (zfr (zpa σ.1.1 (zx σ.1.2 σ.1.1 0) (zx σ.1.2 σ.1.1 1) s.toNatClampNeg k.toNatClampNeg) (2 * zWt σ.1.2 σ.1.1 * zWt σ.1.2 σ.1.1) p)) := by
  have hS := hX.1
  have hn := hS.2.1
  have hwb := zWt_b hV
  have hsz : h.1 1 5 = nI σ.1.1 := hS.2.2.1
  refine CT.of rfl rfl (Nat.le_of_ble_eq_true rfl) rfl ?_
  refine WG.aload_n (pc' := 1) dX5_parcel_0 rfl rfl ?_
  refine WG.getR (r := 1) f_X5_10 (pc' := 4) dX5_parcel_1 rfl rfl rfl rfl ?_
  refine WG.iload_n (pc' := 5) dX5_parcel_4 rfl rfl ?_
  refine WG.callVd (c_X4_has hS s) m_X5_105 b_X4_has rfl rfl rfl (zrk_of rfl) rfl (Nat.le_of_ble_eq_true rfl) dX5_parcel_5 (pc' := 8) rfl ?_
  refine WG.if_ne (tgt := 17) (pc' := 11) dX5_parcel_8 rfl (by decide) (fun c_8 => ?_) (fun c_8 => ?_)
  · rw [zb_ne] at c_8
    refine WG.iload_n (pc' := 18) dX5_parcel_17 rfl rfl ?_
    refine WG.if_ge (tgt := 28) (pc' := 21) dX5_parcel_18 rfl (by decide) (fun c_18 => ?_) (fun c_18 => ?_)
    · refine WG.iload_n (pc' := 29) dX5_parcel_28 rfl rfl ?_
      refine WG.aload_n (pc' := 30) dX5_parcel_29 rfl rfl ?_
      refine WG.getR (r := 1) f_X5_10 (pc' := 33) dX5_parcel_30 rfl rfl rfl rfl ?_
      refine WG.getI f_X5_90 (pc' := 36) dX5_parcel_33 rfl rfl rfl ?_
      refine WG.iconst (v := 2) (pc' := 37) dX5_parcel_36 rfl rfl ?_
      refine WG.isub (pc' := 38) dX5_parcel_37 rfl ?_
      rw [hsz]
      refine WG.icmp_le (tgt := 48) (pc' := 41) dX5_parcel_38 rfl (by decide) (fun c_38 => ?_) (fun c_38 => ?_)
      · have c38 : ¬ nI σ.1.1 - 2 < k := by grind
        have c18 : ¬ k < 0 := by grind
        refine WG.iload_n (pc' := 49) dX5_parcel_48 rfl rfl ?_
        refine WG.callSd (c_X5_isOneOfTwo h p) m_X5_144 b_X5_isOneOfTwo rfl (zrk_of rfl) rfl (Nat.le_of_ble_eq_true rfl) dX5_parcel_49 (pc' := 52) rfl ?_
        refine WG.if_ne (tgt := 62) (pc' := 55) dX5_parcel_52 rfl (by decide) (fun c_52 => ?_) (fun c_52 => ?_)
        · rw [zb_ne] at c_52
          refine WG.aload_n (pc' := 63) dX5_parcel_62 rfl rfl ?_
          refine WG.getR (r := 69) f_X5_36 (pc' := 66) dX5_parcel_63 rfl rfl rfl rfl ?_
          refine WG.aload_n (pc' := 67) dX5_parcel_66 rfl rfl ?_
          refine WG.getR (r := 1) f_X5_10 (pc' := 70) dX5_parcel_67 rfl rfl rfl rfl ?_
          refine WG.callV (x_settle hX) m_X5_156 b_X0_settle rfl rfl rfl (zrk_of rfl) rfl (Nat.le_of_ble_eq_true rfl) dX5_parcel_70 (pc' := 73) rfl (fun r_ h_ q_ => ?_)
          obtain ⟨rfl, hL, hX1, hF1⟩ := q_
          refine WG.if_ne (tgt := 83) (pc' := 76) dX5_parcel_73 rfl (by decide) (fun c_73 => ?_) (fun c_73 => ?_)
          · rw [zb_ne] at c_73
            have he : zePa σ.1.1 σ.1.2 s k p = 0 := ((zes_n c_8).trans ((zes_f c18).trans ((zes_f c38).trans ((zes_n c_52).trans (zes_n c_73)))))
            obtain ⟨j, hj, rfl⟩ := zsd_of (by omega) c_8
            obtain ⟨m, rfl, hm⟩ := zpk hn c18 c38
            rw [nI_clamp (show j < 2 ^ 31 by omega), nI_clamp (show m < 2 ^ 31 by omega)]
            refine WG.aload_n (pc' := 84) dX5_parcel_83 rfl rfl ?_
            refine WG.getR (r := 69) f_X5_36 (pc' := 87) dX5_parcel_84 rfl rfl rfl rfl ?_
            refine WG.iload_n (pc' := 88) dX5_parcel_87 rfl rfl ?_
            refine WG.iload_n (pc' := 89) dX5_parcel_88 rfl rfl ?_
            refine WG.callVd (c_X0_parcelSum hL hj hm) m_X5_229 b_X0_parcelSum rfl rfl rfl (zrk_of rfl) rfl (Nat.le_of_ble_eq_true rfl) dX5_parcel_89 (pc' := 92) rfl ?_
            refine WG.aload_n (pc' := 93) dX5_parcel_92 rfl rfl ?_
            refine WG.getR (r := 69) f_X5_36 (pc' := 96) dX5_parcel_93 rfl rfl rfl rfl ?_
            refine WG.callVd (c_X0_unit hL) m_X5_183 b_X0_unit rfl rfl rfl (zrk_of rfl) rfl (Nat.le_of_ble_eq_true rfl) dX5_parcel_96 (pc' := 99) rfl ?_
            refine WG.iload_n (pc' := 100) dX5_parcel_99 rfl rfl ?_
            refine WG.callSd (c_X5_fraction (zbd_of (zpa_b hn (zPB_x hV) hj m (Or.inl hm)) (by omega)) (zbd_of (zun_b hwb).2 (by decide)) (zUne hwb c_73)) m_X5_171 b_X5_fraction rfl (zrk_of rfl) rfl (Nat.le_of_ble_eq_true rfl) dX5_parcel_100 (pc' := 103) rfl ?_
            refine WG.lreturn dX5_parcel_103 rfl ?_
            exact zokl hX1 hF1 he rfl
          · rw [zb_eq] at c_73
            refine WG.aload_n (pc' := 77) dX5_parcel_76 rfl rfl ?_
            refine WG.bipush (v := -3) (pc' := 79) dX5_parcel_77 rfl rfl ?_
            refine WG.callVd (c_X5_refuseLong 3 (by decide)) m_X5_116 b_X5_refuseLong rfl rfl rfl (zrk_of rfl) rfl (Nat.le_of_ble_eq_true rfl) dX5_parcel_79 (pc' := 82) rfl ?_
            refine WG.lreturn dX5_parcel_82 rfl ?_
            exact zrXl hX1 hF1 (by decide) ((zes_n c_8).trans ((zes_f c18).trans ((zes_f c38).trans ((zes_n c_52).trans (zes_t c_73)))))
        · rw [zb_eq] at c_52
          refine WG.aload_n (pc' := 56) dX5_parcel_55 rfl rfl ?_
          refine WG.bipush (v := -2) (pc' := 58) dX5_parcel_56 rfl rfl ?_
          refine WG.callVd (c_X5_refuseLong 2 (by decide)) m_X5_116 b_X5_refuseLong rfl rfl rfl (zrk_of rfl) rfl (Nat.le_of_ble_eq_true rfl) dX5_parcel_58 (pc' := 61) rfl ?_
          refine WG.lreturn dX5_parcel_61 rfl ?_
          exact zrXl hX zFr.rf (by decide) ((zes_n c_8).trans ((zes_f c18).trans ((zes_f c38).trans (zes_t c_52))))
      · have c38 : nI σ.1.1 - 2 < k := by grind
        refine WG.aload_n (pc' := 42) dX5_parcel_41 rfl rfl ?_
        refine WG.bipush (v := -6) (pc' := 44) dX5_parcel_42 rfl rfl ?_
        refine WG.callVd (c_X5_refuseLong 6 (by decide)) m_X5_116 b_X5_refuseLong rfl rfl rfl (zrk_of rfl) rfl (Nat.le_of_ble_eq_true rfl) dX5_parcel_44 (pc' := 47) rfl ?_
        refine WG.lreturn dX5_parcel_47 rfl ?_
        exact zrXl hX zFr.rf (by decide) ((zes_n c_8).trans ((zes_f (by grind)).trans (zes_t c38)))
    · refine WG.aload_n (pc' := 22) dX5_parcel_21 rfl rfl ?_
      refine WG.bipush (v := -4) (pc' := 24) dX5_parcel_22 rfl rfl ?_
      refine WG.callVd (c_X5_refuseLong 4 (by decide)) m_X5_116 b_X5_refuseLong rfl rfl rfl (zrk_of rfl) rfl (Nat.le_of_ble_eq_true rfl) dX5_parcel_24 (pc' := 27) rfl ?_
      refine WG.lreturn dX5_parcel_27 rfl ?_
      exact zrXl hX zFr.rf (by decide) ((zes_n c_8).trans (zes_t (by grind)))
  · rw [zb_eq] at c_8
    refine WG.aload_n (pc' := 12) dX5_parcel_11 rfl rfl ?_
    refine WG.iconst (v := -1) (pc' := 13) dX5_parcel_12 rfl rfl ?_
    refine WG.callVd (c_X5_refuseLong 1 (by decide)) m_X5_116 b_X5_refuseLong rfl rfl rfl (zrk_of rfl) rfl (Nat.le_of_ble_eq_true rfl) dX5_parcel_13 (pc' := 16) rfl ?_
    refine WG.lreturn dX5_parcel_16 rfl ?_
    exact zrXl hX zFr.rf (by decide) (zes_t c_8)
set_option maxHeartbeats 4000000 in
set_option maxRecDepth 100000 in
theorem m_parcel {σ : zA} {h : zH} (hX : RM σ h) (hV : VS σ.1.1 σ.1.2) (s k p : Int32) : K_X6_parcel [.ref 86, .int s, .int k, .int p] h (zPl RM zB2 h σ (zePa σ.1.1 σ.1.2 s k p) (zfr (zpa σ.1.1 (zx σ.1.2 σ.1.1 0) (zx σ.1.2 σ.1.1 1) s.toNatClampNeg k.toNatClampNeg) (2 * zWt σ.1.2 σ.1.1 * zWt σ.1.2 σ.1.1) p)) := by
  have hS := hX.1
  have hn := hS.1
  have hwb := zWt_b hV
  refine CT.of rfl rfl (Nat.le_of_ble_eq_true rfl) rfl ?_
  refine WG.aload_n (pc' := 1) dX6_parcel_0 rfl rfl ?_
  refine WG.iload_n (pc' := 2) dX6_parcel_1 rfl rfl ?_
  refine WG.callVd (c_X6_isSide hS s) m_X6_106 b_X6_isSide rfl rfl rfl (zrk_of rfl) rfl (Nat.le_of_ble_eq_true rfl) dX6_parcel_2 (pc' := 5) rfl ?_
  refine WG.if_ne (tgt := 14) (pc' := 8) dX6_parcel_5 rfl (by decide) (fun c_5 => ?_) (fun c_5 => ?_)
  · rw [zb_ne] at c_5
    refine WG.iload_n (pc' := 15) dX6_parcel_14 rfl rfl ?_
    refine WG.if_ge (tgt := 25) (pc' := 18) dX6_parcel_15 rfl (by decide) (fun c_15 => ?_) (fun c_15 => ?_)
    · refine WG.iload_n (pc' := 26) dX6_parcel_25 rfl rfl ?_
      refine WG.aload_n (pc' := 27) dX6_parcel_26 rfl rfl ?_
      refine WG.callVd (c_X6_many hS) m_X6_63 b_X6_many rfl rfl rfl (zrk_of rfl) rfl (Nat.le_of_ble_eq_true rfl) dX6_parcel_27 (pc' := 30) rfl ?_
      refine WG.iconst (v := 2) (pc' := 31) dX6_parcel_30 rfl rfl ?_
      refine WG.isub (pc' := 32) dX6_parcel_31 rfl ?_
      refine WG.icmp_le (tgt := 42) (pc' := 35) dX6_parcel_32 rfl (by decide) (fun c_32 => ?_) (fun c_32 => ?_)
      · have c38 : ¬ nI σ.1.1 - 2 < k := by grind
        have c18 : ¬ k < 0 := by grind
        refine WG.iload_n (pc' := 43) dX6_parcel_42 rfl rfl ?_
        refine WG.callSd (c_X6_isPart h p) m_X6_197 b_X6_isPart rfl (zrk_of rfl) rfl (Nat.le_of_ble_eq_true rfl) dX6_parcel_43 (pc' := 46) rfl ?_
        refine WG.if_ne (tgt := 56) (pc' := 49) dX6_parcel_46 rfl (by decide) (fun c_46 => ?_) (fun c_46 => ?_)
        · rw [zb_ne] at c_46
          refine WG.aload_n (pc' := 57) dX6_parcel_56 rfl rfl ?_
          refine WG.callV (m_spreads hX) m_X6_200 b_X6_spreadsAll rfl rfl rfl (zrk_of rfl) rfl (Nat.le_of_ble_eq_true rfl) dX6_parcel_57 (pc' := 60) rfl (fun r_ h_ q_ => ?_)
          obtain ⟨rfl, hL, hX1, hF1⟩ := q_
          refine WG.if_eq (tgt := 77) (pc' := 63) dX6_parcel_60 rfl (by decide) (fun c_60 => ?_) (fun c_60 => ?_)
          · rw [zb_eq] at c_60
            refine WG.aload_n (pc' := 78) dX6_parcel_77 rfl rfl ?_
            refine WG.bipush (v := -3) (pc' := 80) dX6_parcel_78 rfl rfl ?_
            refine WG.callVd (c_X6_far 3 (by decide)) m_X6_177 b_X6_far rfl rfl rfl (zrk_of rfl) rfl (Nat.le_of_ble_eq_true rfl) dX6_parcel_80 (pc' := 83) rfl ?_
            refine WG.lreturn dX6_parcel_83 rfl ?_
            first
              | exact zokl hX1 hF1 he rfl
              | exact zrMl hX1 hF1 (by decide) ((zes_n c_5).trans ((zes_f c18).trans ((zes_f c38).trans ((zes_n c_46).trans (zes_t c_60)))))
          · rw [zb_nn] at c_60
            have he : zePa σ.1.1 σ.1.2 s k p = 0 := ((zes_n c_5).trans ((zes_f c18).trans ((zes_f c38).trans ((zes_n c_46).trans (zes_n c_60)))))
            obtain ⟨j, hj, rfl⟩ := zsd_of (by omega) c_5
            obtain ⟨m, rfl, hm⟩ := zpk hn c18 c38
            rw [nI_clamp (show j < 2 ^ 31 by omega), nI_clamp (show m < 2 ^ 31 by omega)]
            refine WG.aload_n (pc' := 64) dX6_parcel_63 rfl rfl ?_
            refine WG.aload_n (pc' := 65) dX6_parcel_64 rfl rfl ?_
            refine WG.iload_n (pc' := 66) dX6_parcel_65 rfl rfl ?_
            refine WG.iload_n (pc' := 67) dX6_parcel_66 rfl rfl ?_
            refine WG.callVd (c_X6_parcelOf hX1.1 hL hj (Or.inl hm)) m_X6_285 b_X6_parcelOf rfl rfl rfl (zrk_of rfl) rfl (Nat.le_of_ble_eq_true rfl) dX6_parcel_67 (pc' := 70) rfl ?_
            refine WG.iload_n (pc' := 71) dX6_parcel_70 rfl rfl ?_
            refine WG.callVd (c_X6_areaOf hL hwb c_60 (zbd_of (zpa_b hn (zPB_x hV) hj m (Or.inl hm)) (by omega))) m_X6_223 b_X6_areaOf rfl rfl rfl (zrk_of rfl) rfl (Nat.le_of_ble_eq_true rfl) dX6_parcel_71 (pc' := 74) rfl ?_
            refine WG.goto (tgt := 83) dX6_parcel_74 (by decide) ?_
            refine WG.lreturn dX6_parcel_83 rfl ?_
            first
              | exact zokl hX1 hF1 he rfl
              | exact zrMl hX1 hF1 (by decide) ((zes_n c_5).trans ((zes_f c18).trans ((zes_f c38).trans ((zes_n c_46).trans (zes_t c_60)))))
        · rw [zb_eq] at c_46
          refine WG.aload_n (pc' := 50) dX6_parcel_49 rfl rfl ?_
          refine WG.bipush (v := -2) (pc' := 52) dX6_parcel_50 rfl rfl ?_
          refine WG.callVd (c_X6_far 2 (by decide)) m_X6_177 b_X6_far rfl rfl rfl (zrk_of rfl) rfl (Nat.le_of_ble_eq_true rfl) dX6_parcel_52 (pc' := 55) rfl ?_
          refine WG.lreturn dX6_parcel_55 rfl ?_
          exact zrMl hX zFr.rf (by decide) ((zes_n c_5).trans ((zes_f c18).trans ((zes_f c38).trans (zes_t c_46))))
      · have c38 : nI σ.1.1 - 2 < k := by grind
        refine WG.aload_n (pc' := 36) dX6_parcel_35 rfl rfl ?_
        refine WG.bipush (v := -6) (pc' := 38) dX6_parcel_36 rfl rfl ?_
        refine WG.callVd (c_X6_far 6 (by decide)) m_X6_177 b_X6_far rfl rfl rfl (zrk_of rfl) rfl (Nat.le_of_ble_eq_true rfl) dX6_parcel_38 (pc' := 41) rfl ?_
        refine WG.lreturn dX6_parcel_41 rfl ?_
        exact zrMl hX zFr.rf (by decide) ((zes_n c_5).trans ((zes_f (by grind)).trans (zes_t c38)))
    · refine WG.aload_n (pc' := 19) dX6_parcel_18 rfl rfl ?_
      refine WG.bipush (v := -4) (pc' := 21) dX6_parcel_19 rfl rfl ?_
      refine WG.callVd (c_X6_far 4 (by decide)) m_X6_177 b_X6_far rfl rfl rfl (zrk_of rfl) rfl (Nat.le_of_ble_eq_true rfl) dX6_parcel_21 (pc' := 24) rfl ?_
      refine WG.lreturn dX6_parcel_24 rfl ?_
      exact zrMl hX zFr.rf (by decide) ((zes_n c_5).trans (zes_t (by grind)))
  · rw [zb_eq] at c_5
    refine WG.aload_n (pc' := 9) dX6_parcel_8 rfl rfl ?_
    refine WG.iconst (v := -1) (pc' := 10) dX6_parcel_9 rfl rfl ?_
    refine WG.callVd (c_X6_far 1 (by decide)) m_X6_177 b_X6_far rfl rfl rfl (zrk_of rfl) rfl (Nat.le_of_ble_eq_true rfl) dX6_parcel_10 (pc' := 13) rfl ?_
    refine WG.lreturn dX6_parcel_13 rfl ?_
    exact zrMl hX zFr.rf (by decide) (zes_t c_5)
noncomputable def zcn (σ : zA) (w : Int32) : Int32 := if w = 0 then nI σ.1.1 else if w = 1 then zsum (zw σ.1.2) σ.1.1 else if w = 2 then nI σ.2.2.2.1.1 else if w = 3 then nI σ.2.2.2.2.1.1 else if w = 4 then nI σ.2.1.1 else if 11 ≤ w ∧ w ≤ 16 then σ.2.2.2.2.2.2 (w - 10).toNatClampNeg else -9
theorem z116 {w : Int32} (h1 : 11 ≤ w) (h2 : w ≤ 16) : ∃ i, 0 < i ∧ i < 7 ∧ w - 10 = nI i := by
  have e : nI 17 = 17 := rfl
  obtain ⟨j, hj, rfl⟩ := zsd_of (m := 17) (by decide) (show zsd 17 w from ⟨by grind, by rw [e]; grind⟩)
  have h3 : 11 ≤ j := (nI_leI (a := 11) (b := j) (by omega) (by omega)).mp h1
  exact ⟨j - 10, by omega, by omega, pk_sub (b := 10) (by omega)⟩
theorem zcn_r {σ : zA} {w : Int32} {i : Nat} (h1 : 11 ≤ w) (h2 : w ≤ 16) (hi : i < 7) (e : w - 10 = nI i) : zcn σ w = σ.2.2.2.2.2.2 i := by
  unfold zcn
  rw [if_neg (by grind), if_neg (by grind), if_neg (by grind), if_neg (by grind), if_neg (by grind), if_pos ⟨h1, h2⟩, e, nI_clamp (by omega)]
theorem zcn_9 {σ : zA} {w : Int32} (h0 : w ≠ 0) (h1 : w ≠ 1) (h2 : w ≠ 2) (h3 : w ≠ 3) (h4 : w ≠ 4) (h : ¬ (11 ≤ w ∧ w ≤ 16)) : zcn σ w = -9 := by
  unfold zcn
  rw [if_neg h0, if_neg h1, if_neg h2, if_neg h3, if_neg h4, if_neg h]
set_option maxHeartbeats 4000000 in
set_option maxRecDepth 100000 in
theorem x_count {σ : zA} {h : zH} (hX : RX σ h) (w : Int32) : K_X5_count [.ref 0, .int w] h (zPi RX zB1 h σ 0 (zcn σ w) σ) := by
  have hS := hX.1
  obtain ⟨nx, hP⟩ := hX.2.1
  refine CT.of rfl rfl (Nat.le_of_ble_eq_true rfl) rfl ?_
  refine WG.iload_n (pc' := 1) dX5_count_0 rfl rfl ?_
  by_cases e_1_0 : w = 0
  · refine WG.tableE (v := 0) (tgt := 36) e_1_0 dX5_count_1 (by decide) (by decide) rfl (by decide) ?_
    subst e_1_0
    refine WG.aload_n (pc' := 37) dX5_count_36 rfl rfl ?_
    refine WG.getR (r := 1) f_X5_10 (pc' := 40) dX5_count_37 rfl rfl rfl rfl ?_
    refine WG.getI f_X5_90 (pc' := 43) dX5_count_40 rfl rfl rfl ?_
    refine WG.ireturn dX5_count_43 rfl (by first | rfl | decide) ?_
    exact zok hX zFr.rf rfl hS.2.2.1
  by_cases e_1_1 : w = 1
  · refine WG.tableE (v := 1) (tgt := 44) e_1_1 dX5_count_1 (by decide) (by decide) rfl (by decide) ?_
    subst e_1_1
    refine WG.aload_n (pc' := 45) dX5_count_44 rfl rfl ?_
    refine WG.getR (r := 1) f_X5_10 (pc' := 48) dX5_count_45 rfl rfl rfl rfl ?_
    refine WG.callVd (c_X4_weightOfAll hS) m_X5_288 b_X4_weightOfAll rfl rfl rfl (zrk_of rfl) rfl (Nat.le_of_ble_eq_true rfl) dX5_count_48 (pc' := 51) rfl ?_
    refine WG.ireturn dX5_count_51 rfl (by first | rfl | decide) ?_
    exact zok hX zFr.rf rfl rfl
  by_cases e_1_2 : w = 2
  · refine WG.tableE (v := 2) (tgt := 52) e_1_2 dX5_count_1 (by decide) (by decide) rfl (by decide) ?_
    subst e_1_2
    refine WG.aload_n (pc' := 53) dX5_count_52 rfl rfl ?_
    refine WG.getI f_X5_51 (pc' := 56) dX5_count_53 rfl rfl rfl ?_
    refine WG.ireturn dX5_count_56 rfl (by first | rfl | decide) ?_
    exact zok hX zFr.rf rfl hX.2.2.2.1.2.1
  by_cases e_1_3 : w = 3
  · refine WG.tableE (v := 3) (tgt := 57) e_1_3 dX5_count_1 (by decide) (by decide) rfl (by decide) ?_
    subst e_1_3
    refine WG.aload_n (pc' := 58) dX5_count_57 rfl rfl ?_
    refine WG.getI f_X5_58 (pc' := 61) dX5_count_58 rfl rfl rfl ?_
    refine WG.ireturn dX5_count_61 rfl (by first | rfl | decide) ?_
    exact zok hX zFr.rf rfl hX.2.2.2.2.1.2.1
  by_cases e_1_4 : w = 4
  · refine WG.tableE (v := 4) (tgt := 62) e_1_4 dX5_count_1 (by decide) (by decide) rfl (by decide) ?_
    subst e_1_4
    refine WG.aload_n (pc' := 63) dX5_count_62 rfl rfl ?_
    refine WG.getR (r := 19) f_X5_29 (pc' := 66) dX5_count_63 rfl rfl rfl rfl ?_
    refine WG.getI f_X5_283 (pc' := 69) dX5_count_66 rfl rfl rfl ?_
    refine WG.ireturn dX5_count_69 rfl (by first | rfl | decide) ?_
    exact zok hX zFr.rf rfl hP.2.2.2.1
  refine WG.tableOut (tgt := 70) dX5_count_1 (zsw 0 5 (fun j hj => match j, hj with | 0, _ => e_1_0 | 1, _ => e_1_1 | 2, _ => e_1_2 | 3, _ => e_1_3 | 4, _ => e_1_4 | a + 5, h9 => absurd h9 (by omega))) (by decide) ?_
  refine WG.iload_n (pc' := 71) dX5_count_70 rfl rfl ?_
  refine WG.bipush (v := 11) (pc' := 73) dX5_count_71 rfl rfl ?_
  refine WG.icmp_lt (tgt := 94) (pc' := 76) dX5_count_73 rfl (by decide) (fun c_73 => ?_) (fun c_73 => ?_)
  · refine WG.bipush (v := -9) (pc' := 96) dX5_count_94 rfl rfl ?_
    refine WG.ireturn dX5_count_96 rfl (by first | rfl | decide) ?_
    first
      | exact zok hX zFr.rf rfl (by rw [ez]; exact hX.2.2.2.2.2.2 i hi7 hi0)
      | exact zok hX zFr.rf rfl (zcn_9 e_1_0 e_1_1 e_1_2 e_1_3 e_1_4 (by grind)).symm
  · refine WG.iload_n (pc' := 77) dX5_count_76 rfl rfl ?_
    refine WG.bipush (v := 16) (pc' := 79) dX5_count_77 rfl rfl ?_
    refine WG.icmp_gt (tgt := 94) (pc' := 82) dX5_count_79 rfl (by decide) (fun c_79 => ?_) (fun c_79 => ?_)
    · refine WG.bipush (v := -9) (pc' := 96) dX5_count_94 rfl rfl ?_
      refine WG.ireturn dX5_count_96 rfl (by first | rfl | decide) ?_
      first
        | exact zok hX zFr.rf rfl (by rw [ez]; exact hX.2.2.2.2.2.2 i hi7 hi0)
        | exact zok hX zFr.rf rfl (zcn_9 e_1_0 e_1_1 e_1_2 e_1_3 e_1_4 (by grind)).symm
    · obtain ⟨i, hi0, hi7, ei⟩ := z116 (w := w) (by grind) (by grind)
      have ez := zcn_r (σ := σ) (w := w) (by grind) (by grind) hi7 ei
      refine WG.aload_n (pc' := 83) dX5_count_82 rfl rfl ?_
      refine WG.getR (r := 85) f_X5_67 (pc' := 86) dX5_count_83 rfl rfl rfl rfl ?_
      refine WG.iload_n (pc' := 87) dX5_count_86 rfl rfl ?_
      refine WG.bipush (v := 10) (pc' := 89) dX5_count_87 rfl rfl ?_
      refine WG.isub (pc' := 90) dX5_count_89 rfl ?_
      refine WG.ialoadN (j := i) (pc' := 91) dX5_count_90 rfl rfl ei (by omega) (by first | decide | omega) ?_
      refine WG.goto (tgt := 96) dX5_count_91 (by decide) ?_
      refine WG.ireturn dX5_count_96 rfl (by first | rfl | decide) ?_
      first
        | exact zok hX zFr.rf rfl (by rw [ez]; exact hX.2.2.2.2.2.2 i hi7 hi0)
        | exact zok hX zFr.rf rfl (zcn_9 e_1_0 e_1_1 e_1_2 e_1_3 e_1_4 (by grind)).symm
set_option maxHeartbeats 4000000 in
set_option maxRecDepth 100000 in
theorem m_count {σ : zA} {h : zH} (hX : RM σ h) (w : Int32) : K_X6_count [.ref 86, .int w] h (zPi RM zB2 h σ 0 (zcn σ w) σ) := by
  have hS := hX.1
  refine CT.of rfl rfl (Nat.le_of_ble_eq_true rfl) rfl ?_
  have l11 : (11 : Int64) = (11 : Int32).toInt64 := by decide
  have l16 : (16 : Int64) = (16 : Int32).toInt64 := by decide
  refine WG.iload_n (pc' := 1) dX6_count_0 rfl rfl ?_
  refine WG.i2l (pc' := 2) dX6_count_1 rfl ?_
  refine WG.ldc2 (pc' := 5) dX6_count_2 rfl k_X6_322 ?_
  refine WG.ldc2 (pc' := 8) dX6_count_5 rfl k_X6_324 ?_
  refine WG.callSd (c_X6_in _ _ _ _) m_X6_67 b_X6_in rfl (zrk_of rfl) rfl (Nat.le_of_ble_eq_true rfl) dX6_count_8 (pc' := 11) rfl ?_
  refine WG.if_eq (tgt := 24) (pc' := 14) dX6_count_11 rfl (by decide) (fun c_11 => ?_) (fun c_11 => ?_)
  · rw [zb_eq, l11, l16, Int32.toInt64_le, Int32.toInt64_le] at c_11
    refine WG.iload_n (pc' := 25) dX6_count_24 rfl rfl ?_
    by_cases e_25_0 : w = 0
    · refine WG.tableE (v := 0) (tgt := 60) e_25_0 dX6_count_25 (by decide) (by decide) rfl (by decide) ?_
      subst e_25_0
      refine WG.aload_n (pc' := 61) dX6_count_60 rfl rfl ?_
      refine WG.callVd (c_X6_many hS) m_X6_63 b_X6_many rfl rfl rfl (zrk_of rfl) rfl (Nat.le_of_ble_eq_true rfl) dX6_count_61 (pc' := 64) rfl ?_
      refine WG.ireturn dX6_count_64 rfl (by first | rfl | decide) ?_
      exact zok hX zFr.rf rfl rfl
    by_cases e_25_1 : w = 1
    · refine WG.tableE (v := 1) (tgt := 65) e_25_1 dX6_count_25 (by decide) (by decide) rfl (by decide) ?_
      subst e_25_1
      refine WG.aload_n (pc' := 66) dX6_count_65 rfl rfl ?_
      refine WG.callVd (c_X6_allWeights hS) m_X6_190 b_X6_allWeights rfl rfl rfl (zrk_of rfl) rfl (Nat.le_of_ble_eq_true rfl) dX6_count_66 (pc' := 69) rfl ?_
      refine WG.ireturn dX6_count_69 rfl (by first | rfl | decide) ?_
      exact zok hX zFr.rf rfl rfl
    by_cases e_25_2 : w = 2
    · refine WG.tableE (v := 2) (tgt := 70) e_25_2 dX6_count_25 (by decide) (by decide) rfl (by decide) ?_
      subst e_25_2
      refine WG.aload_n (pc' := 71) dX6_count_70 rfl rfl ?_
      refine WG.getI f_X6_140 (pc' := 74) dX6_count_71 rfl rfl rfl ?_
      refine WG.ireturn dX6_count_74 rfl (by first | rfl | decide) ?_
      exact zok hX zFr.rf rfl hX.2.2.2.1.2.1
    by_cases e_25_3 : w = 3
    · refine WG.tableE (v := 3) (tgt := 75) e_25_3 dX6_count_25 (by decide) (by decide) rfl (by decide) ?_
      subst e_25_3
      refine WG.aload_n (pc' := 76) dX6_count_75 rfl rfl ?_
      refine WG.getI f_X6_293 (pc' := 79) dX6_count_76 rfl rfl rfl ?_
      refine WG.ireturn dX6_count_79 rfl (by first | rfl | decide) ?_
      exact zok hX zFr.rf rfl hX.2.2.2.2.1.2.1
    by_cases e_25_4 : w = 4
    · refine WG.tableE (v := 4) (tgt := 80) e_25_4 dX6_count_25 (by decide) (by decide) rfl (by decide) ?_
      subst e_25_4
      refine WG.aload_n (pc' := 81) dX6_count_80 rfl rfl ?_
      refine WG.getI f_X6_103 (pc' := 84) dX6_count_81 rfl rfl rfl ?_
      refine WG.ireturn dX6_count_84 rfl (by first | rfl | decide) ?_
      exact zok hX zFr.rf rfl hX.2.1.2.1
    refine WG.tableOut (tgt := 85) dX6_count_25 (zsw 0 5 (fun j hj => match j, hj with | 0, _ => e_25_0 | 1, _ => e_25_1 | 2, _ => e_25_2 | 3, _ => e_25_3 | 4, _ => e_25_4 | a + 5, h9 => absurd h9 (by omega))) (by decide) ?_
    refine WG.bipush (v := -9) (pc' := 87) dX6_count_85 rfl rfl ?_
    refine WG.ireturn dX6_count_87 rfl (by first | rfl | decide) ?_
    exact zok hX zFr.rf rfl (zcn_9 e_25_0 e_25_1 e_25_2 e_25_3 e_25_4 c_11).symm
  · rw [zb_nn, l11, l16, Int32.toInt64_le, Int32.toInt64_le] at c_11
    obtain ⟨i, hi0, hi7, ei⟩ := z116 (w := w) c_11.1 c_11.2
    have ez := zcn_r (σ := σ) (w := w) c_11.1 c_11.2 hi7 ei
    refine WG.aload_n (pc' := 15) dX6_count_14 rfl rfl ?_
    refine WG.getR (r := 87) f_X6_7 (pc' := 18) dX6_count_15 rfl rfl rfl rfl ?_
    refine WG.iload_n (pc' := 19) dX6_count_18 rfl rfl ?_
    refine WG.bipush (v := 10) (pc' := 21) dX6_count_19 rfl rfl ?_
    refine WG.isub (pc' := 22) dX6_count_21 rfl ?_
    refine WG.ialoadN (j := i) (pc' := 23) dX6_count_22 rfl rfl ei (by omega) (by first | decide | omega) ?_
    refine WG.ireturn dX6_count_23 rfl (by first | rfl | decide) ?_
    exact zok hX zFr.rf rfl (by rw [ez]; exact hX.2.2.2.2.2.2 i hi7 hi0)
