/-! copy -/
theorem zha_of {m : Nat} {i n : Int32} (hm : m ≤ 20) (h : zha m i n) : ∃ i' n', i = nI i' ∧ n = nI n' ∧ i' + n' ≤ m := by
  obtain ⟨h1, h2, h3, h4⟩ := h
  obtain ⟨n', hn1, rfl⟩ := nI_of h2
  have hn : n' ≤ m := by have := mt (nI_ltI (a := m) (b := n') (by omega) hn1).mpr h3; omega
  obtain ⟨i', hi1, rfl⟩ := nI_of h1
  rw [show nI m - nI n' = nI (m - n') from pk_sub hn] at h4
  have := mt (nI_ltI (a := m - n') (b := i') (by omega) hi1).mpr h4
  exact ⟨i', n', rfl, rfl, by omega⟩
noncomputable def zeC (l k : Int32) : Int32 := zes [(¬ (zsd 3 l ∧ zsd 3 k), -1)]
noncomputable def zvC (y z : zls) (i j n : Int32) : Int32 := match y, z with
  | some (s, m, _), some (s', m', _) => @ite Int32 (s = s') (Classical.propDecidable _) (@ite Int32 (zha m i n ∧ zha m' j n) (Classical.propDecidable _) n (-13)) (-12)
  | _, _ => -11
noncomputable def zuC (y z : zls) (i j n : Int32) : zls := match y, z with
  | some (s, m, g), some (s', m', g') => @ite zls (s = s' ∧ zha m i n ∧ zha m' j n) (Classical.propDecidable _) (some (s', m', va_cpy g g' i.toNatClampNeg j.toNatClampNeg n.toNatClampNeg)) (some (s', m', g'))
  | _, z => z
theorem RX.cp {σ : zA} {h : zH} (hX : RX σ h) {a b m m' i j n : Nat} {s s' : Int32} {g g' : Nat → Int64} (hb : b < 3) (hR : RR (79 + 2 * a) (some (s, m, g)) h) (hR' : RR (79 + 2 * b) (some (s', m', g')) h) (h1 : i + n ≤ m) (h2 : j + n ≤ m') : RX (zsL σ b (some (s', m', va_cpy g g' i j n))) (zC h (79 + 2 * b + 1) (va_cpy (h.2 (79 + 2 * a + 1)) (h.2 (79 + 2 * b + 1)) i j n)) ∧ zFr zB1 h (zC h (79 + 2 * b + 1) (va_cpy (h.2 (79 + 2 * a + 1)) (h.2 (79 + 2 * b + 1)) i j n)) := by
  obtain ⟨q1, q2, q3, q4, q5, q6⟩ := hR'
  have hF : zFr (zRg (79 + 2 * b) 2) h (zC h (79 + 2 * b + 1) (va_cpy (h.2 (79 + 2 * a + 1)) (h.2 (79 + 2 * b + 1)) i j n)) := ⟨fun o _ => rfl, fun o ho => (zC_o (fun q => ho ⟨by omega, by omega⟩)).2⟩
  refine ⟨hX.setL hb ⟨q1, q2, q3, q4, q5, fun p hp => ?_⟩ hF, zB_setL hb hF⟩
  rw [zC_s]
  unfold va_cpy
  by_cases c : j ≤ p ∧ p < j + n
  · rw [if_pos c, if_pos c]; exact hR.2.2.2.2.2 _ (by omega)
  · rw [if_neg c, if_neg c]; exact q6 p hp
theorem zuC_no {y z : zls} {i j n : Int32} (hc : ∀ s m g s' m' g', y = some (s, m, g) → z = some (s', m', g') → ¬ (s = s' ∧ zha m i n ∧ zha m' j n)) : zuC y z i j n = z := by
  match y, z with
  | none, none => rfl
  | none, some _ => rfl
  | some _, none => rfl
  | some (s, m, g), some (s', m', g') => exact if_neg (hc s m g s' m' g' rfl rfl)
set_option maxHeartbeats 4000000 in
set_option maxRecDepth 100000 in
theorem x_copyJ {σ : zA} {h : zH} {e : Int32} (hX : RX σ h) (he : e = 0) {a b : Nat} (ha : a < 3) (hb : b < 3) {m m' : Nat} {s s' i j n : Int32} {g g' : Nat → Int64} (hR : RR (79 + 2 * a) (some (s, m, g)) h) (hR' : RR (79 + 2 * b) (some (s', m', g')) h) (hsame : zsL σ b (some (s', m', g')) = σ) : W_X5_copy (zPi RX zB1 h σ e (zvC (some (s, m, g)) (some (s', m', g')) i j n) (zsL σ b (zuC (some (s, m, g)) (some (s', m', g')) i j n))) 36 [some (.ref 0), some (.int (nI a)), some (.int i), some (.int (nI b)), some (.int j), some (.int n), some (.ref (79 + 2 * a)), some (.ref (79 + 2 * b))] [] h := by
  have hr := isR_l ha
  have hr' := isR_l hb
  have hs := hR.2.2.2.2.1
  have hs' := hR'.2.2.2.2.1
  have no : ¬ (s = s' ∧ zha m i n ∧ zha m' j n) → zsL σ b (zuC (some (s, m, g)) (some (s', m', g')) i j n) = σ := fun q => by rw [show zuC (some (s, m, g)) (some (s', m', g')) i j n = some (s', m', g') from if_neg q, hsame]
  refine WG.aload (pc' := 38) dX5_copy_36 rfl rfl ?_
  refine WG.callVd (c_X3_isMissing hR) m_X5_251 b_X3_isMissing (zRo (by assumption)) rfl rfl (zrk_of rfl) rfl (Nat.le_of_ble_eq_true rfl) dX5_copy_38 (pc' := 41) rfl ?_
  refine WG.if_ne (tgt := 52) (pc' := 44) dX5_copy_41 rfl (by decide) (fun c_41 => ?_) (fun c_41 => ?_)
  · exact absurd (zb_ne.mp c_41) (by simp)
  · refine WG.aload (pc' := 46) dX5_copy_44 rfl rfl ?_
    refine WG.callVd (c_X3_isMissing hR') m_X5_251 b_X3_isMissing (zRo (by assumption)) rfl rfl (zrk_of rfl) rfl (Nat.le_of_ble_eq_true rfl) dX5_copy_46 (pc' := 49) rfl ?_
    refine WG.if_eq (tgt := 55) (pc' := 52) dX5_copy_49 rfl (by decide) (fun c_49 => ?_) (fun c_49 => ?_)
    · refine WG.aload (pc' := 57) dX5_copy_55 rfl rfl ?_
      refine WG.getI f_X5_267 (pc' := 60) dX5_copy_57 rfl (zRo (by assumption)) rfl ?_
      refine WG.aload (pc' := 62) dX5_copy_60 rfl rfl ?_
      refine WG.getI f_X5_267 (pc' := 65) dX5_copy_62 rfl (zRo (by assumption)) rfl ?_
      rw [hs, hs']
      refine WG.icmp_eq (tgt := 71) (pc' := 68) dX5_copy_65 rfl (by decide) (fun c_65 => ?_) (fun c_65 => ?_)
      · refine WG.aload (pc' := 73) dX5_copy_71 rfl rfl ?_
        refine WG.iload_n (pc' := 74) dX5_copy_73 rfl rfl ?_
        refine WG.iload (pc' := 76) dX5_copy_74 rfl rfl ?_
        refine WG.callVd (c_X3_hasAll hR) m_X5_270 b_X3_hasAll (zRo (by assumption)) rfl rfl (zrk_of rfl) rfl (Nat.le_of_ble_eq_true rfl) dX5_copy_76 (pc' := 79) rfl ?_
        refine WG.if_eq (tgt := 94) (pc' := 82) dX5_copy_79 rfl (by decide) (fun c_79 => ?_) (fun c_79 => ?_)
        · rw [zb_eq] at c_79
          refine WG.bipush (v := -13) (pc' := 96) dX5_copy_94 rfl rfl ?_
          refine WG.ireturn dX5_copy_96 rfl (by first | rfl | decide) ?_
          first
            | exact zok (by rw [no (fun q => c_91 q.2.2)]; exact hX) zFr.rf he ((if_pos c_65).trans (if_neg (fun q => c_91 q.2))).symm
            | exact zok (by rw [no (fun q => c_79 q.2.1)]; exact hX) zFr.rf he ((if_pos c_65).trans (if_neg (fun q => c_79 q.1))).symm
        · rw [zb_nn] at c_79
          refine WG.aload (pc' := 84) dX5_copy_82 rfl rfl ?_
          refine WG.iload (pc' := 86) dX5_copy_84 rfl rfl ?_
          refine WG.iload (pc' := 88) dX5_copy_86 rfl rfl ?_
          refine WG.callVd (c_X3_hasAll hR') m_X5_270 b_X3_hasAll (zRo (by assumption)) rfl rfl (zrk_of rfl) rfl (Nat.le_of_ble_eq_true rfl) dX5_copy_88 (pc' := 91) rfl ?_
          refine WG.if_ne (tgt := 97) (pc' := 94) dX5_copy_91 rfl (by decide) (fun c_91 => ?_) (fun c_91 => ?_)
          · rw [zb_ne] at c_91
            have cc : s = s' ∧ zha m i n ∧ zha m' j n := ⟨c_65, c_79, c_91⟩
            have ev : zvC (some (s, m, g)) (some (s', m', g')) i j n = n := (if_pos c_65).trans (if_pos ⟨c_79, c_91⟩)
            have eu : zuC (some (s, m, g)) (some (s', m', g')) i j n = some (s', m', va_cpy g g' i.toNatClampNeg j.toNatClampNeg n.toNatClampNeg) := if_pos cc
            obtain ⟨i', n', rfl, rfl, l1⟩ := zha_of hR.2.1 c_79
            obtain ⟨j', n2, rfl, en, l2⟩ := zha_of hR'.2.1 c_91
            have hm := hR.2.1
            have hm' := hR'.2.1
            obtain rfl : n' = n2 := (nI_eq (by omega) (by omega)).mp en
            rw [nI_clamp (show i' < 2 ^ 31 by omega), nI_clamp (show j' < 2 ^ 31 by omega), nI_clamp (show n' < 2 ^ 31 by omega)] at eu
            have fin := hX.cp hb hR hR' l1 l2
            refine WG.aload (pc' := 99) dX5_copy_97 rfl rfl ?_
            refine WG.getR f_X5_264 (pc' := 102) dX5_copy_99 rfl (zRo (by assumption)) rfl (zRr (by assumption)) ?_
            refine WG.iload_n (pc' := 103) dX5_copy_102 rfl rfl ?_
            refine WG.aload (pc' := 105) dX5_copy_103 rfl rfl ?_
            refine WG.getR f_X5_264 (pc' := 108) dX5_copy_105 rfl (zRo (by assumption)) rfl (zRr (by assumption)) ?_
            refine WG.iload (pc' := 110) dX5_copy_108 rfl rfl ?_
            refine WG.iload (pc' := 112) dX5_copy_110 rfl rfl ?_
            refine WG.copyl dX5_copy_112 rfl (zRa hr) (zRa hr') (show i' + n' ≤ 20 by omega) (show j' + n' ≤ 20 by omega) (by decide) (by decide) (Nat.le_of_ble_eq_true rfl) (Nat.le_of_ble_eq_true rfl) ?_
            refine WG.iload (pc' := 117) dX5_copy_115 rfl rfl ?_
            refine WG.ireturn dX5_copy_117 rfl (by first | rfl | decide) ?_
            exact zok (by rw [eu]; exact fin.1) fin.2 he ev.symm
          · rw [zb_eq] at c_91
            refine WG.bipush (v := -13) (pc' := 96) dX5_copy_94 rfl rfl ?_
            refine WG.ireturn dX5_copy_96 rfl (by first | rfl | decide) ?_
            first
              | exact zok (by rw [no (fun q => c_91 q.2.2)]; exact hX) zFr.rf he ((if_pos c_65).trans (if_neg (fun q => c_91 q.2))).symm
              | exact zok (by rw [no (fun q => c_79 q.2.1)]; exact hX) zFr.rf he ((if_pos c_65).trans (if_neg (fun q => c_79 q.1))).symm
      · refine WG.bipush (v := -12) (pc' := 70) dX5_copy_68 rfl rfl ?_
        refine WG.ireturn dX5_copy_70 rfl (by first | rfl | decide) ?_
        exact zok (by rw [no (fun q => c_65 q.1)]; exact hX) zFr.rf he (if_neg c_65).symm
    · exact absurd (zb_nn.mp c_49) (by simp)
set_option maxHeartbeats 4000000 in
set_option maxRecDepth 100000 in
theorem x_copy {σ : zA} {h : zH} (hX : RX σ h) (l i k j n : Int32) : K_X5_copy [.ref 0, .int l, .int i, .int k, .int j, .int n] h (zPi RX zB1 h σ (zeC l k) (zvC (σ.2.2.2.2.2.1 l.toNatClampNeg) (σ.2.2.2.2.2.1 k.toNatClampNeg) i j n) (zsL σ k.toNatClampNeg (zuC (σ.2.2.2.2.2.1 l.toNatClampNeg) (σ.2.2.2.2.2.1 k.toNatClampNeg) i j n))) := by
  refine CT.of rfl rfl (Nat.le_of_ble_eq_true rfl) rfl ?_
  by_cases hl : zsd 3 l ∧ zsd 3 k
  · have he : zeC l k = 0 := zes_n hl
    obtain ⟨hl1, hl2⟩ := hl
    obtain ⟨a, ha, rfl⟩ := zsd_of (by decide) hl1
    obtain ⟨b, hb, rfl⟩ := zsd_of (by decide) hl2
    rw [nI_clamp (show a < 2 ^ 31 by omega), nI_clamp (show b < 2 ^ 31 by omega)]
    have hR := hX.2.2.2.2.2.1 a ha
    have hR' := hX.2.2.2.2.2.1 b hb
    have hr := isR_l ha
    have hr' := isR_l hb
    have hsame := zsL_same σ b
    generalize hz : σ.2.2.2.2.2.1 a = y at hR ⊢
    generalize hz' : σ.2.2.2.2.2.1 b = z at hR' hsame ⊢
    match y, z, hR, hR', hsame with
    | none, z, hR, hR', hsame =>
      have eu : zuC none z i j n = z := by cases z <;> rfl
      have ev : zvC none z i j n = -11 := by cases z <;> rfl
      refine WG.iload_n (pc' := 1) dX5_copy_0 rfl rfl ?_
      refine WG.callSd (c_X5_isList h _) m_X5_245 b_X5_isList rfl (zrk_of rfl) rfl (Nat.le_of_ble_eq_true rfl) dX5_copy_1 (pc' := 4) rfl ?_
      refine WG.if_eq (tgt := 14) (pc' := 7) dX5_copy_4 rfl (by decide) (fun c_4 => ?_) (fun c_4 => ?_)
      · exact absurd hl1 (zb_eq.mp c_4)
      · refine WG.iload_n (pc' := 8) dX5_copy_7 rfl rfl ?_
        refine WG.callSd (c_X5_isList h _) m_X5_245 b_X5_isList rfl (zrk_of rfl) rfl (Nat.le_of_ble_eq_true rfl) dX5_copy_8 (pc' := 11) rfl ?_
        refine WG.if_ne (tgt := 20) (pc' := 14) dX5_copy_11 rfl (by decide) (fun c_11 => ?_) (fun c_11 => ?_)
        · refine WG.aload_n (pc' := 21) dX5_copy_20 rfl rfl ?_
          refine WG.getR (r := 78) f_X5_63 (pc' := 24) dX5_copy_21 rfl rfl rfl rfl ?_
          refine WG.iload_n (pc' := 25) dX5_copy_24 rfl rfl ?_
          refine WG.aaloadN (j := a) (r := 79 + 2 * (a)) (pc' := 26) dX5_copy_25 rfl (t := 1) (Or.inr rfl) rfl rfl (by omega) (by decide) rfl ?_
          refine WG.astore (L' := [_, _, _, _, _, _, _, _]) (pc' := 28) dX5_copy_26 rfl (by decide) rfl ?_
          refine WG.aload_n (pc' := 29) dX5_copy_28 rfl rfl ?_
          refine WG.getR (r := 78) f_X5_63 (pc' := 32) dX5_copy_29 rfl rfl rfl rfl ?_
          refine WG.iload_n (pc' := 33) dX5_copy_32 rfl rfl ?_
          refine WG.aaloadN (j := b) (r := 79 + 2 * (b)) (pc' := 34) dX5_copy_33 rfl (t := 1) (Or.inr rfl) rfl rfl (by omega) (by decide) rfl ?_
          refine WG.astore (L' := [_, _, _, _, _, _, _, _]) (pc' := 36) dX5_copy_34 rfl (by decide) rfl ?_
          refine WG.aload (pc' := 38) dX5_copy_36 rfl rfl ?_
          refine WG.callVd (c_X3_isMissing hR) m_X5_251 b_X3_isMissing (zRo (by assumption)) rfl rfl (zrk_of rfl) rfl (Nat.le_of_ble_eq_true rfl) dX5_copy_38 (pc' := 41) rfl ?_
          refine WG.if_ne (tgt := 52) (pc' := 44) dX5_copy_41 rfl (by decide) (fun c_41 => ?_) (fun c_41 => ?_)
          · refine WG.bipush (v := -11) (pc' := 54) dX5_copy_52 rfl rfl ?_
            refine WG.ireturn dX5_copy_54 rfl (by first | rfl | decide) ?_
            exact zok (by rw [eu, hsame]; exact hX) zFr.rf he ev.symm
          · exact absurd rfl (zb_eq.mp c_41)
        · exact absurd hl2 (zb_eq.mp c_11)
    | some y, none, hR, hR', hsame =>
      refine WG.iload_n (pc' := 1) dX5_copy_0 rfl rfl ?_
      refine WG.callSd (c_X5_isList h _) m_X5_245 b_X5_isList rfl (zrk_of rfl) rfl (Nat.le_of_ble_eq_true rfl) dX5_copy_1 (pc' := 4) rfl ?_
      refine WG.if_eq (tgt := 14) (pc' := 7) dX5_copy_4 rfl (by decide) (fun c_4 => ?_) (fun c_4 => ?_)
      · exact absurd hl1 (zb_eq.mp c_4)
      · refine WG.iload_n (pc' := 8) dX5_copy_7 rfl rfl ?_
        refine WG.callSd (c_X5_isList h _) m_X5_245 b_X5_isList rfl (zrk_of rfl) rfl (Nat.le_of_ble_eq_true rfl) dX5_copy_8 (pc' := 11) rfl ?_
        refine WG.if_ne (tgt := 20) (pc' := 14) dX5_copy_11 rfl (by decide) (fun c_11 => ?_) (fun c_11 => ?_)
        · refine WG.aload_n (pc' := 21) dX5_copy_20 rfl rfl ?_
          refine WG.getR (r := 78) f_X5_63 (pc' := 24) dX5_copy_21 rfl rfl rfl rfl ?_
          refine WG.iload_n (pc' := 25) dX5_copy_24 rfl rfl ?_
          refine WG.aaloadN (j := a) (r := 79 + 2 * (a)) (pc' := 26) dX5_copy_25 rfl (t := 1) (Or.inr rfl) rfl rfl (by omega) (by decide) rfl ?_
          refine WG.astore (L' := [_, _, _, _, _, _, _, _]) (pc' := 28) dX5_copy_26 rfl (by decide) rfl ?_
          refine WG.aload_n (pc' := 29) dX5_copy_28 rfl rfl ?_
          refine WG.getR (r := 78) f_X5_63 (pc' := 32) dX5_copy_29 rfl rfl rfl rfl ?_
          refine WG.iload_n (pc' := 33) dX5_copy_32 rfl rfl ?_
          refine WG.aaloadN (j := b) (r := 79 + 2 * (b)) (pc' := 34) dX5_copy_33 rfl (t := 1) (Or.inr rfl) rfl rfl (by omega) (by decide) rfl ?_
          refine WG.astore (L' := [_, _, _, _, _, _, _, _]) (pc' := 36) dX5_copy_34 rfl (by decide) rfl ?_
          refine WG.aload (pc' := 38) dX5_copy_36 rfl rfl ?_
          refine WG.callVd (c_X3_isMissing hR) m_X5_251 b_X3_isMissing (zRo (by assumption)) rfl rfl (zrk_of rfl) rfl (Nat.le_of_ble_eq_true rfl) dX5_copy_38 (pc' := 41) rfl ?_
          refine WG.if_ne (tgt := 52) (pc' := 44) dX5_copy_41 rfl (by decide) (fun c_41 => ?_) (fun c_41 => ?_)
          · exact absurd (zb_ne.mp c_41) (by simp)
          · refine WG.aload (pc' := 46) dX5_copy_44 rfl rfl ?_
            refine WG.callVd (c_X3_isMissing hR') m_X5_251 b_X3_isMissing (zRo (by assumption)) rfl rfl (zrk_of rfl) rfl (Nat.le_of_ble_eq_true rfl) dX5_copy_46 (pc' := 49) rfl ?_
            refine WG.if_eq (tgt := 55) (pc' := 52) dX5_copy_49 rfl (by decide) (fun c_49 => ?_) (fun c_49 => ?_)
            · exact absurd rfl (zb_eq.mp c_49)
            · refine WG.bipush (v := -11) (pc' := 54) dX5_copy_52 rfl rfl ?_
              refine WG.ireturn dX5_copy_54 rfl (by first | rfl | decide) ?_
              exact zok (by show RX (zsL σ b none) h; rw [hsame]; exact hX) zFr.rf he rfl
        · exact absurd hl2 (zb_eq.mp c_11)
    | some (s, m, g), some (s', m', g'), hR, hR', hsame =>
      refine WG.iload_n (pc' := 1) dX5_copy_0 rfl rfl ?_
      refine WG.callSd (c_X5_isList h _) m_X5_245 b_X5_isList rfl (zrk_of rfl) rfl (Nat.le_of_ble_eq_true rfl) dX5_copy_1 (pc' := 4) rfl ?_
      refine WG.if_eq (tgt := 14) (pc' := 7) dX5_copy_4 rfl (by decide) (fun c_4 => ?_) (fun c_4 => ?_)
      · exact absurd hl1 (zb_eq.mp c_4)
      · refine WG.iload_n (pc' := 8) dX5_copy_7 rfl rfl ?_
        refine WG.callSd (c_X5_isList h _) m_X5_245 b_X5_isList rfl (zrk_of rfl) rfl (Nat.le_of_ble_eq_true rfl) dX5_copy_8 (pc' := 11) rfl ?_
        refine WG.if_ne (tgt := 20) (pc' := 14) dX5_copy_11 rfl (by decide) (fun c_11 => ?_) (fun c_11 => ?_)
        · refine WG.aload_n (pc' := 21) dX5_copy_20 rfl rfl ?_
          refine WG.getR (r := 78) f_X5_63 (pc' := 24) dX5_copy_21 rfl rfl rfl rfl ?_
          refine WG.iload_n (pc' := 25) dX5_copy_24 rfl rfl ?_
          refine WG.aaloadN (j := a) (r := 79 + 2 * (a)) (pc' := 26) dX5_copy_25 rfl (t := 1) (Or.inr rfl) rfl rfl (by omega) (by decide) rfl ?_
          refine WG.astore (L' := [_, _, _, _, _, _, _, _]) (pc' := 28) dX5_copy_26 rfl (by decide) rfl ?_
          refine WG.aload_n (pc' := 29) dX5_copy_28 rfl rfl ?_
          refine WG.getR (r := 78) f_X5_63 (pc' := 32) dX5_copy_29 rfl rfl rfl rfl ?_
          refine WG.iload_n (pc' := 33) dX5_copy_32 rfl rfl ?_
          refine WG.aaloadN (j := b) (r := 79 + 2 * (b)) (pc' := 34) dX5_copy_33 rfl (t := 1) (Or.inr rfl) rfl rfl (by omega) (by decide) rfl ?_
          refine WG.astore (L' := [_, _, _, _, _, _, _, _]) (pc' := 36) dX5_copy_34 rfl (by decide) rfl ?_
          exact x_copyJ hX he ha hb hR hR' hsame
        · exact absurd hl2 (zb_eq.mp c_11)
  · skip
    refine WG.iload_n (pc' := 1) dX5_copy_0 rfl rfl ?_
    refine WG.callSd (c_X5_isList h l) m_X5_245 b_X5_isList rfl (zrk_of rfl) rfl (Nat.le_of_ble_eq_true rfl) dX5_copy_1 (pc' := 4) rfl ?_
    refine WG.if_eq (tgt := 14) (pc' := 7) dX5_copy_4 rfl (by decide) (fun c_4 => ?_) (fun c_4 => ?_)
    · refine WG.aload_n (pc' := 15) dX5_copy_14 rfl rfl ?_
      refine WG.iconst (v := -1) (pc' := 16) dX5_copy_15 rfl rfl ?_
      refine WG.callVd (c_X5_refuse 1 (by decide)) m_X5_71 b_X5_refuse rfl rfl rfl (zrk_of rfl) rfl (Nat.le_of_ble_eq_true rfl) dX5_copy_16 (pc' := 19) rfl ?_
      refine WG.ireturn dX5_copy_19 rfl (by first | rfl | decide) ?_
      exact zrX hX zFr.rf (by decide) (zes_t hl)
    · rw [zb_nn] at c_4
      refine WG.iload_n (pc' := 8) dX5_copy_7 rfl rfl ?_
      refine WG.callSd (c_X5_isList h k) m_X5_245 b_X5_isList rfl (zrk_of rfl) rfl (Nat.le_of_ble_eq_true rfl) dX5_copy_8 (pc' := 11) rfl ?_
      refine WG.if_ne (tgt := 20) (pc' := 14) dX5_copy_11 rfl (by decide) (fun c_11 => ?_) (fun c_11 => ?_)
      · rw [zb_ne] at c_11
        exact absurd ⟨c_4, c_11⟩ hl
      · refine WG.aload_n (pc' := 15) dX5_copy_14 rfl rfl ?_
        refine WG.iconst (v := -1) (pc' := 16) dX5_copy_15 rfl rfl ?_
        refine WG.callVd (c_X5_refuse 1 (by decide)) m_X5_71 b_X5_refuse rfl rfl rfl (zrk_of rfl) rfl (Nat.le_of_ble_eq_true rfl) dX5_copy_16 (pc' := 19) rfl ?_
        refine WG.ireturn dX5_copy_19 rfl (by first | rfl | decide) ?_
        exact zrX hX zFr.rf (by decide) (zes_t hl)
