theorem zb_if (P : Prop) (d : Decidable P) : (@ite Int32 P d 1 0) = zb P := by
  by_cases h : P
  · rw [if_pos h, zb_t h]
  · rw [if_neg h, zb_f h]
theorem x_settle {σ : zA} {h : zH} (hX : RX σ h) : K_X0_settle [.ref 69, .ref 1] h (fun r h' => r = some (.int (zb (0 < zWt σ.1.2 σ.1.1))) ∧ RLf σ.1.2 σ.1.1 h' ∧ RX σ h' ∧ zFr zB1 h h') :=
  (c_X0_settle hX.1).mono (fun r h' q => by
    obtain ⟨q1, q2, q3⟩ := q
    exact ⟨by rw [q1, zb_if], q2, hX.fo q3 (fun o z => Or.inr (Or.inl ⟨z.1, by have := z.2; omega⟩)), q3.mo (fun o z => by obtain ⟨z1, z2⟩ := z; show o < 86; omega)⟩)
theorem m_spreads {σ : zA} {h : zH} (hX : RM σ h) : K_X6_spreadsAll [.ref 86] h (fun r h' => r = some (.int (zb (0 < zWt σ.1.2 σ.1.1))) ∧ RCm σ.1.1 (zWt σ.1.2 σ.1.1) (zu σ.1.2 σ.1.1 0) (zu σ.1.2 σ.1.1 1) (zx σ.1.2 σ.1.1 0) (zx σ.1.2 σ.1.1 1) h' ∧ RM σ h' ∧ zFr zB2 h h') :=
  (c_X6_spreadsAll hX.1).mono (fun r h' q => by
    obtain ⟨q1, q2, q3, q4, q5⟩ := q
    refine ⟨q1, q2, hX.eq1 q3 (q4 99 (by decide)), ⟨fun o z => by rw [q3], fun o z => q4 o ⟨?_, ?_, ?_⟩⟩⟩
    · rintro rfl; exact z (by show 86 ≤ 86; decide)
    · rintro rfl; exact z (by show 86 ≤ 94; decide)
    · rintro rfl; exact z (by show 86 ≤ 95; decide))
theorem zWne {n : Nat} {f : zf} (h : 0 < zWt f n) : zWt f n ≠ 0 := by grind
theorem zUne {w : Int64} (hb : 0 ≤ w.toInt ∧ w.toInt ≤ 2592) (h : 0 < w) : 2 * w * w ≠ 0 := by
  intro q
  have e := (zun_b hb).1
  rw [q, show (0 : Int64).toInt = 0 by decide] at e
  have hp := Int64.lt_iff_toInt_lt.mp h
  rw [show (0 : Int64).toInt = 0 by decide] at hp
  have : 0 < 2 * w.toInt * w.toInt := Int.mul_pos (by omega) hp
  omega
noncomputable def zeSp (n : Nat) (f : zf) (s w p : Int32) : Int32 := zes [(¬ zsd n s, -1), (¬ ((w = 0 ∨ w = 1) ∧ (p = 0 ∨ p = 1)), -2), (¬ 0 < zWt f n, -3)]
set_option maxHeartbeats 4000000 in
set_option maxRecDepth 100000 in
theorem x_spread {σ : zA} {h : zH} (hX : RX σ h) (hV : VS σ.1.1 σ.1.2) (s w p : Int32) : K_X5_spread [.ref 0, .int s, .int w, .int p] h (zPl RX zB1 h σ (zeSp σ.1.1 σ.1.2 s w p) (zfr (zu σ.1.2 σ.1.1 w.toNatClampNeg s.toNatClampNeg) (zWt σ.1.2 σ.1.1) p)) := by
  have hS := hX.1
  have hn := hS.2.1
  refine CT.of rfl rfl (Nat.le_of_ble_eq_true rfl) rfl ?_
  refine WG.aload_n (pc' := 1) dX5_spread_0 rfl rfl ?_
  refine WG.getR (r := 1) f_X5_10 (pc' := 4) dX5_spread_1 rfl rfl rfl rfl ?_
  refine WG.iload_n (pc' := 5) dX5_spread_4 rfl rfl ?_
  refine WG.callVd (c_X4_has hS s) m_X5_105 b_X4_has rfl rfl rfl (zrk_of rfl) rfl (Nat.le_of_ble_eq_true rfl) dX5_spread_5 (pc' := 8) rfl ?_
  refine WG.if_ne (tgt := 17) (pc' := 11) dX5_spread_8 rfl (by decide) (fun c_8 => ?_) (fun c_8 => ?_)
  · rw [zb_ne] at c_8
    refine WG.iload_n (pc' := 18) dX5_spread_17 rfl rfl ?_
    refine WG.callSd (c_X5_isOneOfTwo h w) m_X5_144 b_X5_isOneOfTwo rfl (zrk_of rfl) rfl (Nat.le_of_ble_eq_true rfl) dX5_spread_18 (pc' := 21) rfl ?_
    refine WG.if_eq (tgt := 31) (pc' := 24) dX5_spread_21 rfl (by decide) (fun c_21 => ?_) (fun c_21 => ?_)
    · rw [zb_eq] at c_21
      have hbad : ¬ ((w = 0 ∨ w = 1) ∧ (p = 0 ∨ p = 1)) := fun z => c_21 z.1
      refine WG.aload_n (pc' := 32) dX5_spread_31 rfl rfl ?_
      refine WG.bipush (v := -2) (pc' := 34) dX5_spread_32 rfl rfl ?_
      refine WG.callVd (c_X5_refuseLong 2 (by decide)) m_X5_116 b_X5_refuseLong rfl rfl rfl (zrk_of rfl) rfl (Nat.le_of_ble_eq_true rfl) dX5_spread_34 (pc' := 37) rfl ?_
      refine WG.lreturn dX5_spread_37 rfl ?_
      exact zrXl hX zFr.rf (by decide) ((zes_n c_8).trans (zes_t hbad))
    · rw [zb_nn] at c_21
      refine WG.iload_n (pc' := 25) dX5_spread_24 rfl rfl ?_
      refine WG.callSd (c_X5_isOneOfTwo h p) m_X5_144 b_X5_isOneOfTwo rfl (zrk_of rfl) rfl (Nat.le_of_ble_eq_true rfl) dX5_spread_25 (pc' := 28) rfl ?_
      refine WG.if_ne (tgt := 38) (pc' := 31) dX5_spread_28 rfl (by decide) (fun c_28 => ?_) (fun c_28 => ?_)
      · rw [zb_ne] at c_28
        refine WG.aload_n (pc' := 39) dX5_spread_38 rfl rfl ?_
        refine WG.getR (r := 69) f_X5_36 (pc' := 42) dX5_spread_39 rfl rfl rfl rfl ?_
        refine WG.aload_n (pc' := 43) dX5_spread_42 rfl rfl ?_
        refine WG.getR (r := 1) f_X5_10 (pc' := 46) dX5_spread_43 rfl rfl rfl rfl ?_
        refine WG.callV (x_settle hX) m_X5_156 b_X0_settle rfl rfl rfl (zrk_of rfl) rfl (Nat.le_of_ble_eq_true rfl) dX5_spread_46 (pc' := 49) rfl (fun r_ h_ q_ => ?_)
        obtain ⟨rfl, hL, hX1, hF1⟩ := q_
        refine WG.if_ne (tgt := 59) (pc' := 52) dX5_spread_49 rfl (by decide) (fun c_49 => ?_) (fun c_49 => ?_)
        · rw [zb_ne] at c_49
          have he : zeSp σ.1.1 σ.1.2 s w p = 0 := (zes_n c_8).trans ((zes_n ⟨c_21, c_28⟩).trans (zes_n c_49))
          obtain ⟨j, hj, rfl⟩ := zsd_of (by omega) c_8
          rw [nI_clamp (by omega)]
          have hwb := zWt_b hV
          refine WG.iload_n (pc' := 60) dX5_spread_59 rfl rfl ?_
          refine WG.if_ne (tgt := 75) (pc' := 63) dX5_spread_60 rfl (by decide) (fun c_60 => ?_) (fun c_60 => ?_)
          · refine WG.aload_n (pc' := 76) dX5_spread_75 rfl rfl ?_
            refine WG.getR (r := 69) f_X5_36 (pc' := 79) dX5_spread_76 rfl rfl rfl rfl ?_
            refine WG.getR (r := 71) f_X5_164 (pc' := 82) dX5_spread_79 rfl rfl rfl rfl ?_
            refine WG.iload_n (pc' := 83) dX5_spread_82 rfl rfl ?_
            refine WG.laloadN (j := j) (pc' := 84) dX5_spread_83 rfl rfl rfl (by omega) (by first | decide | omega) ?_
            first
              | rw [show h_.2 70 j = zu σ.1.2 σ.1.1 w.toNatClampNeg j by rw [show w = 0 from c_60]; exact hL.2.2.2.1 j hj]
              | rw [show h_.2 71 j = zu σ.1.2 σ.1.1 w.toNatClampNeg j by rw [show w = 1 from c_21.resolve_left c_60]; exact hL.2.2.2.2.1 j hj]
            refine WG.aload_n (pc' := 85) dX5_spread_84 rfl rfl ?_
            refine WG.getR (r := 69) f_X5_36 (pc' := 88) dX5_spread_85 rfl rfl rfl rfl ?_
            refine WG.getL f_X5_167 (pc' := 91) dX5_spread_88 rfl rfl rfl ?_
            rw [hL.2.2.1]
            refine WG.iload_n (pc' := 92) dX5_spread_91 rfl rfl ?_
            refine WG.callSd (c_X5_fraction (zbd_of (zu_b hV hj (by rcases c_21 with rfl | rfl <;> decide)) (by decide)) (zbd_of (A := 2592) (by unfold zl; omega) (by decide)) (zWne c_49)) m_X5_171 b_X5_fraction rfl (zrk_of rfl) rfl (Nat.le_of_ble_eq_true rfl) dX5_spread_92 (pc' := 95) rfl ?_
            refine WG.lreturn dX5_spread_95 rfl ?_
            exact zokl hX1 hF1 he rfl
          · refine WG.aload_n (pc' := 64) dX5_spread_63 rfl rfl ?_
            refine WG.getR (r := 69) f_X5_36 (pc' := 67) dX5_spread_64 rfl rfl rfl rfl ?_
            refine WG.getR (r := 70) f_X5_160 (pc' := 70) dX5_spread_67 rfl rfl rfl rfl ?_
            refine WG.iload_n (pc' := 71) dX5_spread_70 rfl rfl ?_
            refine WG.laloadN (j := j) (pc' := 72) dX5_spread_71 rfl rfl rfl (by omega) (by first | decide | omega) ?_
            refine WG.goto (tgt := 84) dX5_spread_72 (by decide) ?_
            first
              | rw [show h_.2 70 j = zu σ.1.2 σ.1.1 w.toNatClampNeg j by rw [show w = 0 from c_60]; exact hL.2.2.2.1 j hj]
              | rw [show h_.2 71 j = zu σ.1.2 σ.1.1 w.toNatClampNeg j by rw [show w = 1 from c_21.resolve_left c_60]; exact hL.2.2.2.2.1 j hj]
            refine WG.aload_n (pc' := 85) dX5_spread_84 rfl rfl ?_
            refine WG.getR (r := 69) f_X5_36 (pc' := 88) dX5_spread_85 rfl rfl rfl rfl ?_
            refine WG.getL f_X5_167 (pc' := 91) dX5_spread_88 rfl rfl rfl ?_
            rw [hL.2.2.1]
            refine WG.iload_n (pc' := 92) dX5_spread_91 rfl rfl ?_
            refine WG.callSd (c_X5_fraction (zbd_of (zu_b hV hj (by rcases c_21 with rfl | rfl <;> decide)) (by decide)) (zbd_of (A := 2592) (by unfold zl; omega) (by decide)) (zWne c_49)) m_X5_171 b_X5_fraction rfl (zrk_of rfl) rfl (Nat.le_of_ble_eq_true rfl) dX5_spread_92 (pc' := 95) rfl ?_
            refine WG.lreturn dX5_spread_95 rfl ?_
            exact zokl hX1 hF1 he rfl
        · rw [zb_eq] at c_49
          refine WG.aload_n (pc' := 53) dX5_spread_52 rfl rfl ?_
          refine WG.bipush (v := -3) (pc' := 55) dX5_spread_53 rfl rfl ?_
          refine WG.callVd (c_X5_refuseLong 3 (by decide)) m_X5_116 b_X5_refuseLong rfl rfl rfl (zrk_of rfl) rfl (Nat.le_of_ble_eq_true rfl) dX5_spread_55 (pc' := 58) rfl ?_
          refine WG.lreturn dX5_spread_58 rfl ?_
          exact zrXl hX1 hF1 (by decide) ((zes_n c_8).trans ((zes_n ⟨c_21, c_28⟩).trans (zes_t c_49)))
      · rw [zb_eq] at c_28
        have hbad : ¬ ((w = 0 ∨ w = 1) ∧ (p = 0 ∨ p = 1)) := fun z => c_28 z.2
        refine WG.aload_n (pc' := 32) dX5_spread_31 rfl rfl ?_
        refine WG.bipush (v := -2) (pc' := 34) dX5_spread_32 rfl rfl ?_
        refine WG.callVd (c_X5_refuseLong 2 (by decide)) m_X5_116 b_X5_refuseLong rfl rfl rfl (zrk_of rfl) rfl (Nat.le_of_ble_eq_true rfl) dX5_spread_34 (pc' := 37) rfl ?_
        refine WG.lreturn dX5_spread_37 rfl ?_
        exact zrXl hX zFr.rf (by decide) ((zes_n c_8).trans (zes_t hbad))
  · rw [zb_eq] at c_8
    refine WG.aload_n (pc' := 12) dX5_spread_11 rfl rfl ?_
    refine WG.iconst (v := -1) (pc' := 13) dX5_spread_12 rfl rfl ?_
    refine WG.callVd (c_X5_refuseLong 1 (by decide)) m_X5_116 b_X5_refuseLong rfl rfl rfl (zrk_of rfl) rfl (Nat.le_of_ble_eq_true rfl) dX5_spread_13 (pc' := 16) rfl ?_
    refine WG.lreturn dX5_spread_16 rfl ?_
    exact zrXl hX zFr.rf (by decide) (zes_t c_8)
set_option maxHeartbeats 4000000 in
set_option maxRecDepth 100000 in
theorem m_spread {σ : zA} {h : zH} (hX : RM σ h) (hV : VS σ.1.1 σ.1.2) (s w p : Int32) : K_X6_spread [.ref 86, .int s, .int w, .int p] h (zPl RM zB2 h σ (zeSp σ.1.1 σ.1.2 s w p) (zfr (zu σ.1.2 σ.1.1 w.toNatClampNeg s.toNatClampNeg) (zWt σ.1.2 σ.1.1) p)) := by
  have hS := hX.1
  have hn := hS.1
  refine CT.of rfl rfl (Nat.le_of_ble_eq_true rfl) rfl ?_
  refine WG.aload_n (pc' := 1) dX6_spread_0 rfl rfl ?_
  refine WG.iload_n (pc' := 2) dX6_spread_1 rfl rfl ?_
  refine WG.callVd (c_X6_isSide hS s) m_X6_106 b_X6_isSide rfl rfl rfl (zrk_of rfl) rfl (Nat.le_of_ble_eq_true rfl) dX6_spread_2 (pc' := 5) rfl ?_
  refine WG.if_ne (tgt := 14) (pc' := 8) dX6_spread_5 rfl (by decide) (fun c_5 => ?_) (fun c_5 => ?_)
  · rw [zb_ne] at c_5
    refine WG.iload_n (pc' := 15) dX6_spread_14 rfl rfl ?_
    refine WG.i2l (pc' := 16) dX6_spread_15 rfl ?_
    refine WG.lconst (v := 0) (pc' := 17) dX6_spread_16 rfl rfl ?_
    refine WG.lconst (v := 1) (pc' := 18) dX6_spread_17 rfl rfl ?_
    refine WG.callSd (c_X6_in _ _ _ _) m_X6_67 b_X6_in rfl (zrk_of rfl) rfl (Nat.le_of_ble_eq_true rfl) dX6_spread_18 (pc' := 21) rfl ?_
    refine WG.if_eq (tgt := 31) (pc' := 24) dX6_spread_21 rfl (by decide) (fun c_21 => ?_) (fun c_21 => ?_)
    · rw [zb_eq, zin01] at c_21
      have hbad : ¬ ((w = 0 ∨ w = 1) ∧ (p = 0 ∨ p = 1)) := fun z => c_21 z.1
      refine WG.aload_n (pc' := 32) dX6_spread_31 rfl rfl ?_
      refine WG.bipush (v := -2) (pc' := 34) dX6_spread_32 rfl rfl ?_
      refine WG.callVd (c_X6_far 2 (by decide)) m_X6_177 b_X6_far rfl rfl rfl (zrk_of rfl) rfl (Nat.le_of_ble_eq_true rfl) dX6_spread_34 (pc' := 37) rfl ?_
      refine WG.lreturn dX6_spread_37 rfl ?_
      exact zrMl hX zFr.rf (by decide) ((zes_n c_5).trans (zes_t hbad))
    · rw [zb_nn, zin01] at c_21
      refine WG.iload_n (pc' := 25) dX6_spread_24 rfl rfl ?_
      refine WG.callSd (c_X6_isPart h p) m_X6_197 b_X6_isPart rfl (zrk_of rfl) rfl (Nat.le_of_ble_eq_true rfl) dX6_spread_25 (pc' := 28) rfl ?_
      refine WG.if_ne (tgt := 38) (pc' := 31) dX6_spread_28 rfl (by decide) (fun c_28 => ?_) (fun c_28 => ?_)
      · rw [zb_ne] at c_28
        refine WG.aload_n (pc' := 39) dX6_spread_38 rfl rfl ?_
        refine WG.callV (m_spreads hX) m_X6_200 b_X6_spreadsAll rfl rfl rfl (zrk_of rfl) rfl (Nat.le_of_ble_eq_true rfl) dX6_spread_39 (pc' := 42) rfl (fun r_ h_ q_ => ?_)
        obtain ⟨rfl, hL, hX1, hF1⟩ := q_
        refine WG.if_eq (tgt := 66) (pc' := 45) dX6_spread_42 rfl (by decide) (fun c_42 => ?_) (fun c_42 => ?_)
        · rw [zb_eq] at c_42
          refine WG.aload_n (pc' := 67) dX6_spread_66 rfl rfl ?_
          refine WG.bipush (v := -3) (pc' := 69) dX6_spread_67 rfl rfl ?_
          refine WG.callVd (c_X6_far 3 (by decide)) m_X6_177 b_X6_far rfl rfl rfl (zrk_of rfl) rfl (Nat.le_of_ble_eq_true rfl) dX6_spread_69 (pc' := 72) rfl ?_
          refine WG.lreturn dX6_spread_72 rfl ?_
          first
            | exact zokl hX1 hF1 he rfl
            | exact zrMl hX1 hF1 (by decide) ((zes_n c_5).trans ((zes_n ⟨c_21, c_28⟩).trans (zes_t c_42)))
        · rw [zb_nn] at c_42
          have he : zeSp σ.1.1 σ.1.2 s w p = 0 := (zes_n c_5).trans ((zes_n ⟨c_21, c_28⟩).trans (zes_n c_42))
          obtain ⟨j, hj, rfl⟩ := zsd_of (by omega) c_5
          obtain ⟨a, ha, rfl⟩ : ∃ a, a < 2 ∧ w = nI a := by
            rcases c_21 with q | q
            · exact ⟨0, by decide, q⟩
            · exact ⟨1, by decide, q⟩
          rw [nI_clamp (show j < 2 ^ 31 by omega), nI_clamp (show a < 2 ^ 31 by omega)]
          have hwb := zWt_b hV
          have hu : h_.2 94 (2 * j + a) = zu σ.1.2 σ.1.1 a j := by
            rcases (show a = 0 ∨ a = 1 by omega) with rfl | rfl
            · exact (hL.2.2.1 j hj).1
            · exact (hL.2.2.1 j hj).2
          refine WG.aload_n (pc' := 46) dX6_spread_45 rfl rfl ?_
          refine WG.getR (r := 94) f_X6_41 (pc' := 49) dX6_spread_46 rfl rfl rfl rfl ?_
          refine WG.iconst (v := 2) (pc' := 50) dX6_spread_49 rfl rfl ?_
          refine WG.iload_n (pc' := 51) dX6_spread_50 rfl rfl ?_
          refine WG.imul (pc' := 52) dX6_spread_51 rfl ?_
          refine WG.iload_n (pc' := 53) dX6_spread_52 rfl rfl ?_
          refine WG.iadd (pc' := 54) dX6_spread_53 rfl ?_
          refine WG.laloadN (j := 2 * j + a) (pc' := 55) dX6_spread_54 rfl rfl (zi2 j a) (by omega) (by first | decide | omega) ?_
          rw [hu]
          refine WG.aload_n (pc' := 56) dX6_spread_55 rfl rfl ?_
          refine WG.getL f_X6_193 (pc' := 59) dX6_spread_56 rfl rfl rfl ?_
          rw [hL.2.1]
          refine WG.iload_n (pc' := 60) dX6_spread_59 rfl rfl ?_
          refine WG.callSd (c_X6_lowest (zbd_of (zu_b hV hj ha) (by decide)) (zbd_of (A := 2592) (by unfold zl; omega) (by decide)) (zWne c_42)) m_X6_204 b_X6_lowest rfl (zrk_of rfl) rfl (Nat.le_of_ble_eq_true rfl) dX6_spread_60 (pc' := 63) rfl ?_
          refine WG.goto (tgt := 72) dX6_spread_63 (by decide) ?_
          refine WG.lreturn dX6_spread_72 rfl ?_
          first
            | exact zokl hX1 hF1 he rfl
            | exact zrMl hX1 hF1 (by decide) ((zes_n c_5).trans ((zes_n ⟨c_21, c_28⟩).trans (zes_t c_42)))
      · rw [zb_eq] at c_28
        have hbad : ¬ ((w = 0 ∨ w = 1) ∧ (p = 0 ∨ p = 1)) := fun z => c_28 z.2
        refine WG.aload_n (pc' := 32) dX6_spread_31 rfl rfl ?_
        refine WG.bipush (v := -2) (pc' := 34) dX6_spread_32 rfl rfl ?_
        refine WG.callVd (c_X6_far 2 (by decide)) m_X6_177 b_X6_far rfl rfl rfl (zrk_of rfl) rfl (Nat.le_of_ble_eq_true rfl) dX6_spread_34 (pc' := 37) rfl ?_
        refine WG.lreturn dX6_spread_37 rfl ?_
        exact zrMl hX zFr.rf (by decide) ((zes_n c_5).trans (zes_t hbad))
  · rw [zb_eq] at c_5
    refine WG.aload_n (pc' := 9) dX6_spread_8 rfl rfl ?_
    refine WG.iconst (v := -1) (pc' := 10) dX6_spread_9 rfl rfl ?_
    refine WG.callVd (c_X6_far 1 (by decide)) m_X6_177 b_X6_far rfl rfl rfl (zrk_of rfl) rfl (Nat.le_of_ble_eq_true rfl) dX6_spread_10 (pc' := 13) rfl ?_
    refine WG.lreturn dX6_spread_13 rfl ?_
    exact zrMl hX zFr.rf (by decide) (zes_t c_5)
set_option maxHeartbeats 4000000 in
set_option maxRecDepth 100000 in
theorem x_corner {σ : zA} {h : zH} (hX : RX σ h) (hV : VS σ.1.1 σ.1.2) (s w p : Int32) : K_X5_corner [.ref 0, .int s, .int w, .int p] h (zPl RX zB1 h σ (zeSp σ.1.1 σ.1.2 s w p) (zfr (zx σ.1.2 σ.1.1 w.toNatClampNeg s.toNatClampNeg) (zWt σ.1.2 σ.1.1) p)) := by
  have hS := hX.1
  have hn := hS.2.1
  refine CT.of rfl rfl (Nat.le_of_ble_eq_true rfl) rfl ?_
  refine WG.aload_n (pc' := 1) dX5_corner_0 rfl rfl ?_
  refine WG.getR (r := 1) f_X5_10 (pc' := 4) dX5_corner_1 rfl rfl rfl rfl ?_
  refine WG.iload_n (pc' := 5) dX5_corner_4 rfl rfl ?_
  refine WG.callVd (c_X4_has hS s) m_X5_105 b_X4_has rfl rfl rfl (zrk_of rfl) rfl (Nat.le_of_ble_eq_true rfl) dX5_corner_5 (pc' := 8) rfl ?_
  refine WG.if_ne (tgt := 17) (pc' := 11) dX5_corner_8 rfl (by decide) (fun c_8 => ?_) (fun c_8 => ?_)
  · rw [zb_ne] at c_8
    refine WG.iload_n (pc' := 18) dX5_corner_17 rfl rfl ?_
    refine WG.callSd (c_X5_isOneOfTwo h w) m_X5_144 b_X5_isOneOfTwo rfl (zrk_of rfl) rfl (Nat.le_of_ble_eq_true rfl) dX5_corner_18 (pc' := 21) rfl ?_
    refine WG.if_eq (tgt := 31) (pc' := 24) dX5_corner_21 rfl (by decide) (fun c_21 => ?_) (fun c_21 => ?_)
    · rw [zb_eq] at c_21
      have hbad : ¬ ((w = 0 ∨ w = 1) ∧ (p = 0 ∨ p = 1)) := fun z => c_21 z.1
      refine WG.aload_n (pc' := 32) dX5_corner_31 rfl rfl ?_
      refine WG.bipush (v := -2) (pc' := 34) dX5_corner_32 rfl rfl ?_
      refine WG.callVd (c_X5_refuseLong 2 (by decide)) m_X5_116 b_X5_refuseLong rfl rfl rfl (zrk_of rfl) rfl (Nat.le_of_ble_eq_true rfl) dX5_corner_34 (pc' := 37) rfl ?_
      refine WG.lreturn dX5_corner_37 rfl ?_
      exact zrXl hX zFr.rf (by decide) ((zes_n c_8).trans (zes_t hbad))
    · rw [zb_nn] at c_21
      refine WG.iload_n (pc' := 25) dX5_corner_24 rfl rfl ?_
      refine WG.callSd (c_X5_isOneOfTwo h p) m_X5_144 b_X5_isOneOfTwo rfl (zrk_of rfl) rfl (Nat.le_of_ble_eq_true rfl) dX5_corner_25 (pc' := 28) rfl ?_
      refine WG.if_ne (tgt := 38) (pc' := 31) dX5_corner_28 rfl (by decide) (fun c_28 => ?_) (fun c_28 => ?_)
      · rw [zb_ne] at c_28
        refine WG.aload_n (pc' := 39) dX5_corner_38 rfl rfl ?_
        refine WG.getR (r := 69) f_X5_36 (pc' := 42) dX5_corner_39 rfl rfl rfl rfl ?_
        refine WG.aload_n (pc' := 43) dX5_corner_42 rfl rfl ?_
        refine WG.getR (r := 1) f_X5_10 (pc' := 46) dX5_corner_43 rfl rfl rfl rfl ?_
        refine WG.callV (x_settle hX) m_X5_156 b_X0_settle rfl rfl rfl (zrk_of rfl) rfl (Nat.le_of_ble_eq_true rfl) dX5_corner_46 (pc' := 49) rfl (fun r_ h_ q_ => ?_)
        obtain ⟨rfl, hL, hX1, hF1⟩ := q_
        refine WG.if_ne (tgt := 59) (pc' := 52) dX5_corner_49 rfl (by decide) (fun c_49 => ?_) (fun c_49 => ?_)
        · rw [zb_ne] at c_49
          have he : zeSp σ.1.1 σ.1.2 s w p = 0 := (zes_n c_8).trans ((zes_n ⟨c_21, c_28⟩).trans (zes_n c_49))
          obtain ⟨j, hj, rfl⟩ := zsd_of (by omega) c_8
          rw [nI_clamp (by omega)]
          have hwb := zWt_b hV
          refine WG.iload_n (pc' := 60) dX5_corner_59 rfl rfl ?_
          refine WG.if_ne (tgt := 75) (pc' := 63) dX5_corner_60 rfl (by decide) (fun c_60 => ?_) (fun c_60 => ?_)
          · refine WG.aload_n (pc' := 76) dX5_corner_75 rfl rfl ?_
            refine WG.getR (r := 69) f_X5_36 (pc' := 79) dX5_corner_76 rfl rfl rfl rfl ?_
            refine WG.getR (r := 73) f_X5_177 (pc' := 82) dX5_corner_79 rfl rfl rfl rfl ?_
            refine WG.iload_n (pc' := 83) dX5_corner_82 rfl rfl ?_
            refine WG.laloadN (j := j) (pc' := 84) dX5_corner_83 rfl rfl rfl (by omega) (by first | decide | omega) ?_
            first
              | rw [show h_.2 72 j = zx σ.1.2 σ.1.1 w.toNatClampNeg j by rw [show w = 0 from c_60]; exact hL.2.2.2.2.2.1 j hj]
              | rw [show h_.2 73 j = zx σ.1.2 σ.1.1 w.toNatClampNeg j by rw [show w = 1 from c_21.resolve_left c_60]; exact hL.2.2.2.2.2.2 j hj]
            refine WG.aload_n (pc' := 85) dX5_corner_84 rfl rfl ?_
            refine WG.getR (r := 69) f_X5_36 (pc' := 88) dX5_corner_85 rfl rfl rfl rfl ?_
            refine WG.getL f_X5_167 (pc' := 91) dX5_corner_88 rfl rfl rfl ?_
            rw [hL.2.2.1]
            refine WG.iload_n (pc' := 92) dX5_corner_91 rfl rfl ?_
            refine WG.callSd (c_X5_fraction (zbd_of (zx_b8 hV (by rcases c_21 with rfl | rfl <;> decide) (by omega)) (by decide)) (zbd_of (A := 2592) (by unfold zl; omega) (by decide)) (zWne c_49)) m_X5_171 b_X5_fraction rfl (zrk_of rfl) rfl (Nat.le_of_ble_eq_true rfl) dX5_corner_92 (pc' := 95) rfl ?_
            refine WG.lreturn dX5_corner_95 rfl ?_
            exact zokl hX1 hF1 he rfl
          · refine WG.aload_n (pc' := 64) dX5_corner_63 rfl rfl ?_
            refine WG.getR (r := 69) f_X5_36 (pc' := 67) dX5_corner_64 rfl rfl rfl rfl ?_
            refine WG.getR (r := 72) f_X5_175 (pc' := 70) dX5_corner_67 rfl rfl rfl rfl ?_
            refine WG.iload_n (pc' := 71) dX5_corner_70 rfl rfl ?_
            refine WG.laloadN (j := j) (pc' := 72) dX5_corner_71 rfl rfl rfl (by omega) (by first | decide | omega) ?_
            refine WG.goto (tgt := 84) dX5_corner_72 (by decide) ?_
            first
              | rw [show h_.2 72 j = zx σ.1.2 σ.1.1 w.toNatClampNeg j by rw [show w = 0 from c_60]; exact hL.2.2.2.2.2.1 j hj]
              | rw [show h_.2 73 j = zx σ.1.2 σ.1.1 w.toNatClampNeg j by rw [show w = 1 from c_21.resolve_left c_60]; exact hL.2.2.2.2.2.2 j hj]
            refine WG.aload_n (pc' := 85) dX5_corner_84 rfl rfl ?_
            refine WG.getR (r := 69) f_X5_36 (pc' := 88) dX5_corner_85 rfl rfl rfl rfl ?_
            refine WG.getL f_X5_167 (pc' := 91) dX5_corner_88 rfl rfl rfl ?_
            rw [hL.2.2.1]
            refine WG.iload_n (pc' := 92) dX5_corner_91 rfl rfl ?_
            refine WG.callSd (c_X5_fraction (zbd_of (zx_b8 hV (by rcases c_21 with rfl | rfl <;> decide) (by omega)) (by decide)) (zbd_of (A := 2592) (by unfold zl; omega) (by decide)) (zWne c_49)) m_X5_171 b_X5_fraction rfl (zrk_of rfl) rfl (Nat.le_of_ble_eq_true rfl) dX5_corner_92 (pc' := 95) rfl ?_
            refine WG.lreturn dX5_corner_95 rfl ?_
            exact zokl hX1 hF1 he rfl
        · rw [zb_eq] at c_49
          refine WG.aload_n (pc' := 53) dX5_corner_52 rfl rfl ?_
          refine WG.bipush (v := -3) (pc' := 55) dX5_corner_53 rfl rfl ?_
          refine WG.callVd (c_X5_refuseLong 3 (by decide)) m_X5_116 b_X5_refuseLong rfl rfl rfl (zrk_of rfl) rfl (Nat.le_of_ble_eq_true rfl) dX5_corner_55 (pc' := 58) rfl ?_
          refine WG.lreturn dX5_corner_58 rfl ?_
          exact zrXl hX1 hF1 (by decide) ((zes_n c_8).trans ((zes_n ⟨c_21, c_28⟩).trans (zes_t c_49)))
      · rw [zb_eq] at c_28
        have hbad : ¬ ((w = 0 ∨ w = 1) ∧ (p = 0 ∨ p = 1)) := fun z => c_28 z.2
        refine WG.aload_n (pc' := 32) dX5_corner_31 rfl rfl ?_
        refine WG.bipush (v := -2) (pc' := 34) dX5_corner_32 rfl rfl ?_
        refine WG.callVd (c_X5_refuseLong 2 (by decide)) m_X5_116 b_X5_refuseLong rfl rfl rfl (zrk_of rfl) rfl (Nat.le_of_ble_eq_true rfl) dX5_corner_34 (pc' := 37) rfl ?_
        refine WG.lreturn dX5_corner_37 rfl ?_
        exact zrXl hX zFr.rf (by decide) ((zes_n c_8).trans (zes_t hbad))
  · rw [zb_eq] at c_8
    refine WG.aload_n (pc' := 12) dX5_corner_11 rfl rfl ?_
    refine WG.iconst (v := -1) (pc' := 13) dX5_corner_12 rfl rfl ?_
    refine WG.callVd (c_X5_refuseLong 1 (by decide)) m_X5_116 b_X5_refuseLong rfl rfl rfl (zrk_of rfl) rfl (Nat.le_of_ble_eq_true rfl) dX5_corner_13 (pc' := 16) rfl ?_
    refine WG.lreturn dX5_corner_16 rfl ?_
    exact zrXl hX zFr.rf (by decide) (zes_t c_8)
set_option maxHeartbeats 4000000 in
set_option maxRecDepth 100000 in
theorem m_corner {σ : zA} {h : zH} (hX : RM σ h) (hV : VS σ.1.1 σ.1.2) (s w p : Int32) : K_X6_corner [.ref 86, .int s, .int w, .int p] h (zPl RM zB2 h σ (zeSp σ.1.1 σ.1.2 s w p) (zfr (zx σ.1.2 σ.1.1 w.toNatClampNeg s.toNatClampNeg) (zWt σ.1.2 σ.1.1) p)) := by
  have hS := hX.1
  have hn := hS.1
  refine CT.of rfl rfl (Nat.le_of_ble_eq_true rfl) rfl ?_
  refine WG.aload_n (pc' := 1) dX6_corner_0 rfl rfl ?_
  refine WG.iload_n (pc' := 2) dX6_corner_1 rfl rfl ?_
  refine WG.callVd (c_X6_isSide hS s) m_X6_106 b_X6_isSide rfl rfl rfl (zrk_of rfl) rfl (Nat.le_of_ble_eq_true rfl) dX6_corner_2 (pc' := 5) rfl ?_
  refine WG.if_ne (tgt := 14) (pc' := 8) dX6_corner_5 rfl (by decide) (fun c_5 => ?_) (fun c_5 => ?_)
  · rw [zb_ne] at c_5
    refine WG.iload_n (pc' := 15) dX6_corner_14 rfl rfl ?_
    refine WG.i2l (pc' := 16) dX6_corner_15 rfl ?_
    refine WG.lconst (v := 0) (pc' := 17) dX6_corner_16 rfl rfl ?_
    refine WG.lconst (v := 1) (pc' := 18) dX6_corner_17 rfl rfl ?_
    refine WG.callSd (c_X6_in _ _ _ _) m_X6_67 b_X6_in rfl (zrk_of rfl) rfl (Nat.le_of_ble_eq_true rfl) dX6_corner_18 (pc' := 21) rfl ?_
    refine WG.if_eq (tgt := 31) (pc' := 24) dX6_corner_21 rfl (by decide) (fun c_21 => ?_) (fun c_21 => ?_)
    · rw [zb_eq, zin01] at c_21
      have hbad : ¬ ((w = 0 ∨ w = 1) ∧ (p = 0 ∨ p = 1)) := fun z => c_21 z.1
      refine WG.aload_n (pc' := 32) dX6_corner_31 rfl rfl ?_
      refine WG.bipush (v := -2) (pc' := 34) dX6_corner_32 rfl rfl ?_
      refine WG.callVd (c_X6_far 2 (by decide)) m_X6_177 b_X6_far rfl rfl rfl (zrk_of rfl) rfl (Nat.le_of_ble_eq_true rfl) dX6_corner_34 (pc' := 37) rfl ?_
      refine WG.lreturn dX6_corner_37 rfl ?_
      exact zrMl hX zFr.rf (by decide) ((zes_n c_5).trans (zes_t hbad))
    · rw [zb_nn, zin01] at c_21
      refine WG.iload_n (pc' := 25) dX6_corner_24 rfl rfl ?_
      refine WG.callSd (c_X6_isPart h p) m_X6_197 b_X6_isPart rfl (zrk_of rfl) rfl (Nat.le_of_ble_eq_true rfl) dX6_corner_25 (pc' := 28) rfl ?_
      refine WG.if_ne (tgt := 38) (pc' := 31) dX6_corner_28 rfl (by decide) (fun c_28 => ?_) (fun c_28 => ?_)
      · rw [zb_ne] at c_28
        refine WG.aload_n (pc' := 39) dX6_corner_38 rfl rfl ?_
        refine WG.callV (m_spreads hX) m_X6_200 b_X6_spreadsAll rfl rfl rfl (zrk_of rfl) rfl (Nat.le_of_ble_eq_true rfl) dX6_corner_39 (pc' := 42) rfl (fun r_ h_ q_ => ?_)
        obtain ⟨rfl, hL, hX1, hF1⟩ := q_
        refine WG.if_eq (tgt := 66) (pc' := 45) dX6_corner_42 rfl (by decide) (fun c_42 => ?_) (fun c_42 => ?_)
        · rw [zb_eq] at c_42
          refine WG.aload_n (pc' := 67) dX6_corner_66 rfl rfl ?_
          refine WG.bipush (v := -3) (pc' := 69) dX6_corner_67 rfl rfl ?_
          refine WG.callVd (c_X6_far 3 (by decide)) m_X6_177 b_X6_far rfl rfl rfl (zrk_of rfl) rfl (Nat.le_of_ble_eq_true rfl) dX6_corner_69 (pc' := 72) rfl ?_
          refine WG.lreturn dX6_corner_72 rfl ?_
          first
            | exact zokl hX1 hF1 he rfl
            | exact zrMl hX1 hF1 (by decide) ((zes_n c_5).trans ((zes_n ⟨c_21, c_28⟩).trans (zes_t c_42)))
        · rw [zb_nn] at c_42
          have he : zeSp σ.1.1 σ.1.2 s w p = 0 := (zes_n c_5).trans ((zes_n ⟨c_21, c_28⟩).trans (zes_n c_42))
          obtain ⟨j, hj, rfl⟩ := zsd_of (by omega) c_5
          obtain ⟨a, ha, rfl⟩ : ∃ a, a < 2 ∧ w = nI a := by
            rcases c_21 with q | q
            · exact ⟨0, by decide, q⟩
            · exact ⟨1, by decide, q⟩
          rw [nI_clamp (show j < 2 ^ 31 by omega), nI_clamp (show a < 2 ^ 31 by omega)]
          have hwb := zWt_b hV
          have hu : h_.2 95 (2 * j + a) = zx σ.1.2 σ.1.1 a j := by
            rcases (show a = 0 ∨ a = 1 by omega) with rfl | rfl
            · exact (hL.2.2.2 j (by omega)).1
            · exact (hL.2.2.2 j (by omega)).2
          refine WG.aload_n (pc' := 46) dX6_corner_45 rfl rfl ?_
          refine WG.getR (r := 95) f_X6_45 (pc' := 49) dX6_corner_46 rfl rfl rfl rfl ?_
          refine WG.iconst (v := 2) (pc' := 50) dX6_corner_49 rfl rfl ?_
          refine WG.iload_n (pc' := 51) dX6_corner_50 rfl rfl ?_
          refine WG.imul (pc' := 52) dX6_corner_51 rfl ?_
          refine WG.iload_n (pc' := 53) dX6_corner_52 rfl rfl ?_
          refine WG.iadd (pc' := 54) dX6_corner_53 rfl ?_
          refine WG.laloadN (j := 2 * j + a) (pc' := 55) dX6_corner_54 rfl rfl (zi2 j a) (by omega) (by first | decide | omega) ?_
          rw [hu]
          refine WG.aload_n (pc' := 56) dX6_corner_55 rfl rfl ?_
          refine WG.getL f_X6_193 (pc' := 59) dX6_corner_56 rfl rfl rfl ?_
          rw [hL.2.1]
          refine WG.iload_n (pc' := 60) dX6_corner_59 rfl rfl ?_
          refine WG.callSd (c_X6_lowest (zbd_of (zx_b8 hV ha (by omega)) (by decide)) (zbd_of (A := 2592) (by unfold zl; omega) (by decide)) (zWne c_42)) m_X6_204 b_X6_lowest rfl (zrk_of rfl) rfl (Nat.le_of_ble_eq_true rfl) dX6_corner_60 (pc' := 63) rfl ?_
          refine WG.goto (tgt := 72) dX6_corner_63 (by decide) ?_
          refine WG.lreturn dX6_corner_72 rfl ?_
          first
            | exact zokl hX1 hF1 he rfl
            | exact zrMl hX1 hF1 (by decide) ((zes_n c_5).trans ((zes_n ⟨c_21, c_28⟩).trans (zes_t c_42)))
      · rw [zb_eq] at c_28
        have hbad : ¬ ((w = 0 ∨ w = 1) ∧ (p = 0 ∨ p = 1)) := fun z => c_28 z.2
        refine WG.aload_n (pc' := 32) dX6_corner_31 rfl rfl ?_
        refine WG.bipush (v := -2) (pc' := 34) dX6_corner_32 rfl rfl ?_
        refine WG.callVd (c_X6_far 2 (by decide)) m_X6_177 b_X6_far rfl rfl rfl (zrk_of rfl) rfl (Nat.le_of_ble_eq_true rfl) dX6_corner_34 (pc' := 37) rfl ?_
        refine WG.lreturn dX6_corner_37 rfl ?_
        exact zrMl hX zFr.rf (by decide) ((zes_n c_5).trans (zes_t hbad))
  · rw [zb_eq] at c_5
    refine WG.aload_n (pc' := 9) dX6_corner_8 rfl rfl ?_
    refine WG.iconst (v := -1) (pc' := 10) dX6_corner_9 rfl rfl ?_
    refine WG.callVd (c_X6_far 1 (by decide)) m_X6_177 b_X6_far rfl rfl rfl (zrk_of rfl) rfl (Nat.le_of_ble_eq_true rfl) dX6_corner_10 (pc' := 13) rfl ?_
    refine WG.lreturn dX6_corner_13 rfl ?_
    exact zrMl hX zFr.rf (by decide) (zes_t c_5)
