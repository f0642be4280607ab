section zMod
variable {n : Nat} {w : Int64} {ux uy px py : Nat → Int64} {f : zf} {h : zH}
set_option maxHeartbeats 4000000 in
set_option maxRecDepth 100000 in
theorem c_X6_isPart (h : zH) (x : Int32) : K_X6_isPart [.int x] h (zD (some (.int (zb (x = 0 ∨ x = 1)))) h) := by
  refine CT.of rfl rfl (Nat.le_of_ble_eq_true rfl) rfl ?_
  refine WG.iload_n (pc' := 1) dX6_isPart_0 rfl rfl ?_
  refine WG.i2l (pc' := 2) dX6_isPart_1 rfl ?_
  refine WG.lconst (v := 0) (pc' := 3) dX6_isPart_2 rfl rfl ?_
  refine WG.lconst (v := 1) (pc' := 4) dX6_isPart_3 rfl rfl ?_
  refine WG.callSd (c_X6_in _ _ _ _) m_X6_67 b_X6_in rfl (zrk_of rfl) rfl (Nat.le_of_ble_eq_true rfl) dX6_isPart_4 (pc' := 7) rfl ?_
  refine WG.ireturn dX6_isPart_7 rfl (zb_n _) ?_
  refine ⟨?_, rfl⟩
  rw [zb_i (show (0 ≤ x.toInt64 ∧ x.toInt64 ≤ 1) ↔ (x = 0 ∨ x = 1) by
    rw [Int64.le_iff_toInt_le, Int64.le_iff_toInt_le, zi64, show (0 : Int64).toInt = 0 by decide, show (1 : Int64).toInt = 1 by decide, ← Int32.toInt_inj, ← Int32.toInt_inj, show (0 : Int32).toInt = 0 by decide, show (1 : Int32).toInt = 1 by decide]
    omega)]
set_option maxHeartbeats 4000000 in
set_option maxRecDepth 100000 in
theorem c_X6_next (hG : RG 88 0 n f h) {i : Nat} (hi : i < n) : K_X6_next [.ref 86, .int (nI i)] h (zD (some (.int (nI (zro n (i + 1))))) h) := by
  have hn := hG.1
  refine CT.of rfl rfl (Nat.le_of_ble_eq_true rfl) rfl ?_
  refine WG.iload_n (pc' := 1) dX6_next_0 rfl rfl ?_
  refine WG.iconst (v := 1) (pc' := 2) dX6_next_1 rfl rfl ?_
  refine WG.iadd (pc' := 3) dX6_next_2 rfl ?_
  refine WG.aload_n (pc' := 4) dX6_next_3 rfl rfl ?_
  refine WG.callVd (c_X6_many hG) m_X6_63 b_X6_many rfl rfl rfl (zrk_of rfl) rfl (Nat.le_of_ble_eq_true rfl) dX6_next_4 (pc' := 7) rfl ?_
  rw [nI_1]
  refine WG.icmp_ne (tgt := 14) (pc' := 10) dX6_next_7 rfl (by decide) (fun c_7 => ?_) (fun c_7 => ?_)
  · have c7 := mt (nI_eq (a := i + 1) (b := n) (by omega) (by omega)).mpr c_7
    refine WG.iload_n (pc' := 15) dX6_next_14 rfl rfl ?_
    refine WG.iconst (v := 1) (pc' := 16) dX6_next_15 rfl rfl ?_
    refine WG.iadd (pc' := 17) dX6_next_16 rfl ?_
    refine WG.ireturn dX6_next_17 rfl (by first | rfl | decide) ?_
    exact ⟨by unfold zro; first | rw [nI_1, if_pos (by omega)] | (rw [if_neg (by omega), show i + 1 - n = 0 by omega]; rfl), rfl⟩
  · have c7 := (nI_eq (a := i + 1) (b := n) (by omega) (by omega)).mp c_7
    refine WG.iconst (v := 0) (pc' := 11) dX6_next_10 rfl rfl ?_
    refine WG.goto (tgt := 17) dX6_next_11 (by decide) ?_
    refine WG.ireturn dX6_next_17 rfl (by first | rfl | decide) ?_
    exact ⟨by unfold zro; first | rw [nI_1, if_pos (by omega)] | (rw [if_neg (by omega), show i + 1 - n = 0 by omega]; rfl), rfl⟩
set_option maxHeartbeats 4000000 in
set_option maxRecDepth 100000 in
theorem c_X6_x (hL : RCm n w ux uy px py h) {i : Nat} (hi : i < n) : K_X6_x [.ref 86, .int (nI i)] h (zD (some (.long (px i))) h) := by
  have hn := hL.1
  refine CT.of rfl rfl (Nat.le_of_ble_eq_true rfl) rfl ?_
  refine WG.aload_n (pc' := 1) dX6_x_0 rfl rfl ?_
  refine WG.getR (r := 95) f_X6_45 (pc' := 4) dX6_x_1 rfl rfl rfl rfl ?_
  refine WG.iconst (v := 2) (pc' := 5) dX6_x_4 rfl rfl ?_
  refine WG.iload_n (pc' := 6) dX6_x_5 rfl rfl ?_
  refine WG.imul (pc' := 7) dX6_x_6 rfl ?_
  refine WG.laloadN (j := 2 * i) (pc' := 8) dX6_x_7 rfl rfl (zi2' i) (by omega) (by first | decide | omega) ?_
  refine WG.lreturn dX6_x_8 rfl ?_
  exact ⟨by rw [(hL.2.2.2 i (by omega)).1], rfl⟩
set_option maxHeartbeats 4000000 in
set_option maxRecDepth 100000 in
theorem c_X6_y (hL : RCm n w ux uy px py h) {i : Nat} (hi : i < n) : K_X6_y [.ref 86, .int (nI i)] h (zD (some (.long (py i))) h) := by
  have hn := hL.1
  refine CT.of rfl rfl (Nat.le_of_ble_eq_true rfl) rfl ?_
  refine WG.aload_n (pc' := 1) dX6_y_0 rfl rfl ?_
  refine WG.getR (r := 95) f_X6_45 (pc' := 4) dX6_y_1 rfl rfl rfl rfl ?_
  refine WG.iconst (v := 2) (pc' := 5) dX6_y_4 rfl rfl ?_
  refine WG.iload_n (pc' := 6) dX6_y_5 rfl rfl ?_
  refine WG.imul (pc' := 7) dX6_y_6 rfl ?_
  refine WG.iconst (v := 1) (pc' := 8) dX6_y_7 rfl rfl ?_
  refine WG.iadd (pc' := 9) dX6_y_8 rfl ?_
  refine WG.laloadN (j := 2 * i + 1) (pc' := 10) dX6_y_9 rfl rfl (zi2 i 1) (by omega) (by first | decide | omega) ?_
  refine WG.lreturn dX6_y_10 rfl ?_
  exact ⟨by rw [(hL.2.2.2 i (by omega)).2], rfl⟩
set_option maxHeartbeats 4000000 in
set_option maxRecDepth 100000 in
theorem c_X6_cross (h : zH) (ax ay bx by_ cx cy : Int64) : K_X6_cross [.ref 86, .long ax, .long ay, .long bx, .long by_, .long cx, .long cy] h (zD (some (.long ((bx - ax) * (cy - ay) - (by_ - ay) * (cx - ax)))) h) := by
  refine CT.of rfl rfl (Nat.le_of_ble_eq_true rfl) rfl ?_
  refine WG.lload (pc' := 2) dX6_cross_0 rfl rfl ?_
  refine WG.lload_n (pc' := 3) dX6_cross_2 rfl rfl ?_
  refine WG.lsub (pc' := 4) dX6_cross_3 rfl ?_
  refine WG.lload (pc' := 6) dX6_cross_4 rfl rfl ?_
  refine WG.lload_n (pc' := 7) dX6_cross_6 rfl rfl ?_
  refine WG.lsub (pc' := 8) dX6_cross_7 rfl ?_
  refine WG.lmul (pc' := 9) dX6_cross_8 rfl ?_
  refine WG.lload (pc' := 11) dX6_cross_9 rfl rfl ?_
  refine WG.lload_n (pc' := 12) dX6_cross_11 rfl rfl ?_
  refine WG.lsub (pc' := 13) dX6_cross_12 rfl ?_
  refine WG.lload (pc' := 15) dX6_cross_13 rfl rfl ?_
  refine WG.lload_n (pc' := 16) dX6_cross_15 rfl rfl ?_
  refine WG.lsub (pc' := 17) dX6_cross_16 rfl ?_
  refine WG.lmul (pc' := 18) dX6_cross_17 rfl ?_
  refine WG.lsub (pc' := 19) dX6_cross_18 rfl ?_
  refine WG.lreturn dX6_cross_19 rfl ?_
  exact ⟨rfl, rfl⟩
set_option maxHeartbeats 4000000 in
set_option maxRecDepth 100000 in
theorem c_X6_three (hL : RCm n w ux uy px py h) {a b c : Nat} (ha : a < n) (hb : b < n) (hc : c < n) : K_X6_three [.ref 86, .int (nI a), .int (nI b), .int (nI c)] h (zD (some (.long (zlf px py a b c))) h) := by
  refine CT.of rfl rfl (Nat.le_of_ble_eq_true rfl) rfl ?_
  refine WG.aload_n (pc' := 1) dX6_three_0 rfl rfl ?_
  refine WG.aload_n (pc' := 2) dX6_three_1 rfl rfl ?_
  refine WG.iload_n (pc' := 3) dX6_three_2 rfl rfl ?_
  refine WG.callVd (c_X6_x hL ha) m_X6_208 b_X6_x rfl rfl rfl (zrk_of rfl) rfl (Nat.le_of_ble_eq_true rfl) dX6_three_3 (pc' := 6) rfl ?_
  refine WG.aload_n (pc' := 7) dX6_three_6 rfl rfl ?_
  refine WG.iload_n (pc' := 8) dX6_three_7 rfl rfl ?_
  refine WG.callVd (c_X6_y hL ha) m_X6_211 b_X6_y rfl rfl rfl (zrk_of rfl) rfl (Nat.le_of_ble_eq_true rfl) dX6_three_8 (pc' := 11) rfl ?_
  refine WG.aload_n (pc' := 12) dX6_three_11 rfl rfl ?_
  refine WG.iload_n (pc' := 13) dX6_three_12 rfl rfl ?_
  refine WG.callVd (c_X6_x hL hb) m_X6_208 b_X6_x rfl rfl rfl (zrk_of rfl) rfl (Nat.le_of_ble_eq_true rfl) dX6_three_13 (pc' := 16) rfl ?_
  refine WG.aload_n (pc' := 17) dX6_three_16 rfl rfl ?_
  refine WG.iload_n (pc' := 18) dX6_three_17 rfl rfl ?_
  refine WG.callVd (c_X6_y hL hb) m_X6_211 b_X6_y rfl rfl rfl (zrk_of rfl) rfl (Nat.le_of_ble_eq_true rfl) dX6_three_18 (pc' := 21) rfl ?_
  refine WG.aload_n (pc' := 22) dX6_three_21 rfl rfl ?_
  refine WG.iload_n (pc' := 23) dX6_three_22 rfl rfl ?_
  refine zcallW (c_X6_x hL hc) m_X6_208 b_X6_x rfl rfl rfl ⟨rfl, rfl, ⟨Nat.le_of_ble_eq_true rfl, Nat.le_of_ble_eq_true rfl⟩, ⟨Nat.le_of_ble_eq_true rfl, Nat.le_of_ble_eq_true rfl⟩⟩ rfl (Nat.le_of_ble_eq_true rfl) dX6_three_23 (pc' := 26) rfl ?_
  refine WG.aload_n (pc' := 27) dX6_three_26 rfl rfl ?_
  refine WG.iload_n (pc' := 28) dX6_three_27 rfl rfl ?_
  refine zcallW (c_X6_y hL hc) m_X6_211 b_X6_y rfl rfl rfl ⟨rfl, rfl, ⟨Nat.le_of_ble_eq_true rfl, Nat.le_of_ble_eq_true rfl⟩, ⟨Nat.le_of_ble_eq_true rfl, Nat.le_of_ble_eq_true rfl⟩⟩ rfl (Nat.le_of_ble_eq_true rfl) dX6_three_28 (pc' := 31) rfl ?_
  refine WG.callVd (c_X6_cross _ _ _ _ _ _ _) m_X6_214 b_X6_cross rfl rfl rfl (zrk_of rfl) rfl (Nat.le_of_ble_eq_true rfl) dX6_three_31 (pc' := 34) rfl ?_
  refine WG.lreturn dX6_three_34 rfl ?_
  exact ⟨rfl, rfl⟩
set_option maxHeartbeats 4000000 in
set_option maxRecDepth 100000 in
theorem c_X6_sign (h : zH) (x : Int64) : K_X6_sign [.long x] h (zD (some (.int (zsgn x))) h) := by
  refine CT.of rfl rfl (Nat.le_of_ble_eq_true rfl) rfl ?_
  refine WG.lload_n (pc' := 1) dX6_sign_0 rfl rfl ?_
  refine WG.lconst (v := 0) (pc' := 2) dX6_sign_1 rfl rfl ?_
  refine WG.lif_le (tgt := 10) (pc1 := 3) (pc' := 6) dX6_sign_2 rfl dX6_sign_3 rfl (by decide) (fun c_3 => ?_) (fun c_3 => ?_)
  · refine WG.lload_n (pc' := 11) dX6_sign_10 rfl rfl ?_
    refine WG.lconst (v := 0) (pc' := 12) dX6_sign_11 rfl rfl ?_
    refine WG.lif_ge (tgt := 20) (pc1 := 13) (pc' := 16) dX6_sign_12 rfl dX6_sign_13 rfl (by decide) (fun c_13 => ?_) (fun c_13 => ?_)
    · refine WG.iconst (v := 0) (pc' := 21) dX6_sign_20 rfl rfl ?_
      refine WG.ireturn dX6_sign_21 rfl (by first | rfl | decide) ?_
      exact ⟨by unfold zsgn; grind, rfl⟩
    · refine WG.iconst (v := -1) (pc' := 17) dX6_sign_16 rfl rfl ?_
      refine WG.goto (tgt := 21) dX6_sign_17 (by decide) ?_
      refine WG.ireturn dX6_sign_21 rfl (by first | rfl | decide) ?_
      exact ⟨by unfold zsgn; grind, rfl⟩
  · refine WG.iconst (v := 1) (pc' := 7) dX6_sign_6 rfl rfl ?_
    refine WG.goto (tgt := 21) dX6_sign_7 (by decide) ?_
    refine WG.ireturn dX6_sign_21 rfl (by first | rfl | decide) ?_
    exact ⟨by unfold zsgn; grind, rfl⟩
set_option maxHeartbeats 4000000 in
set_option maxRecDepth 100000 in
theorem c_X6_isBetween (h : zH) (v a b : Int64) : K_X6_isBetween [.long v, .long a, .long b] h (zD (some (.int (zb ((if b < a then b else a) ≤ v ∧ v ≤ (if b < a then a else b))))) h) := by
  refine CT.of rfl rfl (Nat.le_of_ble_eq_true rfl) rfl ?_
  refine WG.lload_n (pc' := 1) dX6_isBetween_0 rfl rfl ?_
  refine WG.lload_n (pc' := 2) dX6_isBetween_1 rfl rfl ?_
  refine WG.lload (pc' := 4) dX6_isBetween_2 rfl rfl ?_
  refine WG.mminL m_X6_227 (pc' := 7) dX6_isBetween_4 rfl (Nat.le_of_ble_eq_true rfl) (Nat.le_of_ble_eq_true rfl) (Nat.le_of_ble_eq_true rfl) (Nat.le_of_ble_eq_true rfl) ?_
  refine WG.lif_lt (tgt := 26) (pc1 := 8) (pc' := 11) dX6_isBetween_7 rfl dX6_isBetween_8 rfl (by decide) (fun c_8 => ?_) (fun c_8 => ?_)
  · refine WG.iconst (v := 0) (pc' := 27) dX6_isBetween_26 rfl rfl ?_
    refine WG.ireturn dX6_isBetween_27 rfl (by first | rfl | decide) ?_
    exact ⟨by first | (rw [zb_t (by grind)]; done) | (rw [zb_f (by grind)]; done), rfl⟩
  · refine WG.lload_n (pc' := 12) dX6_isBetween_11 rfl rfl ?_
    refine WG.lload_n (pc' := 13) dX6_isBetween_12 rfl rfl ?_
    refine WG.lload (pc' := 15) dX6_isBetween_13 rfl rfl ?_
    refine WG.mmaxL m_X6_230 (pc' := 18) dX6_isBetween_15 rfl (Nat.le_of_ble_eq_true rfl) (Nat.le_of_ble_eq_true rfl) (Nat.le_of_ble_eq_true rfl) (Nat.le_of_ble_eq_true rfl) ?_
    refine WG.lif_gt (tgt := 26) (pc1 := 19) (pc' := 22) dX6_isBetween_18 rfl dX6_isBetween_19 rfl (by decide) (fun c_19 => ?_) (fun c_19 => ?_)
    · refine WG.iconst (v := 0) (pc' := 27) dX6_isBetween_26 rfl rfl ?_
      refine WG.ireturn dX6_isBetween_27 rfl (by first | rfl | decide) ?_
      exact ⟨by first | (rw [zb_t (by grind)]; done) | (rw [zb_f (by grind)]; done), rfl⟩
    · refine WG.iconst (v := 1) (pc' := 23) dX6_isBetween_22 rfl rfl ?_
      refine WG.goto (tgt := 27) dX6_isBetween_23 (by decide) ?_
      refine WG.ireturn dX6_isBetween_27 rfl (by first | rfl | decide) ?_
      exact ⟨by first | (rw [zb_t (by grind)]; done) | (rw [zb_f (by grind)]; done), rfl⟩
set_option maxHeartbeats 4000000 in
set_option maxRecDepth 100000 in
theorem c_X6_isOn (hL : RCm n w ux uy px py h) {a b c : Nat} (ha : a < n) (hb : b < n) (hc : c < n) : K_X6_isOn [.ref 86, .int (nI c), .int (nI a), .int (nI b)] h (zD (some (.int (zb (zlf px py a b c = 0 ∧ zbw px py a b c)))) h) := by
  refine CT.of rfl rfl (Nat.le_of_ble_eq_true rfl) rfl ?_
  refine WG.aload_n (pc' := 1) dX6_isOn_0 rfl rfl ?_
  refine WG.iload_n (pc' := 2) dX6_isOn_1 rfl rfl ?_
  refine WG.iload_n (pc' := 3) dX6_isOn_2 rfl rfl ?_
  refine WG.iload_n (pc' := 4) dX6_isOn_3 rfl rfl ?_
  refine WG.callVd (c_X6_three hL ha hb hc) m_X6_232 b_X6_three rfl rfl rfl (zrk_of rfl) rfl (Nat.le_of_ble_eq_true rfl) dX6_isOn_4 (pc' := 7) rfl ?_
  refine WG.lconst (v := 0) (pc' := 8) dX6_isOn_7 rfl rfl ?_
  refine WG.lif_ne (tgt := 58) (pc1 := 9) (pc' := 12) dX6_isOn_8 rfl dX6_isOn_9 rfl (by decide) (fun c_9 => ?_) (fun c_9 => ?_)
  · refine WG.iconst (v := 0) (pc' := 59) dX6_isOn_58 rfl rfl ?_
    refine WG.ireturn dX6_isOn_59 rfl (by first | rfl | decide) ?_
    exact ⟨by first | (rw [zb_t (by clear hL; unfold zbw; grind)]; done) | (rw [zb_f (by clear hL; unfold zbw; grind)]; done), rfl⟩
  · refine WG.aload_n (pc' := 13) dX6_isOn_12 rfl rfl ?_
    refine WG.iload_n (pc' := 14) dX6_isOn_13 rfl rfl ?_
    refine WG.callVd (c_X6_x hL hc) m_X6_208 b_X6_x rfl rfl rfl (zrk_of rfl) rfl (Nat.le_of_ble_eq_true rfl) dX6_isOn_14 (pc' := 17) rfl ?_
    refine WG.aload_n (pc' := 18) dX6_isOn_17 rfl rfl ?_
    refine WG.iload_n (pc' := 19) dX6_isOn_18 rfl rfl ?_
    refine WG.callVd (c_X6_x hL ha) m_X6_208 b_X6_x rfl rfl rfl (zrk_of rfl) rfl (Nat.le_of_ble_eq_true rfl) dX6_isOn_19 (pc' := 22) rfl ?_
    refine WG.aload_n (pc' := 23) dX6_isOn_22 rfl rfl ?_
    refine WG.iload_n (pc' := 24) dX6_isOn_23 rfl rfl ?_
    refine WG.callVd (c_X6_x hL hb) m_X6_208 b_X6_x rfl rfl rfl (zrk_of rfl) rfl (Nat.le_of_ble_eq_true rfl) dX6_isOn_24 (pc' := 27) rfl ?_
    refine WG.callSd (c_X6_isBetween _ _ _ _) m_X6_236 b_X6_isBetween rfl (zrk_of rfl) rfl (Nat.le_of_ble_eq_true rfl) dX6_isOn_27 (pc' := 30) rfl ?_
    refine WG.if_eq (tgt := 58) (pc' := 33) dX6_isOn_30 rfl (by decide) (fun c_30 => ?_) (fun c_30 => ?_)
    · rw [zb_eq] at c_30
      refine WG.iconst (v := 0) (pc' := 59) dX6_isOn_58 rfl rfl ?_
      refine WG.ireturn dX6_isOn_59 rfl (by first | rfl | decide) ?_
      exact ⟨by first | (rw [zb_t (by clear hL; unfold zbw; grind)]; done) | (rw [zb_f (by clear hL; unfold zbw; grind)]; done), rfl⟩
    · rw [zb_nn] at c_30
      refine WG.aload_n (pc' := 34) dX6_isOn_33 rfl rfl ?_
      refine WG.iload_n (pc' := 35) dX6_isOn_34 rfl rfl ?_
      refine WG.callVd (c_X6_y hL hc) m_X6_211 b_X6_y rfl rfl rfl (zrk_of rfl) rfl (Nat.le_of_ble_eq_true rfl) dX6_isOn_35 (pc' := 38) rfl ?_
      refine WG.aload_n (pc' := 39) dX6_isOn_38 rfl rfl ?_
      refine WG.iload_n (pc' := 40) dX6_isOn_39 rfl rfl ?_
      refine WG.callVd (c_X6_y hL ha) m_X6_211 b_X6_y rfl rfl rfl (zrk_of rfl) rfl (Nat.le_of_ble_eq_true rfl) dX6_isOn_40 (pc' := 43) rfl ?_
      refine WG.aload_n (pc' := 44) dX6_isOn_43 rfl rfl ?_
      refine WG.iload_n (pc' := 45) dX6_isOn_44 rfl rfl ?_
      refine WG.callVd (c_X6_y hL hb) m_X6_211 b_X6_y rfl rfl rfl (zrk_of rfl) rfl (Nat.le_of_ble_eq_true rfl) dX6_isOn_45 (pc' := 48) rfl ?_
      refine WG.callSd (c_X6_isBetween _ _ _ _) m_X6_236 b_X6_isBetween rfl (zrk_of rfl) rfl (Nat.le_of_ble_eq_true rfl) dX6_isOn_48 (pc' := 51) rfl ?_
      refine WG.if_eq (tgt := 58) (pc' := 54) dX6_isOn_51 rfl (by decide) (fun c_51 => ?_) (fun c_51 => ?_)
      · rw [zb_eq] at c_51
        refine WG.iconst (v := 0) (pc' := 59) dX6_isOn_58 rfl rfl ?_
        refine WG.ireturn dX6_isOn_59 rfl (by first | rfl | decide) ?_
        exact ⟨by first | (rw [zb_t (by clear hL; unfold zbw; grind)]; done) | (rw [zb_f (by clear hL; unfold zbw; grind)]; done), rfl⟩
      · rw [zb_nn] at c_51
        refine WG.iconst (v := 1) (pc' := 55) dX6_isOn_54 rfl rfl ?_
        refine WG.goto (tgt := 59) dX6_isOn_55 (by decide) ?_
        refine WG.ireturn dX6_isOn_59 rfl (by first | rfl | decide) ?_
        exact ⟨by first | (rw [zb_t (by clear hL; unfold zbw; grind)]; done) | (rw [zb_f (by clear hL; unfold zbw; grind)]; done), rfl⟩
set_option maxHeartbeats 4000000 in
set_option maxRecDepth 100000 in
theorem c_X6_isSamePoint (hL : RCm n w ux uy px py h) {a b : Nat} (ha : a < n) (hb : b < n) : K_X6_isSamePoint [.ref 86, .int (nI a), .int (nI b)] h (zD (some (.int (zb (zsm px py a b)))) h) := by
  refine CT.of rfl rfl (Nat.le_of_ble_eq_true rfl) rfl ?_
  refine WG.aload_n (pc' := 1) dX6_isSamePoint_0 rfl rfl ?_
  refine WG.iload_n (pc' := 2) dX6_isSamePoint_1 rfl rfl ?_
  refine WG.callVd (c_X6_x hL ha) m_X6_208 b_X6_x rfl rfl rfl (zrk_of rfl) rfl (Nat.le_of_ble_eq_true rfl) dX6_isSamePoint_2 (pc' := 5) rfl ?_
  refine WG.aload_n (pc' := 6) dX6_isSamePoint_5 rfl rfl ?_
  refine WG.iload_n (pc' := 7) dX6_isSamePoint_6 rfl rfl ?_
  refine WG.callVd (c_X6_x hL hb) m_X6_208 b_X6_x rfl rfl rfl (zrk_of rfl) rfl (Nat.le_of_ble_eq_true rfl) dX6_isSamePoint_7 (pc' := 10) rfl ?_
  refine WG.lif_ne (tgt := 32) (pc1 := 11) (pc' := 14) dX6_isSamePoint_10 rfl dX6_isSamePoint_11 rfl (by decide) (fun c_11 => ?_) (fun c_11 => ?_)
  · refine WG.iconst (v := 0) (pc' := 33) dX6_isSamePoint_32 rfl rfl ?_
    refine WG.ireturn dX6_isSamePoint_33 rfl (by first | rfl | decide) ?_
    exact ⟨by first | (rw [zb_t (by clear hL; unfold zsm; grind)]; done) | (rw [zb_f (by clear hL; unfold zsm; grind)]; done), rfl⟩
  · refine WG.aload_n (pc' := 15) dX6_isSamePoint_14 rfl rfl ?_
    refine WG.iload_n (pc' := 16) dX6_isSamePoint_15 rfl rfl ?_
    refine WG.callVd (c_X6_y hL ha) m_X6_211 b_X6_y rfl rfl rfl (zrk_of rfl) rfl (Nat.le_of_ble_eq_true rfl) dX6_isSamePoint_16 (pc' := 19) rfl ?_
    refine WG.aload_n (pc' := 20) dX6_isSamePoint_19 rfl rfl ?_
    refine WG.iload_n (pc' := 21) dX6_isSamePoint_20 rfl rfl ?_
    refine WG.callVd (c_X6_y hL hb) m_X6_211 b_X6_y rfl rfl rfl (zrk_of rfl) rfl (Nat.le_of_ble_eq_true rfl) dX6_isSamePoint_21 (pc' := 24) rfl ?_
    refine WG.lif_ne (tgt := 32) (pc1 := 25) (pc' := 28) dX6_isSamePoint_24 rfl dX6_isSamePoint_25 rfl (by decide) (fun c_25 => ?_) (fun c_25 => ?_)
    · refine WG.iconst (v := 0) (pc' := 33) dX6_isSamePoint_32 rfl rfl ?_
      refine WG.ireturn dX6_isSamePoint_33 rfl (by first | rfl | decide) ?_
      exact ⟨by first | (rw [zb_t (by clear hL; unfold zsm; grind)]; done) | (rw [zb_f (by clear hL; unfold zsm; grind)]; done), rfl⟩
    · refine WG.iconst (v := 1) (pc' := 29) dX6_isSamePoint_28 rfl rfl ?_
      refine WG.goto (tgt := 33) dX6_isSamePoint_29 (by decide) ?_
      refine WG.ireturn dX6_isSamePoint_33 rfl (by first | rfl | decide) ?_
      exact ⟨by first | (rw [zb_t (by clear hL; unfold zsm; grind)]; done) | (rw [zb_f (by clear hL; unfold zsm; grind)]; done), rfl⟩
set_option maxHeartbeats 4000000 in
set_option maxRecDepth 100000 in
theorem c_X6_areNeighbours (hG : RG 88 0 n f h) {a b : Nat} (ha : a < n) (hb : b < n) : K_X6_areNeighbours [.ref 86, .int (nI a), .int (nI b)] h (zD (some (.int (zb (znb n a b)))) h) := by
  have hn := hG.1
  have r1 := zro_lt ha
  have r2 := zro_lt hb
  refine CT.of rfl rfl (Nat.le_of_ble_eq_true rfl) rfl ?_
  refine WG.aload_n (pc' := 1) dX6_areNeighbours_0 rfl rfl ?_
  refine WG.iload_n (pc' := 2) dX6_areNeighbours_1 rfl rfl ?_
  refine WG.callVd (c_X6_next hG ha) m_X6_220 b_X6_next rfl rfl rfl (zrk_of rfl) rfl (Nat.le_of_ble_eq_true rfl) dX6_areNeighbours_2 (pc' := 5) rfl ?_
  refine WG.iload_n (pc' := 6) dX6_areNeighbours_5 rfl rfl ?_
  refine WG.icmp_eq (tgt := 18) (pc' := 9) dX6_areNeighbours_6 rfl (by decide) (fun c_6 => ?_) (fun c_6 => ?_)
  · have c6 := (nI_eq (by omega) (by omega)).mp c_6
    refine WG.iconst (v := 1) (pc' := 19) dX6_areNeighbours_18 rfl rfl ?_
    refine WG.goto (tgt := 23) dX6_areNeighbours_19 (by decide) ?_
    refine WG.ireturn dX6_areNeighbours_23 rfl (by first | rfl | decide) ?_
    exact ⟨by first | (rw [zb_t (by clear hG; unfold znb; grind)]; done) | (rw [zb_f (by clear hG; unfold znb; grind)]; done), rfl⟩
  · have c6 := mt (nI_eq (by omega) (by omega)).mpr c_6
    refine WG.aload_n (pc' := 10) dX6_areNeighbours_9 rfl rfl ?_
    refine WG.iload_n (pc' := 11) dX6_areNeighbours_10 rfl rfl ?_
    refine WG.callVd (c_X6_next hG hb) m_X6_220 b_X6_next rfl rfl rfl (zrk_of rfl) rfl (Nat.le_of_ble_eq_true rfl) dX6_areNeighbours_11 (pc' := 14) rfl ?_
    refine WG.iload_n (pc' := 15) dX6_areNeighbours_14 rfl rfl ?_
    refine WG.icmp_ne (tgt := 22) (pc' := 18) dX6_areNeighbours_15 rfl (by decide) (fun c_15 => ?_) (fun c_15 => ?_)
    · have c15 := mt (nI_eq (by omega) (by omega)).mpr c_15
      refine WG.iconst (v := 0) (pc' := 23) dX6_areNeighbours_22 rfl rfl ?_
      refine WG.ireturn dX6_areNeighbours_23 rfl (by first | rfl | decide) ?_
      exact ⟨by first | (rw [zb_t (by clear hG; unfold znb; grind)]; done) | (rw [zb_f (by clear hG; unfold znb; grind)]; done), rfl⟩
    · have c15 := (nI_eq (by omega) (by omega)).mp c_15
      refine WG.iconst (v := 1) (pc' := 19) dX6_areNeighbours_18 rfl rfl ?_
      refine WG.goto (tgt := 23) dX6_areNeighbours_19 (by decide) ?_
      refine WG.ireturn dX6_areNeighbours_23 rfl (by first | rfl | decide) ?_
      exact ⟨by first | (rw [zb_t (by clear hG; unfold znb; grind)]; done) | (rw [zb_f (by clear hG; unfold znb; grind)]; done), rfl⟩
set_option maxHeartbeats 4000000 in
set_option maxRecDepth 100000 in
theorem c_X6_doCross (hG : RG 88 0 n f h) (hL : RCm n w ux uy px py h) {a b : Nat} (ha : a < n) (hb : b < n) : K_X6_doCross [.ref 86, .int (nI a), .int (nI b)] h (zD (some (.int (zb (zmt n px py a b)))) h) := by
  have hn := hG.1
  have hp := zro_lt ha
  have hq := zro_lt hb
  have cra := c_X6_next hG ha
  have crb := c_X6_next hG hb
  refine CT.of rfl rfl (Nat.le_of_ble_eq_true rfl) rfl ?_
  unfold zmt
  generalize zro n (a + 1) = p at hp cra ⊢
  generalize zro n (b + 1) = q at hq crb ⊢
  refine WG.aload_n (pc' := 1) dX6_doCross_0 rfl rfl ?_
  refine WG.iload_n (pc' := 2) dX6_doCross_1 rfl rfl ?_
  refine WG.callVd (cra) m_X6_220 b_X6_next rfl rfl rfl (zrk_of rfl) rfl (Nat.le_of_ble_eq_true rfl) dX6_doCross_2 (pc' := 5) rfl ?_
  refine WG.istore_n (L' := [_, _, _, _, _]) (pc' := 6) dX6_doCross_5 rfl (by decide) rfl ?_
  refine WG.aload_n (pc' := 7) dX6_doCross_6 rfl rfl ?_
  refine WG.iload_n (pc' := 8) dX6_doCross_7 rfl rfl ?_
  refine WG.callVd (crb) m_X6_220 b_X6_next rfl rfl rfl (zrk_of rfl) rfl (Nat.le_of_ble_eq_true rfl) dX6_doCross_8 (pc' := 11) rfl ?_
  refine WG.istore (L' := [_, _, _, _, _]) (pc' := 13) dX6_doCross_11 rfl (by decide) rfl ?_
  refine WG.aload_n (pc' := 14) dX6_doCross_13 rfl rfl ?_
  refine WG.iload_n (pc' := 15) dX6_doCross_14 rfl rfl ?_
  refine WG.iload_n (pc' := 16) dX6_doCross_15 rfl rfl ?_
  refine WG.iload_n (pc' := 17) dX6_doCross_16 rfl rfl ?_
  refine WG.callVd (c_X6_isOn hL ha hp hb) m_X6_239 b_X6_isOn rfl rfl rfl (zrk_of rfl) rfl (Nat.le_of_ble_eq_true rfl) dX6_doCross_17 (pc' := 20) rfl ?_
  refine WG.if_ne (tgt := 56) (pc' := 23) dX6_doCross_20 rfl (by decide) (fun c_20 => ?_) (fun c_20 => ?_)
  · rw [zb_ne] at c_20
    refine WG.iconst (v := 1) (pc' := 57) dX6_doCross_56 rfl rfl ?_
    refine WG.ireturn dX6_doCross_57 rfl (by first | rfl | decide) ?_
    exact ⟨by first | (rw [zb_t (by clear hG hL cra crb; unfold zmtp zps; grind)]; done) | (rw [zb_f (by clear hG hL cra crb; unfold zmtp zps; grind)]; done), rfl⟩
  · rw [zb_eq] at c_20
    refine WG.aload_n (pc' := 24) dX6_doCross_23 rfl rfl ?_
    refine WG.iload (pc' := 26) dX6_doCross_24 rfl rfl ?_
    refine WG.iload_n (pc' := 27) dX6_doCross_26 rfl rfl ?_
    refine WG.iload_n (pc' := 28) dX6_doCross_27 rfl rfl ?_
    refine WG.callVd (c_X6_isOn hL ha hp hq) m_X6_239 b_X6_isOn rfl rfl rfl (zrk_of rfl) rfl (Nat.le_of_ble_eq_true rfl) dX6_doCross_28 (pc' := 31) rfl ?_
    refine WG.if_ne (tgt := 56) (pc' := 34) dX6_doCross_31 rfl (by decide) (fun c_31 => ?_) (fun c_31 => ?_)
    · rw [zb_ne] at c_31
      refine WG.iconst (v := 1) (pc' := 57) dX6_doCross_56 rfl rfl ?_
      refine WG.ireturn dX6_doCross_57 rfl (by first | rfl | decide) ?_
      exact ⟨by first | (rw [zb_t (by clear hG hL cra crb; unfold zmtp zps; grind)]; done) | (rw [zb_f (by clear hG hL cra crb; unfold zmtp zps; grind)]; done), rfl⟩
    · rw [zb_eq] at c_31
      refine WG.aload_n (pc' := 35) dX6_doCross_34 rfl rfl ?_
      refine WG.iload_n (pc' := 36) dX6_doCross_35 rfl rfl ?_
      refine WG.iload_n (pc' := 37) dX6_doCross_36 rfl rfl ?_
      refine WG.iload (pc' := 39) dX6_doCross_37 rfl rfl ?_
      refine WG.callVd (c_X6_isOn hL hb hq ha) m_X6_239 b_X6_isOn rfl rfl rfl (zrk_of rfl) rfl (Nat.le_of_ble_eq_true rfl) dX6_doCross_39 (pc' := 42) rfl ?_
      refine WG.if_ne (tgt := 56) (pc' := 45) dX6_doCross_42 rfl (by decide) (fun c_42 => ?_) (fun c_42 => ?_)
      · rw [zb_ne] at c_42
        refine WG.iconst (v := 1) (pc' := 57) dX6_doCross_56 rfl rfl ?_
        refine WG.ireturn dX6_doCross_57 rfl (by first | rfl | decide) ?_
        exact ⟨by first | (rw [zb_t (by clear hG hL cra crb; unfold zmtp zps; grind)]; done) | (rw [zb_f (by clear hG hL cra crb; unfold zmtp zps; grind)]; done), rfl⟩
      · rw [zb_eq] at c_42
        refine WG.aload_n (pc' := 46) dX6_doCross_45 rfl rfl ?_
        refine WG.iload_n (pc' := 47) dX6_doCross_46 rfl rfl ?_
        refine WG.iload_n (pc' := 48) dX6_doCross_47 rfl rfl ?_
        refine WG.iload (pc' := 50) dX6_doCross_48 rfl rfl ?_
        refine WG.callVd (c_X6_isOn hL hb hq hp) m_X6_239 b_X6_isOn rfl rfl rfl (zrk_of rfl) rfl (Nat.le_of_ble_eq_true rfl) dX6_doCross_50 (pc' := 53) rfl ?_
        refine WG.if_eq (tgt := 58) (pc' := 56) dX6_doCross_53 rfl (by decide) (fun c_53 => ?_) (fun c_53 => ?_)
        · rw [zb_eq] at c_53
          refine WG.aload_n (pc' := 59) dX6_doCross_58 rfl rfl ?_
          refine WG.iload_n (pc' := 60) dX6_doCross_59 rfl rfl ?_
          refine WG.iload_n (pc' := 61) dX6_doCross_60 rfl rfl ?_
          refine WG.iload_n (pc' := 62) dX6_doCross_61 rfl rfl ?_
          refine WG.callVd (c_X6_three hL ha hp hb) m_X6_232 b_X6_three rfl rfl rfl (zrk_of rfl) rfl (Nat.le_of_ble_eq_true rfl) dX6_doCross_62 (pc' := 65) rfl ?_
          refine WG.callSd (c_X6_sign h _) m_X6_243 b_X6_sign rfl (zrk_of rfl) rfl (Nat.le_of_ble_eq_true rfl) dX6_doCross_65 (pc' := 68) rfl ?_
          refine WG.aload_n (pc' := 69) dX6_doCross_68 rfl rfl ?_
          refine WG.iload_n (pc' := 70) dX6_doCross_69 rfl rfl ?_
          refine WG.iload_n (pc' := 71) dX6_doCross_70 rfl rfl ?_
          refine WG.iload (pc' := 73) dX6_doCross_71 rfl rfl ?_
          refine WG.callVd (c_X6_three hL ha hp hq) m_X6_232 b_X6_three rfl rfl rfl (zrk_of rfl) rfl (Nat.le_of_ble_eq_true rfl) dX6_doCross_73 (pc' := 76) rfl ?_
          refine WG.callSd (c_X6_sign h _) m_X6_243 b_X6_sign rfl (zrk_of rfl) rfl (Nat.le_of_ble_eq_true rfl) dX6_doCross_76 (pc' := 79) rfl ?_
          refine WG.imul (pc' := 80) dX6_doCross_79 rfl ?_
          refine WG.if_ge (tgt := 113) (pc' := 83) dX6_doCross_80 rfl (by decide) (fun c_80 => ?_) (fun c_80 => ?_)
          · refine WG.iconst (v := 0) (pc' := 114) dX6_doCross_113 rfl rfl ?_
            refine WG.ireturn dX6_doCross_114 rfl (by first | rfl | decide) ?_
            exact ⟨by first | (rw [zb_t (by clear hG hL cra crb; unfold zmtp zps; grind)]; done) | (rw [zb_f (by clear hG hL cra crb; unfold zmtp zps; grind)]; done), rfl⟩
          · refine WG.aload_n (pc' := 84) dX6_doCross_83 rfl rfl ?_
            refine WG.iload_n (pc' := 85) dX6_doCross_84 rfl rfl ?_
            refine WG.iload (pc' := 87) dX6_doCross_85 rfl rfl ?_
            refine WG.iload_n (pc' := 88) dX6_doCross_87 rfl rfl ?_
            refine WG.callVd (c_X6_three hL hb hq ha) m_X6_232 b_X6_three rfl rfl rfl (zrk_of rfl) rfl (Nat.le_of_ble_eq_true rfl) dX6_doCross_88 (pc' := 91) rfl ?_
            refine WG.callSd (c_X6_sign h _) m_X6_243 b_X6_sign rfl (zrk_of rfl) rfl (Nat.le_of_ble_eq_true rfl) dX6_doCross_91 (pc' := 94) rfl ?_
            refine WG.aload_n (pc' := 95) dX6_doCross_94 rfl rfl ?_
            refine WG.iload_n (pc' := 96) dX6_doCross_95 rfl rfl ?_
            refine WG.iload (pc' := 98) dX6_doCross_96 rfl rfl ?_
            refine WG.iload_n (pc' := 99) dX6_doCross_98 rfl rfl ?_
            refine WG.callVd (c_X6_three hL hb hq hp) m_X6_232 b_X6_three rfl rfl rfl (zrk_of rfl) rfl (Nat.le_of_ble_eq_true rfl) dX6_doCross_99 (pc' := 102) rfl ?_
            refine WG.callSd (c_X6_sign h _) m_X6_243 b_X6_sign rfl (zrk_of rfl) rfl (Nat.le_of_ble_eq_true rfl) dX6_doCross_102 (pc' := 105) rfl ?_
            refine WG.imul (pc' := 106) dX6_doCross_105 rfl ?_
            refine WG.if_ge (tgt := 113) (pc' := 109) dX6_doCross_106 rfl (by decide) (fun c_106 => ?_) (fun c_106 => ?_)
            · refine WG.iconst (v := 0) (pc' := 114) dX6_doCross_113 rfl rfl ?_
              refine WG.ireturn dX6_doCross_114 rfl (by first | rfl | decide) ?_
              exact ⟨by first | (rw [zb_t (by clear hG hL cra crb; unfold zmtp zps; grind)]; done) | (rw [zb_f (by clear hG hL cra crb; unfold zmtp zps; grind)]; done), rfl⟩
            · refine WG.iconst (v := 1) (pc' := 110) dX6_doCross_109 rfl rfl ?_
              refine WG.goto (tgt := 114) dX6_doCross_110 (by decide) ?_
              refine WG.ireturn dX6_doCross_114 rfl (by first | rfl | decide) ?_
              exact ⟨by first | (rw [zb_t (by clear hG hL cra crb; unfold zmtp zps; grind)]; done) | (rw [zb_f (by clear hG hL cra crb; unfold zmtp zps; grind)]; done), rfl⟩
        · rw [zb_nn] at c_53
          refine WG.iconst (v := 1) (pc' := 57) dX6_doCross_56 rfl rfl ?_
          refine WG.ireturn dX6_doCross_57 rfl (by first | rfl | decide) ?_
          exact ⟨by first | (rw [zb_t (by clear hG hL cra crb; unfold zmtp zps; grind)]; done) | (rw [zb_f (by clear hG hL cra crb; unfold zmtp zps; grind)]; done), rfl⟩
set_option maxHeartbeats 4000000 in
set_option maxRecDepth 100000 in
theorem c_X6_crossings (hG : RG 88 0 n f h) (hL : RCm n w ux uy px py h) : K_X6_crossings [.ref 86] h (zD (some (.int (zmo n px py n))) h) := by
  have hn := hG.1
  refine CT.of rfl rfl (Nat.le_of_ble_eq_true rfl) rfl ?_
  have loop : ∀ (m a : Nat) (v : Option Value), a ≤ n → n - a < m → W_X6_crossings (zD (some (.int (zmo n px py n))) h) 4 [some (.ref 86), some (.int (zmo n px py a)), some (.int (nI a)), v] [] h := by
    intro m
    induction m with
    | zero => intro a v h1 h2; omega
    | succ m ih =>
      intro a v ha hm
      have inner : ∀ (m2 b : Nat), a < n → b ≤ n → a < b → n - b < m2 → W_X6_crossings (zD (some (.int (zmo n px py n))) h) 16 [some (.ref 86), some (.int (zmo n px py a + zmi n px py a b)), some (.int (nI a)), some (.int (nI b))] [] h := by
        intro m2
        induction m2 with
        | zero => intro b h1 h2 h3 h4; omega
        | succ m2 ih2 =>
          intro b hlt hb hab hm2
          refine WG.iload_n (pc' := 17) dX6_crossings_16 rfl rfl ?_
          refine WG.aload_n (pc' := 18) dX6_crossings_17 rfl rfl ?_
          refine WG.callVd (c_X6_many hG) m_X6_63 b_X6_many rfl rfl rfl (zrk_of rfl) rfl (Nat.le_of_ble_eq_true rfl) dX6_crossings_18 (pc' := 21) rfl ?_
          refine WG.icmp_ge (tgt := 56) (pc' := 24) dX6_crossings_21 rfl (by decide) (fun c_21 => ?_) (fun c_21 => ?_)
          · obtain rfl : b = n := by have := (nI_leI (by omega) (by omega)).mp c_21; omega
            refine WG.iinc1 (L' := [_, _, _, _]) (pc' := 59) dX6_crossings_56 rfl rfl (by decide) rfl ?_
            refine WG.goto (tgt := 4) dX6_crossings_59 (by decide) ?_
            rw [nI_1]
            exact ih (a + 1) _ hlt (by omega)
          · have hbl : b < n := by have := mt (nI_leI (a := n) (b := b) (by omega) (by omega)).mpr c_21; omega
            have e := ih2 (b + 1) hlt hbl (by omega) (by omega)
            rw [nI_succ, show zmi n px py a (b + 1) = zmi n px py a b + zb (¬ znb n a b ∧ zmt n px py a b) by show zmi n px py a b + _ = _; rw [if_pos hab], ← Int32.add_assoc] at e
            refine WG.iload_n (pc' := 25) dX6_crossings_24 rfl rfl ?_
            refine WG.aload_n (pc' := 26) dX6_crossings_25 rfl rfl ?_
            refine WG.iload_n (pc' := 27) dX6_crossings_26 rfl rfl ?_
            refine WG.iload_n (pc' := 28) dX6_crossings_27 rfl rfl ?_
            refine WG.callVd (c_X6_areNeighbours hG hlt hbl) m_X6_247 b_X6_areNeighbours rfl rfl rfl (zrk_of rfl) rfl (Nat.le_of_ble_eq_true rfl) dX6_crossings_28 (pc' := 31) rfl ?_
            refine WG.if_ne (tgt := 47) (pc' := 34) dX6_crossings_31 rfl (by decide) (fun c_31 => ?_) (fun c_31 => ?_)
            · rw [zb_ne] at c_31
              rw [zb_f (fun q => q.1 c_31)] at e
              refine WG.iconst (v := 0) (pc' := 48) dX6_crossings_47 rfl rfl ?_
              refine WG.iadd (pc' := 49) dX6_crossings_48 rfl ?_
              refine WG.istore_n (L' := [_, _, _, _]) (pc' := 50) dX6_crossings_49 rfl (by decide) rfl ?_
              refine WG.iinc1 (L' := [_, _, _, _]) (pc' := 53) dX6_crossings_50 rfl rfl (by decide) rfl ?_
              refine WG.goto (tgt := 16) dX6_crossings_53 (by decide) ?_
              exact e
            · rw [zb_eq] at c_31
              refine WG.aload_n (pc' := 35) dX6_crossings_34 rfl rfl ?_
              refine WG.iload_n (pc' := 36) dX6_crossings_35 rfl rfl ?_
              refine WG.iload_n (pc' := 37) dX6_crossings_36 rfl rfl ?_
              refine WG.callVd (c_X6_doCross hG hL hlt hbl) m_X6_251 b_X6_doCross rfl rfl rfl (zrk_of rfl) rfl (Nat.le_of_ble_eq_true rfl) dX6_crossings_37 (pc' := 40) rfl ?_
              refine WG.if_eq (tgt := 47) (pc' := 43) dX6_crossings_40 rfl (by decide) (fun c_40 => ?_) (fun c_40 => ?_)
              · rw [zb_eq] at c_40
                rw [zb_f (fun q => c_40 q.2)] at e
                refine WG.iconst (v := 0) (pc' := 48) dX6_crossings_47 rfl rfl ?_
                refine WG.iadd (pc' := 49) dX6_crossings_48 rfl ?_
                refine WG.istore_n (L' := [_, _, _, _]) (pc' := 50) dX6_crossings_49 rfl (by decide) rfl ?_
                refine WG.iinc1 (L' := [_, _, _, _]) (pc' := 53) dX6_crossings_50 rfl rfl (by decide) rfl ?_
                refine WG.goto (tgt := 16) dX6_crossings_53 (by decide) ?_
                exact e
              · rw [zb_nn] at c_40
                rw [zb_t ⟨c_31, c_40⟩] at e
                refine WG.iconst (v := 1) (pc' := 44) dX6_crossings_43 rfl rfl ?_
                refine WG.goto (tgt := 48) dX6_crossings_44 (by decide) ?_
                refine WG.iadd (pc' := 49) dX6_crossings_48 rfl ?_
                refine WG.istore_n (L' := [_, _, _, _]) (pc' := 50) dX6_crossings_49 rfl (by decide) rfl ?_
                refine WG.iinc1 (L' := [_, _, _, _]) (pc' := 53) dX6_crossings_50 rfl rfl (by decide) rfl ?_
                refine WG.goto (tgt := 16) dX6_crossings_53 (by decide) ?_
                exact e
      refine WG.iload_n (pc' := 5) dX6_crossings_4 rfl rfl ?_
      refine WG.aload_n (pc' := 6) dX6_crossings_5 rfl rfl ?_
      refine WG.callVd (c_X6_many hG) m_X6_63 b_X6_many rfl rfl rfl (zrk_of rfl) rfl (Nat.le_of_ble_eq_true rfl) dX6_crossings_6 (pc' := 9) rfl ?_
      refine WG.icmp_ge (tgt := 62) (pc' := 12) dX6_crossings_9 rfl (by decide) (fun c_9 => ?_) (fun c_9 => ?_)
      · obtain rfl : a = n := by have := (nI_leI (by omega) (by omega)).mp c_9; omega
        refine WG.iload_n (pc' := 63) dX6_crossings_62 rfl rfl ?_
        refine WG.ireturn dX6_crossings_63 rfl (by first | rfl | decide) ?_
        exact ⟨rfl, rfl⟩
      · have hlt : a < n := by have := mt (nI_leI (a := n) (b := a) (by omega) (by omega)).mpr c_9; omega
        refine WG.iload_n (pc' := 13) dX6_crossings_12 rfl rfl ?_
        refine WG.iconst (v := 1) (pc' := 14) dX6_crossings_13 rfl rfl ?_
        refine WG.iadd (pc' := 15) dX6_crossings_14 rfl ?_
        refine WG.istore_n (L' := [_, _, _, _]) (pc' := 16) dX6_crossings_15 rfl (by decide) rfl ?_
        have e := inner (n + 1) (a + 1) hlt hlt (by omega) (by omega)
        rw [zmi_0 n px py a (a + 1) (by omega), show zmo n px py a + 0 = zmo n px py a from Int32.add_zero _] at e
        rw [nI_1]
        exact e
  refine WG.iconst (v := 0) (pc' := 1) dX6_crossings_0 rfl rfl ?_
  refine WG.istore_n (L' := [_, _, _, _]) (pc' := 2) dX6_crossings_1 rfl (by decide) rfl ?_
  refine WG.iconst (v := 0) (pc' := 3) dX6_crossings_2 rfl rfl ?_
  refine WG.istore_n (L' := [_, _, _, _]) (pc' := 4) dX6_crossings_3 rfl (by decide) rfl ?_
  exact loop (n + 1) 0 _ (by omega) (by omega)
set_option maxHeartbeats 4000000 in
set_option maxRecDepth 100000 in
theorem c_X6_isFirstThere (hL : RCm n w ux uy px py h) {c : Nat} (hc : c < n) : K_X6_isFirstThere [.ref 86, .int (nI c)] h (zD (some (.int (zb (zfs px py c)))) h) := by
  have hn := hL.1
  refine CT.of rfl rfl (Nat.le_of_ble_eq_true rfl) rfl ?_
  have loop : ∀ (m i : Nat), i ≤ c → c - i < m → (∀ j, j < i → ¬ zsm px py j c) → W_X6_isFirstThere (zD (some (.int (zb (zfs px py c)))) h) 2 [some (.ref 86), some (.int (nI c)), some (.int (nI i))] [] h := by
    intro m
    induction m with
    | zero => intro i h1 h2; omega
    | succ m ih =>
      intro i hi hm hp
      refine WG.iload_n (pc' := 3) dX6_isFirstThere_2 rfl rfl ?_
      refine WG.iload_n (pc' := 4) dX6_isFirstThere_3 rfl rfl ?_
      refine WG.icmp_ge (tgt := 24) (pc' := 7) dX6_isFirstThere_4 rfl (by decide) (fun c_4 => ?_) (fun c_4 => ?_)
      · obtain rfl : i = c := by have := (nI_leI (by omega) (by omega)).mp c_4; omega
        refine WG.iconst (v := 1) (pc' := 25) dX6_isFirstThere_24 rfl rfl ?_
        refine WG.ireturn dX6_isFirstThere_25 rfl (by first | rfl | decide) ?_
        exact ⟨by rw [zb_t (show zfs px py _ from hp)], rfl⟩
      · have hlt : i < c := by have := mt (nI_leI (a := c) (b := i) (by omega) (by omega)).mpr c_4; omega
        refine WG.aload_n (pc' := 8) dX6_isFirstThere_7 rfl rfl ?_
        refine WG.iload_n (pc' := 9) dX6_isFirstThere_8 rfl rfl ?_
        refine WG.iload_n (pc' := 10) dX6_isFirstThere_9 rfl rfl ?_
        refine WG.callVd (c_X6_isSamePoint hL (by omega) hc) m_X6_257 b_X6_isSamePoint rfl rfl rfl (zrk_of rfl) rfl (Nat.le_of_ble_eq_true rfl) dX6_isFirstThere_10 (pc' := 13) rfl ?_
        refine WG.if_eq (tgt := 18) (pc' := 16) dX6_isFirstThere_13 rfl (by decide) (fun c_13 => ?_) (fun c_13 => ?_)
        · rw [zb_eq] at c_13
          refine WG.iinc1 (L' := [_, _, _]) (pc' := 21) dX6_isFirstThere_18 rfl rfl (by decide) rfl ?_
          refine WG.goto (tgt := 2) dX6_isFirstThere_21 (by decide) ?_
          rw [nI_1]
          exact ih (i + 1) hlt (by omega) (fun j hj => by rcases (show j < i ∨ j = i by omega) with q | rfl; exact hp j q; exact c_13)
        · rw [zb_nn] at c_13
          refine WG.iconst (v := 0) (pc' := 17) dX6_isFirstThere_16 rfl rfl ?_
          refine WG.ireturn dX6_isFirstThere_17 rfl (by first | rfl | decide) ?_
          exact ⟨by rw [zb_f (fun q => q i hlt c_13)], rfl⟩
  refine WG.iconst (v := 0) (pc' := 1) dX6_isFirstThere_0 rfl rfl ?_
  refine WG.istore_n (L' := [_, _, _]) (pc' := 2) dX6_isFirstThere_1 rfl (by decide) rfl ?_
  exact loop (n + 1) 0 (by omega) (by omega) (fun j hj => by omega)
def zwi (px py : Nat → Int64) (c a b d : Nat) : Prop := zlf px py a b d ≠ 0 ∧ ((0 ≤ zsgn (zlf px py a b c) ∧ 0 ≤ zsgn (zlf px py b d c) ∧ 0 ≤ zsgn (zlf px py d a c)) ∨ (zsgn (zlf px py a b c) ≤ 0 ∧ zsgn (zlf px py b d c) ≤ 0 ∧ zsgn (zlf px py d a c) ≤ 0))
set_option maxHeartbeats 4000000 in
set_option maxRecDepth 100000 in
theorem c_X6_isWithin (hL : RCm n w ux uy px py h) {a b c d : Nat} (ha : a < n) (hb : b < n) (hc : c < n) (hd : d < n) : K_X6_isWithin [.ref 86, .int (nI c), .int (nI a), .int (nI b), .int (nI d)] h (zD (some (.int (zb (zwi px py c a b d)))) h) := by
  refine CT.of rfl rfl (Nat.le_of_ble_eq_true rfl) rfl ?_
  refine WG.aload_n (pc' := 1) dX6_isWithin_0 rfl rfl ?_
  refine WG.iload_n (pc' := 2) dX6_isWithin_1 rfl rfl ?_
  refine WG.iload_n (pc' := 3) dX6_isWithin_2 rfl rfl ?_
  refine WG.iload (pc' := 5) dX6_isWithin_3 rfl rfl ?_
  refine WG.callVd (c_X6_three hL ha hb hd) m_X6_232 b_X6_three rfl rfl rfl (zrk_of rfl) rfl (Nat.le_of_ble_eq_true rfl) dX6_isWithin_5 (pc' := 8) rfl ?_
  refine WG.lconst (v := 0) (pc' := 9) dX6_isWithin_8 rfl rfl ?_
  refine WG.lif_ne (tgt := 15) (pc1 := 10) (pc' := 13) dX6_isWithin_9 rfl dX6_isWithin_10 rfl (by decide) (fun c_10 => ?_) (fun c_10 => ?_)
  · refine WG.aload_n (pc' := 16) dX6_isWithin_15 rfl rfl ?_
    refine WG.iload_n (pc' := 17) dX6_isWithin_16 rfl rfl ?_
    refine WG.iload_n (pc' := 18) dX6_isWithin_17 rfl rfl ?_
    refine WG.iload_n (pc' := 19) dX6_isWithin_18 rfl rfl ?_
    refine WG.callVd (c_X6_three hL ha hb hc) m_X6_232 b_X6_three rfl rfl rfl (zrk_of rfl) rfl (Nat.le_of_ble_eq_true rfl) dX6_isWithin_19 (pc' := 22) rfl ?_
    refine WG.callSd (c_X6_sign h _) m_X6_243 b_X6_sign rfl (zrk_of rfl) rfl (Nat.le_of_ble_eq_true rfl) dX6_isWithin_22 (pc' := 25) rfl ?_
    refine WG.istore (L' := [_, _, _, _, _, _, _, _]) (pc' := 27) dX6_isWithin_25 rfl (by decide) rfl ?_
    refine WG.aload_n (pc' := 28) dX6_isWithin_27 rfl rfl ?_
    refine WG.iload_n (pc' := 29) dX6_isWithin_28 rfl rfl ?_
    refine WG.iload (pc' := 31) dX6_isWithin_29 rfl rfl ?_
    refine WG.iload_n (pc' := 32) dX6_isWithin_31 rfl rfl ?_
    refine WG.callVd (c_X6_three hL hb hd hc) m_X6_232 b_X6_three rfl rfl rfl (zrk_of rfl) rfl (Nat.le_of_ble_eq_true rfl) dX6_isWithin_32 (pc' := 35) rfl ?_
    refine WG.callSd (c_X6_sign h _) m_X6_243 b_X6_sign rfl (zrk_of rfl) rfl (Nat.le_of_ble_eq_true rfl) dX6_isWithin_35 (pc' := 38) rfl ?_
    refine WG.istore (L' := [_, _, _, _, _, _, _, _]) (pc' := 40) dX6_isWithin_38 rfl (by decide) rfl ?_
    refine WG.aload_n (pc' := 41) dX6_isWithin_40 rfl rfl ?_
    refine WG.iload (pc' := 43) dX6_isWithin_41 rfl rfl ?_
    refine WG.iload_n (pc' := 44) dX6_isWithin_43 rfl rfl ?_
    refine WG.iload_n (pc' := 45) dX6_isWithin_44 rfl rfl ?_
    refine WG.callVd (c_X6_three hL hd ha hc) m_X6_232 b_X6_three rfl rfl rfl (zrk_of rfl) rfl (Nat.le_of_ble_eq_true rfl) dX6_isWithin_45 (pc' := 48) rfl ?_
    refine WG.callSd (c_X6_sign h _) m_X6_243 b_X6_sign rfl (zrk_of rfl) rfl (Nat.le_of_ble_eq_true rfl) dX6_isWithin_48 (pc' := 51) rfl ?_
    refine WG.istore (L' := [_, _, _, _, _, _, _, _]) (pc' := 53) dX6_isWithin_51 rfl (by decide) rfl ?_
    refine WG.iload (pc' := 55) dX6_isWithin_53 rfl rfl ?_
    refine WG.if_lt (tgt := 68) (pc' := 58) dX6_isWithin_55 rfl (by decide) (fun c_55 => ?_) (fun c_55 => ?_)
    · refine WG.iload (pc' := 70) dX6_isWithin_68 rfl rfl ?_
      refine WG.if_gt (tgt := 87) (pc' := 73) dX6_isWithin_70 rfl (by decide) (fun c_70 => ?_) (fun c_70 => ?_)
      · refine WG.iconst (v := 0) (pc' := 88) dX6_isWithin_87 rfl rfl ?_
        refine WG.ireturn dX6_isWithin_88 rfl (by first | rfl | decide) ?_
        exact ⟨by first | (rw [zb_t (by clear hL; unfold zwi; grind)]; done) | (rw [zb_f (by clear hL; unfold zwi; grind)]; done), rfl⟩
      · refine WG.iload (pc' := 75) dX6_isWithin_73 rfl rfl ?_
        refine WG.if_gt (tgt := 87) (pc' := 78) dX6_isWithin_75 rfl (by decide) (fun c_75 => ?_) (fun c_75 => ?_)
        · refine WG.iconst (v := 0) (pc' := 88) dX6_isWithin_87 rfl rfl ?_
          refine WG.ireturn dX6_isWithin_88 rfl (by first | rfl | decide) ?_
          exact ⟨by first | (rw [zb_t (by clear hL; unfold zwi; grind)]; done) | (rw [zb_f (by clear hL; unfold zwi; grind)]; done), rfl⟩
        · refine WG.iload (pc' := 80) dX6_isWithin_78 rfl rfl ?_
          refine WG.if_gt (tgt := 87) (pc' := 83) dX6_isWithin_80 rfl (by decide) (fun c_80 => ?_) (fun c_80 => ?_)
          · refine WG.iconst (v := 0) (pc' := 88) dX6_isWithin_87 rfl rfl ?_
            refine WG.ireturn dX6_isWithin_88 rfl (by first | rfl | decide) ?_
            exact ⟨by first | (rw [zb_t (by clear hL; unfold zwi; grind)]; done) | (rw [zb_f (by clear hL; unfold zwi; grind)]; done), rfl⟩
          · refine WG.iconst (v := 1) (pc' := 84) dX6_isWithin_83 rfl rfl ?_
            refine WG.goto (tgt := 88) dX6_isWithin_84 (by decide) ?_
            refine WG.ireturn dX6_isWithin_88 rfl (by first | rfl | decide) ?_
            exact ⟨by first | (rw [zb_t (by clear hL; unfold zwi; grind)]; done) | (rw [zb_f (by clear hL; unfold zwi; grind)]; done), rfl⟩
    · refine WG.iload (pc' := 60) dX6_isWithin_58 rfl rfl ?_
      refine WG.if_lt (tgt := 68) (pc' := 63) dX6_isWithin_60 rfl (by decide) (fun c_60 => ?_) (fun c_60 => ?_)
      · refine WG.iload (pc' := 70) dX6_isWithin_68 rfl rfl ?_
        refine WG.if_gt (tgt := 87) (pc' := 73) dX6_isWithin_70 rfl (by decide) (fun c_70 => ?_) (fun c_70 => ?_)
        · refine WG.iconst (v := 0) (pc' := 88) dX6_isWithin_87 rfl rfl ?_
          refine WG.ireturn dX6_isWithin_88 rfl (by first | rfl | decide) ?_
          exact ⟨by first | (rw [zb_t (by clear hL; unfold zwi; grind)]; done) | (rw [zb_f (by clear hL; unfold zwi; grind)]; done), rfl⟩
        · refine WG.iload (pc' := 75) dX6_isWithin_73 rfl rfl ?_
          refine WG.if_gt (tgt := 87) (pc' := 78) dX6_isWithin_75 rfl (by decide) (fun c_75 => ?_) (fun c_75 => ?_)
          · refine WG.iconst (v := 0) (pc' := 88) dX6_isWithin_87 rfl rfl ?_
            refine WG.ireturn dX6_isWithin_88 rfl (by first | rfl | decide) ?_
            exact ⟨by first | (rw [zb_t (by clear hL; unfold zwi; grind)]; done) | (rw [zb_f (by clear hL; unfold zwi; grind)]; done), rfl⟩
          · refine WG.iload (pc' := 80) dX6_isWithin_78 rfl rfl ?_
            refine WG.if_gt (tgt := 87) (pc' := 83) dX6_isWithin_80 rfl (by decide) (fun c_80 => ?_) (fun c_80 => ?_)
            · refine WG.iconst (v := 0) (pc' := 88) dX6_isWithin_87 rfl rfl ?_
              refine WG.ireturn dX6_isWithin_88 rfl (by first | rfl | decide) ?_
              exact ⟨by first | (rw [zb_t (by clear hL; unfold zwi; grind)]; done) | (rw [zb_f (by clear hL; unfold zwi; grind)]; done), rfl⟩
            · refine WG.iconst (v := 1) (pc' := 84) dX6_isWithin_83 rfl rfl ?_
              refine WG.goto (tgt := 88) dX6_isWithin_84 (by decide) ?_
              refine WG.ireturn dX6_isWithin_88 rfl (by first | rfl | decide) ?_
              exact ⟨by first | (rw [zb_t (by clear hL; unfold zwi; grind)]; done) | (rw [zb_f (by clear hL; unfold zwi; grind)]; done), rfl⟩
      · refine WG.iload (pc' := 65) dX6_isWithin_63 rfl rfl ?_
        refine WG.if_ge (tgt := 83) (pc' := 68) dX6_isWithin_65 rfl (by decide) (fun c_65 => ?_) (fun c_65 => ?_)
        · refine WG.iconst (v := 1) (pc' := 84) dX6_isWithin_83 rfl rfl ?_
          refine WG.goto (tgt := 88) dX6_isWithin_84 (by decide) ?_
          refine WG.ireturn dX6_isWithin_88 rfl (by first | rfl | decide) ?_
          exact ⟨by first | (rw [zb_t (by clear hL; unfold zwi; grind)]; done) | (rw [zb_f (by clear hL; unfold zwi; grind)]; done), rfl⟩
        · refine WG.iload (pc' := 70) dX6_isWithin_68 rfl rfl ?_
          refine WG.if_gt (tgt := 87) (pc' := 73) dX6_isWithin_70 rfl (by decide) (fun c_70 => ?_) (fun c_70 => ?_)
          · refine WG.iconst (v := 0) (pc' := 88) dX6_isWithin_87 rfl rfl ?_
            refine WG.ireturn dX6_isWithin_88 rfl (by first | rfl | decide) ?_
            exact ⟨by first | (rw [zb_t (by clear hL; unfold zwi; grind)]; done) | (rw [zb_f (by clear hL; unfold zwi; grind)]; done), rfl⟩
          · refine WG.iload (pc' := 75) dX6_isWithin_73 rfl rfl ?_
            refine WG.if_gt (tgt := 87) (pc' := 78) dX6_isWithin_75 rfl (by decide) (fun c_75 => ?_) (fun c_75 => ?_)
            · refine WG.iconst (v := 0) (pc' := 88) dX6_isWithin_87 rfl rfl ?_
              refine WG.ireturn dX6_isWithin_88 rfl (by first | rfl | decide) ?_
              exact ⟨by first | (rw [zb_t (by clear hL; unfold zwi; grind)]; done) | (rw [zb_f (by clear hL; unfold zwi; grind)]; done), rfl⟩
            · refine WG.iload (pc' := 80) dX6_isWithin_78 rfl rfl ?_
              refine WG.if_gt (tgt := 87) (pc' := 83) dX6_isWithin_80 rfl (by decide) (fun c_80 => ?_) (fun c_80 => ?_)
              · refine WG.iconst (v := 0) (pc' := 88) dX6_isWithin_87 rfl rfl ?_
                refine WG.ireturn dX6_isWithin_88 rfl (by first | rfl | decide) ?_
                exact ⟨by first | (rw [zb_t (by clear hL; unfold zwi; grind)]; done) | (rw [zb_f (by clear hL; unfold zwi; grind)]; done), rfl⟩
              · refine WG.iconst (v := 1) (pc' := 84) dX6_isWithin_83 rfl rfl ?_
                refine WG.goto (tgt := 88) dX6_isWithin_84 (by decide) ?_
                refine WG.ireturn dX6_isWithin_88 rfl (by first | rfl | decide) ?_
                exact ⟨by first | (rw [zb_t (by clear hL; unfold zwi; grind)]; done) | (rw [zb_f (by clear hL; unfold zwi; grind)]; done), rfl⟩
  · refine WG.iconst (v := 0) (pc' := 14) dX6_isWithin_13 rfl rfl ?_
    refine WG.ireturn dX6_isWithin_14 rfl (by first | rfl | decide) ?_
    exact ⟨by first | (rw [zb_t (by clear hL; unfold zwi; grind)]; done) | (rw [zb_f (by clear hL; unfold zwi; grind)]; done), rfl⟩
/-- between two others, or among three -/
def zcv2 (px py : Nat → Int64) (c a b : Nat) : Prop := ¬ zsm px py a c ∧ ¬ zsm px py b c ∧ ((zlf px py a b c = 0 ∧ zbw px py a b c) ∨ ∃ d, d < b ∧ ¬ zsm px py d c ∧ zwi px py c a b d)
def zcv (n : Nat) (px py : Nat → Int64) (c : Nat) : Prop := ∃ a, a < n ∧ ∃ b, b < a ∧ zcv2 px py c a b
set_option maxHeartbeats 4000000 in
set_option maxRecDepth 100000 in
theorem c_X6_isCovered (hG : RG 88 0 n f h) (hL : RCm n w ux uy px py h) {c : Nat} (hc : c < n) : K_X6_isCovered [.ref 86, .int (nI c)] h (zD (some (.int (zb (zcv n px py c)))) h) := by
  have hn := hG.1
  refine CT.of rfl rfl (Nat.le_of_ble_eq_true rfl) rfl ?_
  have loop : ∀ (m a : Nat) (v3 v4 : Option Value), a ≤ n → n - a < m → (∀ a', a' < a → ∀ b, b < a' → ¬ zcv2 px py c a' b) → W_X6_isCovered (zD (some (.int (zb (zcv n px py c)))) h) 2 [some (.ref 86), some (.int (nI c)), some (.int (nI a)), v3, v4] [] h := by
    intro m
    induction m with
    | zero => intro a v3 v4 h1 h2; omega
    | succ m ih =>
      intro a v3 v4 ha hm hp
      have loop2 : ∀ (m2 b : Nat) (v4 : Option Value), a < n → b ≤ a → a - b < m2 → (∀ b', b' < b → ¬ zcv2 px py c a b') → W_X6_isCovered (zD (some (.int (zb (zcv n px py c)))) h) 12 [some (.ref 86), some (.int (nI c)), some (.int (nI a)), some (.int (nI b)), v4] [] h := by
        intro m2
        induction m2 with
        | zero => intro b v4 h1 h2 h3; omega
        | succ m2 ih2 =>
          intro b v4 hlt hb hm2 hp2
          have nx : ∀ v4 : Option Value, b < a → ¬ zcv2 px py c a b → W_X6_isCovered (zD (some (.int (zb (zcv n px py c)))) h) 89 [some (.ref 86), some (.int (nI c)), some (.int (nI a)), some (.int (nI b)), v4] [] h := by
            intro v4 hba hno
            refine WG.iinc1 (L' := [_, _, _, _, _]) (pc' := 92) dX6_isCovered_89 rfl rfl (by decide) rfl ?_
            refine WG.goto (tgt := 12) dX6_isCovered_92 (by decide) ?_
            rw [nI_1]
            exact ih2 (b + 1) _ hlt hba (by omega) (fun j hj => by rcases (show j < b ∨ j = b by omega) with q | rfl; exact hp2 j q; exact hno)
          have loop3 : ∀ (m3 d : Nat), b < a → ¬ zsm px py a c → ¬ zsm px py b c → ¬ (zlf px py a b c = 0 ∧ zbw px py a b c) → d ≤ b → b - d < m3 → (∀ d', d' < d → zsm px py d' c ∨ ¬ zwi px py c a b d') → W_X6_isCovered (zD (some (.int (zb (zcv n px py c)))) h) 53 [some (.ref 86), some (.int (nI c)), some (.int (nI a)), some (.int (nI b)), some (.int (nI d))] [] h := by
            intro m3
            induction m3 with
            | zero => intro d h1 h2 h3 h4 h5; omega
            | succ m3 ih3 =>
              intro d hba n1 n2 n3 hd hm3 hp3
              refine WG.iload (pc' := 55) dX6_isCovered_53 rfl rfl ?_
              refine WG.iload_n (pc' := 56) dX6_isCovered_55 rfl rfl ?_
              refine WG.icmp_ge (tgt := 89) (pc' := 59) dX6_isCovered_56 rfl (by decide) (fun c_56 => ?_) (fun c_56 => ?_)
              · obtain rfl : d = b := by have := (nI_leI (by omega) (by omega)).mp c_56; omega
                exact nx _ hba (fun q => by
                  obtain ⟨-, -, q | ⟨d2, q1, q2, q3⟩⟩ := q
                  · exact n3 q
                  · exact (hp3 d2 q1).elim q2 (fun z => z q3))
              · have hdl : d < b := by have := mt (nI_leI (a := b) (b := d) (by omega) (by omega)).mpr c_56; omega
                refine WG.aload_n (pc' := 60) dX6_isCovered_59 rfl rfl ?_
                refine WG.iload (pc' := 62) dX6_isCovered_60 rfl rfl ?_
                refine WG.iload_n (pc' := 63) dX6_isCovered_62 rfl rfl ?_
                refine WG.callVd (c_X6_isSamePoint hL (by omega) hc) m_X6_257 b_X6_isSamePoint rfl rfl rfl (zrk_of rfl) rfl (Nat.le_of_ble_eq_true rfl) dX6_isCovered_63 (pc' := 66) rfl ?_
                refine WG.if_ne (tgt := 83) (pc' := 69) dX6_isCovered_66 rfl (by decide) (fun c_66 => ?_) (fun c_66 => ?_)
                · rw [zb_ne] at c_66
                  have hx : zsm px py d c ∨ ¬ zwi px py c a b d := Or.inl c_66
                  refine WG.iinc1 (L' := [_, _, _, _, _]) (pc' := 86) dX6_isCovered_83 rfl rfl (by decide) rfl ?_
                  refine WG.goto (tgt := 53) dX6_isCovered_86 (by decide) ?_
                  rw [nI_1]
                  exact ih3 (d + 1) hba n1 n2 n3 hdl (by omega) (fun j hj => by rcases (show j < d ∨ j = d by omega) with q | rfl; exact hp3 j q; exact hx)
                · rw [zb_eq] at c_66
                  refine WG.aload_n (pc' := 70) dX6_isCovered_69 rfl rfl ?_
                  refine WG.iload_n (pc' := 71) dX6_isCovered_70 rfl rfl ?_
                  refine WG.iload_n (pc' := 72) dX6_isCovered_71 rfl rfl ?_
                  refine WG.iload_n (pc' := 73) dX6_isCovered_72 rfl rfl ?_
                  refine WG.iload (pc' := 75) dX6_isCovered_73 rfl rfl ?_
                  refine WG.callVd (c_X6_isWithin hL hlt (by omega) hc (by omega)) m_X6_260 b_X6_isWithin rfl rfl rfl (zrk_of rfl) rfl (Nat.le_of_ble_eq_true rfl) dX6_isCovered_75 (pc' := 78) rfl ?_
                  refine WG.if_eq (tgt := 83) (pc' := 81) dX6_isCovered_78 rfl (by decide) (fun c_78 => ?_) (fun c_78 => ?_)
                  · rw [zb_eq] at c_78
                    have hx : zsm px py d c ∨ ¬ zwi px py c a b d := Or.inr c_78
                    refine WG.iinc1 (L' := [_, _, _, _, _]) (pc' := 86) dX6_isCovered_83 rfl rfl (by decide) rfl ?_
                    refine WG.goto (tgt := 53) dX6_isCovered_86 (by decide) ?_
                    rw [nI_1]
                    exact ih3 (d + 1) hba n1 n2 n3 hdl (by omega) (fun j hj => by rcases (show j < d ∨ j = d by omega) with q | rfl; exact hp3 j q; exact hx)
                  · rw [zb_nn] at c_78
                    refine WG.iconst (v := 1) (pc' := 82) dX6_isCovered_81 rfl rfl ?_
                    refine WG.ireturn dX6_isCovered_82 rfl (by first | rfl | decide) ?_
                    exact ⟨by rw [zb_t (show zcv n px py c from ⟨a, hlt, b, hba, n1, n2, Or.inr ⟨d, hdl, c_66, c_78⟩⟩)], rfl⟩
          refine WG.iload_n (pc' := 13) dX6_isCovered_12 rfl rfl ?_
          refine WG.iload_n (pc' := 14) dX6_isCovered_13 rfl rfl ?_
          refine WG.icmp_ge (tgt := 95) (pc' := 17) dX6_isCovered_14 rfl (by decide) (fun c_14 => ?_) (fun c_14 => ?_)
          · obtain rfl : b = a := by have := (nI_leI (by omega) (by omega)).mp c_14; omega
            refine WG.iinc1 (L' := [_, _, _, _, _]) (pc' := 98) dX6_isCovered_95 rfl rfl (by decide) rfl ?_
            refine WG.goto (tgt := 2) dX6_isCovered_98 (by decide) ?_
            rw [nI_1]
            exact ih (b + 1) _ _ hlt (by omega) (fun j hj => by rcases (show j < b ∨ j = b by omega) with q | rfl; exact hp j q; exact hp2)
          · have hba : b < a := by have := mt (nI_leI (a := a) (b := b) (by omega) (by omega)).mpr c_14; omega
            refine WG.aload_n (pc' := 18) dX6_isCovered_17 rfl rfl ?_
            refine WG.iload_n (pc' := 19) dX6_isCovered_18 rfl rfl ?_
            refine WG.iload_n (pc' := 20) dX6_isCovered_19 rfl rfl ?_
            refine WG.callVd (c_X6_isSamePoint hL hlt hc) m_X6_257 b_X6_isSamePoint rfl rfl rfl (zrk_of rfl) rfl (Nat.le_of_ble_eq_true rfl) dX6_isCovered_20 (pc' := 23) rfl ?_
            refine WG.if_ne (tgt := 89) (pc' := 26) dX6_isCovered_23 rfl (by decide) (fun c_23 => ?_) (fun c_23 => ?_)
            · rw [zb_ne] at c_23
              have hno : ¬ zcv2 px py c a b := fun q => q.1 c_23
              exact nx _ hba hno
            · rw [zb_eq] at c_23
              refine WG.aload_n (pc' := 27) dX6_isCovered_26 rfl rfl ?_
              refine WG.iload_n (pc' := 28) dX6_isCovered_27 rfl rfl ?_
              refine WG.iload_n (pc' := 29) dX6_isCovered_28 rfl rfl ?_
              refine WG.callVd (c_X6_isSamePoint hL (by omega) hc) m_X6_257 b_X6_isSamePoint rfl rfl rfl (zrk_of rfl) rfl (Nat.le_of_ble_eq_true rfl) dX6_isCovered_29 (pc' := 32) rfl ?_
              refine WG.if_eq (tgt := 38) (pc' := 35) dX6_isCovered_32 rfl (by decide) (fun c_32 => ?_) (fun c_32 => ?_)
              · rw [zb_eq] at c_32
                refine WG.aload_n (pc' := 39) dX6_isCovered_38 rfl rfl ?_
                refine WG.iload_n (pc' := 40) dX6_isCovered_39 rfl rfl ?_
                refine WG.iload_n (pc' := 41) dX6_isCovered_40 rfl rfl ?_
                refine WG.iload_n (pc' := 42) dX6_isCovered_41 rfl rfl ?_
                refine WG.callVd (c_X6_isOn hL hlt (by omega) hc) m_X6_239 b_X6_isOn rfl rfl rfl (zrk_of rfl) rfl (Nat.le_of_ble_eq_true rfl) dX6_isCovered_42 (pc' := 45) rfl ?_
                refine WG.if_eq (tgt := 50) (pc' := 48) dX6_isCovered_45 rfl (by decide) (fun c_45 => ?_) (fun c_45 => ?_)
                · rw [zb_eq] at c_45
                  refine WG.iconst (v := 0) (pc' := 51) dX6_isCovered_50 rfl rfl ?_
                  refine WG.istore (L' := [_, _, _, _, _]) (pc' := 53) dX6_isCovered_51 rfl (by decide) rfl ?_
                  exact loop3 (b + 1) 0 hba c_23 c_32 c_45 (by omega) (by omega) (fun j hj => by omega)
                · rw [zb_nn] at c_45
                  refine WG.iconst (v := 1) (pc' := 49) dX6_isCovered_48 rfl rfl ?_
                  refine WG.ireturn dX6_isCovered_49 rfl (by first | rfl | decide) ?_
                  exact ⟨by rw [zb_t (show zcv n px py c from ⟨a, hlt, b, hba, c_23, c_32, Or.inl c_45⟩)], rfl⟩
              · rw [zb_nn] at c_32
                have hno : ¬ zcv2 px py c a b := fun q => q.2.1 c_32
                refine WG.goto (tgt := 89) dX6_isCovered_35 (by decide) ?_
                exact nx _ hba hno
      refine WG.iload_n (pc' := 3) dX6_isCovered_2 rfl rfl ?_
      refine WG.aload_n (pc' := 4) dX6_isCovered_3 rfl rfl ?_
      refine WG.callVd (c_X6_many hG) m_X6_63 b_X6_many rfl rfl rfl (zrk_of rfl) rfl (Nat.le_of_ble_eq_true rfl) dX6_isCovered_4 (pc' := 7) rfl ?_
      refine WG.icmp_ge (tgt := 101) (pc' := 10) dX6_isCovered_7 rfl (by decide) (fun c_7 => ?_) (fun c_7 => ?_)
      · obtain rfl : a = n := by have := (nI_leI (by omega) (by omega)).mp c_7; omega
        refine WG.iconst (v := 0) (pc' := 102) dX6_isCovered_101 rfl rfl ?_
        refine WG.ireturn dX6_isCovered_102 rfl (by first | rfl | decide) ?_
        exact ⟨by rw [zb_f (fun q => by obtain ⟨a2, h1, b2, h2, h3⟩ := q; exact hp a2 h1 b2 h2 h3)], rfl⟩
      · have hlt : a < n := by have := mt (nI_leI (a := n) (b := a) (by omega) (by omega)).mpr c_7; omega
        refine WG.iconst (v := 0) (pc' := 11) dX6_isCovered_10 rfl rfl ?_
        refine WG.istore_n (L' := [_, _, _, _, _]) (pc' := 12) dX6_isCovered_11 rfl (by decide) rfl ?_
        exact loop2 (a + 1) 0 _ hlt (by omega) (by omega) (fun j hj => by omega)
  refine WG.iconst (v := 0) (pc' := 1) dX6_isCovered_0 rfl rfl ?_
  refine WG.istore_n (L' := [_, _, _, _, _]) (pc' := 2) dX6_isCovered_1 rfl (by decide) rfl ?_
  exact loop (n + 1) 0 _ _ (by omega) (by omega) (fun j hj => by omega)
noncomputable def zobm (n : Nat) (px py : Nat → Int64) : Nat → Int32
  | 0 => 0
  | i + 1 => @ite Int32 (zfs px py i ∧ ¬ zcv n px py i) (Classical.propDecidable _) (zobm n px py i ||| ((1 : Int32) <<< (nI i &&& 31))) (zobm n px py i)
theorem zor0 (x : Int32) : x ||| 0 = x := Int32.or_zero
set_option maxHeartbeats 4000000 in
set_option maxRecDepth 100000 in
theorem c_X6_outlineBits (hG : RG 88 0 n f h) (hL : RCm n w ux uy px py h) : K_X6_outlineBits [.ref 86] h (zD (some (.int (zobm n px py n))) h) := by
  have hn := hG.1
  refine CT.of rfl rfl (Nat.le_of_ble_eq_true rfl) rfl ?_
  have loop : ∀ (m i : Nat), i ≤ n → n - i < m → W_X6_outlineBits (zD (some (.int (zobm n px py n))) h) 4 [some (.ref 86), some (.int (zobm n px py i)), some (.int (nI i))] [] h := by
    intro m
    induction m with
    | zero => intro i h1 h2; omega
    | succ m ih =>
      intro i hi hm
      refine WG.iload_n (pc' := 5) dX6_outlineBits_4 rfl rfl ?_
      refine WG.aload_n (pc' := 6) dX6_outlineBits_5 rfl rfl ?_
      refine WG.callVd (c_X6_many hG) m_X6_63 b_X6_many rfl rfl rfl (zrk_of rfl) rfl (Nat.le_of_ble_eq_true rfl) dX6_outlineBits_6 (pc' := 9) rfl ?_
      refine WG.icmp_ge (tgt := 44) (pc' := 12) dX6_outlineBits_9 rfl (by decide) (fun c_9 => ?_) (fun c_9 => ?_)
      · obtain rfl : i = n := by have := (nI_leI (by omega) (by omega)).mp c_9; omega
        refine WG.iload_n (pc' := 45) dX6_outlineBits_44 rfl rfl ?_
        refine WG.ireturn dX6_outlineBits_45 rfl (by first | rfl | decide) ?_
        exact ⟨rfl, rfl⟩
      · have hlt : i < n := by have := mt (nI_leI (a := n) (b := i) (by omega) (by omega)).mpr c_9; omega
        have e := ih (i + 1) hlt (by omega)
        rw [nI_succ] at e
        refine WG.iload_n (pc' := 13) dX6_outlineBits_12 rfl rfl ?_
        refine WG.aload_n (pc' := 14) dX6_outlineBits_13 rfl rfl ?_
        refine WG.iload_n (pc' := 15) dX6_outlineBits_14 rfl rfl ?_
        refine WG.callVd (c_X6_isFirstThere hL hlt) m_X6_264 b_X6_isFirstThere rfl rfl rfl (zrk_of rfl) rfl (Nat.le_of_ble_eq_true rfl) dX6_outlineBits_15 (pc' := 18) rfl ?_
        refine WG.if_eq (tgt := 35) (pc' := 21) dX6_outlineBits_18 rfl (by decide) (fun c_18 => ?_) (fun c_18 => ?_)
        · rw [zb_eq] at c_18
          rw [show zobm n px py (i + 1) = zobm n px py i ||| 0 from (if_neg (fun q => c_18 q.1)).trans (zor0 _).symm] at e
          refine WG.iconst (v := 0) (pc' := 36) dX6_outlineBits_35 rfl rfl ?_
          refine WG.ior (pc' := 37) dX6_outlineBits_36 rfl ?_
          refine WG.istore_n (L' := [_, _, _]) (pc' := 38) dX6_outlineBits_37 rfl (by decide) rfl ?_
          refine WG.iinc1 (L' := [_, _, _]) (pc' := 41) dX6_outlineBits_38 rfl rfl (by decide) rfl ?_
          refine WG.goto (tgt := 4) dX6_outlineBits_41 (by decide) ?_
          exact e
        · rw [zb_nn] at c_18
          refine WG.aload_n (pc' := 22) dX6_outlineBits_21 rfl rfl ?_
          refine WG.iload_n (pc' := 23) dX6_outlineBits_22 rfl rfl ?_
          refine WG.callVd (c_X6_isCovered hG hL hlt) m_X6_267 b_X6_isCovered rfl rfl rfl (zrk_of rfl) rfl (Nat.le_of_ble_eq_true rfl) dX6_outlineBits_23 (pc' := 26) rfl ?_
          refine WG.if_ne (tgt := 35) (pc' := 29) dX6_outlineBits_26 rfl (by decide) (fun c_26 => ?_) (fun c_26 => ?_)
          · rw [zb_ne] at c_26
            rw [show zobm n px py (i + 1) = zobm n px py i ||| 0 from (if_neg (fun q => q.2 c_26)).trans (zor0 _).symm] at e
            refine WG.iconst (v := 0) (pc' := 36) dX6_outlineBits_35 rfl rfl ?_
            refine WG.ior (pc' := 37) dX6_outlineBits_36 rfl ?_
            refine WG.istore_n (L' := [_, _, _]) (pc' := 38) dX6_outlineBits_37 rfl (by decide) rfl ?_
            refine WG.iinc1 (L' := [_, _, _]) (pc' := 41) dX6_outlineBits_38 rfl rfl (by decide) rfl ?_
            refine WG.goto (tgt := 4) dX6_outlineBits_41 (by decide) ?_
            exact e
          · rw [zb_eq] at c_26
            rw [show zobm n px py (i + 1) = zobm n px py i ||| ((1 : Int32) <<< (nI i &&& 31)) from if_pos ⟨c_18, c_26⟩] at e
            refine WG.iconst (v := 1) (pc' := 30) dX6_outlineBits_29 rfl rfl ?_
            refine WG.iload_n (pc' := 31) dX6_outlineBits_30 rfl rfl ?_
            refine WG.ishl (pc' := 32) dX6_outlineBits_31 rfl ?_
            refine WG.goto (tgt := 36) dX6_outlineBits_32 (by decide) ?_
            refine WG.ior (pc' := 37) dX6_outlineBits_36 rfl ?_
            refine WG.istore_n (L' := [_, _, _]) (pc' := 38) dX6_outlineBits_37 rfl (by decide) rfl ?_
            refine WG.iinc1 (L' := [_, _, _]) (pc' := 41) dX6_outlineBits_38 rfl rfl (by decide) rfl ?_
            refine WG.goto (tgt := 4) dX6_outlineBits_41 (by decide) ?_
            exact e
  refine WG.iconst (v := 0) (pc' := 1) dX6_outlineBits_0 rfl rfl ?_
  refine WG.istore_n (L' := [_, _, _]) (pc' := 2) dX6_outlineBits_1 rfl (by decide) rfl ?_
  refine WG.iconst (v := 0) (pc' := 3) dX6_outlineBits_2 rfl rfl ?_
  refine WG.istore_n (L' := [_, _, _]) (pc' := 4) dX6_outlineBits_3 rfl (by decide) rfl ?_
  exact loop (n + 1) 0 (by omega) (by omega)
end zMod
