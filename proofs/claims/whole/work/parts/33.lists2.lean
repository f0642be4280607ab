noncomputable def zeP (l : Int32) : Int32 := zes [(¬ zsd 3 l, -1)]
/-- what put answers, and does -/
noncomputable def zvP (z : zls) (i : Int32) : Int32 := match z with
  | none => -11
  | some (_, m, _) => @ite Int32 (zsd m i) (Classical.propDecidable _) 1 (-13)
noncomputable def zuP (z : zls) (i : Int32) (v : Int64) : zls := match z with
  | none => none
  | some (s, m, g) => @ite zls (zsd m i) (Classical.propDecidable _) (some (s, m, zup g i.toNatClampNeg (zcut s v))) (some (s, m, g))
theorem zsL_same (σ : zA) (l : Nat) : zsL σ l (σ.2.2.2.2.2.1 l) = σ := by
  obtain ⟨a, b, c, d, e, L, F⟩ := σ
  unfold zsL
  congr 6
  funext i
  dsimp only
  split
  · rename_i q; rw [q]
  · rfl
set_option maxHeartbeats 4000000 in
set_option maxRecDepth 100000 in
theorem x_put {σ : zA} {h : zH} (hX : RX σ h) (l i : Int32) (v : Int64) : K_X5_put [.ref 0, .int l, .int i, .long v] h (zPi RX zB1 h σ (zeP l) (zvP (σ.2.2.2.2.2.1 l.toNatClampNeg) i) (zsL σ l.toNatClampNeg (zuP (σ.2.2.2.2.2.1 l.toNatClampNeg) i v))) := by
  refine CT.of rfl rfl (Nat.le_of_ble_eq_true rfl) rfl ?_
  by_cases hl : zsd 3 l
  · have he : zeP l = 0 := zes_n hl
    obtain ⟨j, hj, rfl⟩ := zsd_of (by decide) hl
    rw [nI_clamp (show j < 2 ^ 31 by omega)]
    have hR := hX.2.2.2.2.2.1 j hj
    have hr := isR_l hj
    have hsame := zsL_same σ j
    generalize hz : σ.2.2.2.2.2.1 j = z at hR hsame ⊢
    match z, hR, hsame with
    | none, hR, hsame =>
      refine WG.iload_n (pc' := 1) dX5_put_0 rfl rfl ?_
      refine WG.callSd (c_X5_isList h _) m_X5_245 b_X5_isList rfl (zrk_of rfl) rfl (Nat.le_of_ble_eq_true rfl) dX5_put_1 (pc' := 4) rfl ?_
      refine WG.if_ne (tgt := 13) (pc' := 7) dX5_put_4 rfl (by decide) (fun c_4 => ?_) (fun c_4 => ?_)
      · refine WG.aload_n (pc' := 14) dX5_put_13 rfl rfl ?_
        refine WG.getR (r := 78) f_X5_63 (pc' := 17) dX5_put_14 rfl rfl rfl rfl ?_
        refine WG.iload_n (pc' := 18) dX5_put_17 rfl rfl ?_
        refine WG.aaloadN (j := j) (r := 79 + 2 * (j)) (pc' := 19) dX5_put_18 rfl (t := 1) (Or.inr rfl) rfl rfl (by omega) (by decide) rfl ?_
        refine WG.callVd (c_X3_isMissing hR) m_X5_251 b_X3_isMissing (zRo (by assumption)) rfl rfl (zrk_of rfl) rfl (Nat.le_of_ble_eq_true rfl) dX5_put_19 (pc' := 22) rfl ?_
        refine WG.if_eq (tgt := 28) (pc' := 25) dX5_put_22 rfl (by decide) (fun c_22 => ?_) (fun c_22 => ?_)
        · exact absurd rfl (zb_eq.mp c_22)
        · refine WG.bipush (v := -11) (pc' := 27) dX5_put_25 rfl rfl ?_
          refine WG.ireturn dX5_put_27 rfl (by first | rfl | decide) ?_
          exact zok (by show RX (zsL σ j none) h; rw [hsame]; exact hX) zFr.rf he rfl
      · exact absurd hl (zb_eq.mp c_4)
    | some (s, m, g), hR, hsame =>
      have hm := hR.2.1
      by_cases hi : zsd m i
      · have e1 : zvP (some (s, m, g)) i = 1 := if_pos hi
        have e2 : zuP (some (s, m, g)) i v = some (s, m, zup g i.toNatClampNeg (zcut s v)) := if_pos hi
        obtain ⟨k, hk, rfl⟩ := zsd_of (by omega) hi
        rw [nI_clamp (show k < 2 ^ 31 by omega)] at e2
        refine WG.iload_n (pc' := 1) dX5_put_0 rfl rfl ?_
        refine WG.callSd (c_X5_isList h _) m_X5_245 b_X5_isList rfl (zrk_of rfl) rfl (Nat.le_of_ble_eq_true rfl) dX5_put_1 (pc' := 4) rfl ?_
        refine WG.if_ne (tgt := 13) (pc' := 7) dX5_put_4 rfl (by decide) (fun c_4 => ?_) (fun c_4 => ?_)
        · refine WG.aload_n (pc' := 14) dX5_put_13 rfl rfl ?_
          refine WG.getR (r := 78) f_X5_63 (pc' := 17) dX5_put_14 rfl rfl rfl rfl ?_
          refine WG.iload_n (pc' := 18) dX5_put_17 rfl rfl ?_
          refine WG.aaloadN (j := j) (r := 79 + 2 * (j)) (pc' := 19) dX5_put_18 rfl (t := 1) (Or.inr rfl) rfl rfl (by omega) (by decide) rfl ?_
          refine WG.callVd (c_X3_isMissing hR) m_X5_251 b_X3_isMissing (zRo (by assumption)) rfl rfl (zrk_of rfl) rfl (Nat.le_of_ble_eq_true rfl) dX5_put_19 (pc' := 22) rfl ?_
          refine WG.if_eq (tgt := 28) (pc' := 25) dX5_put_22 rfl (by decide) (fun c_22 => ?_) (fun c_22 => ?_)
          · refine WG.aload_n (pc' := 29) dX5_put_28 rfl rfl ?_
            refine WG.getR (r := 78) f_X5_63 (pc' := 32) dX5_put_29 rfl rfl rfl rfl ?_
            refine WG.iload_n (pc' := 33) dX5_put_32 rfl rfl ?_
            refine WG.aaloadN (j := j) (r := 79 + 2 * (j)) (pc' := 34) dX5_put_33 rfl (t := 1) (Or.inr rfl) rfl rfl (by omega) (by decide) rfl ?_
            refine WG.iload_n (pc' := 35) dX5_put_34 rfl rfl ?_
            refine WG.lload_n (pc' := 36) dX5_put_35 rfl rfl ?_
            refine WG.callVd (c_X3_set hR hk) m_X5_255 b_X3_set (zRo (by assumption)) rfl rfl (zrk_of rfl) rfl (Nat.le_of_ble_eq_true rfl) dX5_put_36 (pc' := 39) rfl ?_
            refine WG.if_eq (tgt := 46) (pc' := 42) dX5_put_39 rfl (by decide) (fun c_39 => ?_) (fun c_39 => ?_)
            · exact absurd c_39 (by decide)
            · refine WG.iconst (v := 1) (pc' := 43) dX5_put_42 rfl rfl ?_
              refine WG.goto (tgt := 48) dX5_put_43 (by decide) ?_
              refine WG.ireturn dX5_put_48 rfl (by first | rfl | decide) ?_
              exact zok (by rw [e2]; exact hX.setL hj hR.set (zFr.rf.L ⟨by omega, by omega⟩)) (zFr.rf.L (by show 79 + 2 * j + 1 < 86; omega)) he e1.symm
          · exact absurd (zb_nn.mp c_22) (by simp)
        · exact absurd hl (zb_eq.mp c_4)
      · have e1 : zvP (some (s, m, g)) i = -13 := if_neg hi
        have e2 : zuP (some (s, m, g)) i v = some (s, m, g) := if_neg hi
        refine WG.iload_n (pc' := 1) dX5_put_0 rfl rfl ?_
        refine WG.callSd (c_X5_isList h _) m_X5_245 b_X5_isList rfl (zrk_of rfl) rfl (Nat.le_of_ble_eq_true rfl) dX5_put_1 (pc' := 4) rfl ?_
        refine WG.if_ne (tgt := 13) (pc' := 7) dX5_put_4 rfl (by decide) (fun c_4 => ?_) (fun c_4 => ?_)
        · refine WG.aload_n (pc' := 14) dX5_put_13 rfl rfl ?_
          refine WG.getR (r := 78) f_X5_63 (pc' := 17) dX5_put_14 rfl rfl rfl rfl ?_
          refine WG.iload_n (pc' := 18) dX5_put_17 rfl rfl ?_
          refine WG.aaloadN (j := j) (r := 79 + 2 * (j)) (pc' := 19) dX5_put_18 rfl (t := 1) (Or.inr rfl) rfl rfl (by omega) (by decide) rfl ?_
          refine WG.callVd (c_X3_isMissing hR) m_X5_251 b_X3_isMissing (zRo (by assumption)) rfl rfl (zrk_of rfl) rfl (Nat.le_of_ble_eq_true rfl) dX5_put_19 (pc' := 22) rfl ?_
          refine WG.if_eq (tgt := 28) (pc' := 25) dX5_put_22 rfl (by decide) (fun c_22 => ?_) (fun c_22 => ?_)
          · refine WG.aload_n (pc' := 29) dX5_put_28 rfl rfl ?_
            refine WG.getR (r := 78) f_X5_63 (pc' := 32) dX5_put_29 rfl rfl rfl rfl ?_
            refine WG.iload_n (pc' := 33) dX5_put_32 rfl rfl ?_
            refine WG.aaloadN (j := j) (r := 79 + 2 * (j)) (pc' := 34) dX5_put_33 rfl (t := 1) (Or.inr rfl) rfl rfl (by omega) (by decide) rfl ?_
            refine WG.iload_n (pc' := 35) dX5_put_34 rfl rfl ?_
            refine WG.lload_n (pc' := 36) dX5_put_35 rfl rfl ?_
            refine WG.callVd (c_X3_setNot hR hi) m_X5_255 b_X3_set (zRo (by assumption)) rfl rfl (zrk_of rfl) rfl (Nat.le_of_ble_eq_true rfl) dX5_put_36 (pc' := 39) rfl ?_
            refine WG.if_eq (tgt := 46) (pc' := 42) dX5_put_39 rfl (by decide) (fun c_39 => ?_) (fun c_39 => ?_)
            · refine WG.bipush (v := -13) (pc' := 48) dX5_put_46 rfl rfl ?_
              refine WG.ireturn dX5_put_48 rfl (by first | rfl | decide) ?_
              exact zok (by rw [e2, hsame]; exact hX) zFr.rf he e1.symm
            · exact absurd rfl c_39
          · exact absurd (zb_nn.mp c_22) (by simp)
        · exact absurd hl (zb_eq.mp c_4)
  · skip
    refine WG.iload_n (pc' := 1) dX5_put_0 rfl rfl ?_
    refine WG.callSd (c_X5_isList h l) m_X5_245 b_X5_isList rfl (zrk_of rfl) rfl (Nat.le_of_ble_eq_true rfl) dX5_put_1 (pc' := 4) rfl ?_
    refine WG.if_ne (tgt := 13) (pc' := 7) dX5_put_4 rfl (by decide) (fun c_4 => ?_) (fun c_4 => ?_)
    · exact absurd (zb_ne.mp c_4) hl
    · refine WG.aload_n (pc' := 8) dX5_put_7 rfl rfl ?_
      refine WG.iconst (v := -1) (pc' := 9) dX5_put_8 rfl rfl ?_
      refine WG.callVd (c_X5_refuse 1 (by decide)) m_X5_71 b_X5_refuse rfl rfl rfl (zrk_of rfl) rfl (Nat.le_of_ble_eq_true rfl) dX5_put_9 (pc' := 12) rfl ?_
      refine WG.ireturn dX5_put_12 rfl (by first | rfl | decide) ?_
      exact zrX hX zFr.rf (by decide) (zes_t hl)
set_option maxHeartbeats 4000000 in
set_option maxRecDepth 100000 in
theorem c_X6_lies {h : zH} {l i : Nat} {s : Int32} {v : Int64} (hl : l < 3) (hi : i < 20) (hs : h.1 97 l = s) : K_X6_lies [.ref 86, .int (nI l), .int (nI i), .long v] h (zD none (zL h 99 (20 * l + i) (zcut s v))) := by
  refine CT.of rfl rfl (Nat.le_of_ble_eq_true rfl) rfl ?_
  refine WG.aload_n (pc' := 1) dX6_lies_0 rfl rfl ?_
  refine WG.getR (r := 99) f_X6_57 (pc' := 4) dX6_lies_1 rfl rfl rfl rfl ?_
  refine WG.bipush (v := 20) (pc' := 6) dX6_lies_4 rfl rfl ?_
  refine WG.iload_n (pc' := 7) dX6_lies_6 rfl rfl ?_
  refine WG.imul (pc' := 8) dX6_lies_7 rfl ?_
  refine WG.iload_n (pc' := 9) dX6_lies_8 rfl rfl ?_
  refine WG.iadd (pc' := 10) dX6_lies_9 rfl ?_
  refine WG.aload_n (pc' := 11) dX6_lies_10 rfl rfl ?_
  refine WG.getR (r := 97) f_X6_51 (pc' := 14) dX6_lies_11 rfl rfl rfl rfl ?_
  refine WG.iload_n (pc' := 15) dX6_lies_14 rfl rfl ?_
  refine WG.ialoadN (j := l) (pc' := 16) dX6_lies_15 rfl rfl rfl (by omega) (by first | decide | omega) ?_
  refine WG.iconst (v := 1) (pc' := 17) dX6_lies_16 rfl rfl ?_
  refine WG.icmp_ne (tgt := 26) (pc' := 20) dX6_lies_17 rfl (by decide) (fun c_17 => ?_) (fun c_17 => ?_)
  · refine WG.lload_n (pc' := 27) dX6_lies_26 rfl rfl ?_
    refine WG.lastoreN (j := 20 * l + i) (pc' := 28) dX6_lies_27 rfl rfl (zi20 l i) (by omega) (by first | decide | omega) ?_
    refine WG.vreturn dX6_lies_28 rfl ?_
    exact ⟨rfl, by rw [← hs]; unfold zcut; first | rw [if_pos (by assumption)] | rw [if_neg (by assumption)]⟩
  · refine WG.lload_n (pc' := 21) dX6_lies_20 rfl rfl ?_
    refine WG.l2i (pc' := 22) dX6_lies_21 rfl ?_
    refine WG.i2l (pc' := 23) dX6_lies_22 rfl ?_
    refine WG.goto (tgt := 27) dX6_lies_23 (by decide) ?_
    refine WG.lastoreN (j := 20 * l + i) (pc' := 28) dX6_lies_27 rfl rfl (zi20 l i) (by omega) (by first | decide | omega) ?_
    refine WG.vreturn dX6_lies_28 rfl ?_
    exact ⟨rfl, by rw [← hs]; unfold zcut; first | rw [if_pos (by assumption)] | rw [if_neg (by assumption)]⟩
theorem RQ.set {l m j : Nat} {s : Int32} {v : Int64} {g : Nat → Int64} {h : zH} (hR : RQ l (some (s, m, g)) h) : RQ l (some (s, m, zup g j v)) (zL h 99 (20 * l + j) v) := by
  obtain ⟨r1, r2, r3, r4, r5⟩ := hR
  refine ⟨r1, r2, r3, r4, fun i hi => ?_⟩
  rw [zL_2]
  unfold zup
  by_cases c : i = j
  · rw [if_pos ⟨rfl, by omega⟩, if_pos c]
  · rw [if_neg (by omega), if_neg c]; exact r5 i hi
theorem RM.setI {σ : zA} {l m j : Nat} {s : Int32} {v : Int64} {g : Nat → Int64} {h : zH} (hX : RM σ h) (hR : RQ l (some (s, m, g)) h) (hj : j < 20) : RM (zsL σ l (some (s, m, zup g j v))) (zL h 99 (20 * l + j) v) :=
  hX.setQ hR.set (zFr.rf.L (Or.inr (Or.inr rfl))) (fun _ _ => rfl) (fun _ _ => rfl) (fun a i hi ha => by rw [zL_2, if_neg (by omega)])
theorem zs1n {s : Int32} (hs : s = 0 ∨ s = 1) : 0 ≤ s := by rcases hs with rfl | rfl <;> decide
set_option maxHeartbeats 4000000 in
set_option maxRecDepth 100000 in
theorem m_put {σ : zA} {h : zH} (hX : RM σ h) (l i : Int32) (v : Int64) : K_X6_put [.ref 86, .int l, .int i, .long v] h (zPi RM zB2 h σ (zeP l) (zvP (σ.2.2.2.2.2.1 l.toNatClampNeg) i) (zsL σ l.toNatClampNeg (zuP (σ.2.2.2.2.2.1 l.toNatClampNeg) i v))) := by
  refine CT.of rfl rfl (Nat.le_of_ble_eq_true rfl) rfl ?_
  by_cases hl : zsd 3 l
  · have he : zeP l = 0 := zes_n hl
    obtain ⟨j, hj, rfl⟩ := zsd_of (by decide) hl
    rw [nI_clamp (show j < 2 ^ 31 by omega)]
    have hR := hX.2.2.2.2.2.1 j hj
    have hsame := zsL_same σ j
    generalize hz : σ.2.2.2.2.2.1 j = z at hR hsame ⊢
    match z, hR, hsame with
    | none, hR, hsame =>
      have hR : h.1 97 j = -1 := hR
      refine WG.iload_n (pc' := 1) dX6_put_0 rfl rfl ?_
      refine WG.callSd (c_X6_isList h _) m_X6_308 b_X6_isList rfl (zrk_of rfl) rfl (Nat.le_of_ble_eq_true rfl) dX6_put_1 (pc' := 4) rfl ?_
      refine WG.if_ne (tgt := 13) (pc' := 7) dX6_put_4 rfl (by decide) (fun c_4 => ?_) (fun c_4 => ?_)
      · refine WG.aload_n (pc' := 14) dX6_put_13 rfl rfl ?_
        refine WG.getR (r := 97) f_X6_51 (pc' := 17) dX6_put_14 rfl rfl rfl rfl ?_
        refine WG.iload_n (pc' := 18) dX6_put_17 rfl rfl ?_
        refine WG.ialoadN (j := j) (pc' := 19) dX6_put_18 rfl rfl rfl (by omega) (by first | decide | omega) ?_
        rw [hR]
        refine WG.if_ge (tgt := 25) (pc' := 22) dX6_put_19 rfl (by decide) (fun c_19 => ?_) (fun c_19 => ?_)
        · exact absurd c_19 (by decide)
        · refine WG.bipush (v := -11) (pc' := 24) dX6_put_22 rfl rfl ?_
          refine WG.ireturn dX6_put_24 rfl (by first | rfl | decide) ?_
          exact zok (by show RM (zsL σ j none) h; rw [hsame]; exact hX) zFr.rf he rfl
      · exact absurd hl (zb_eq.mp c_4)
    | some (s, m, g), hR, hsame =>
      have hR0 := hR
      obtain ⟨r1, r2, r3, r4, r5⟩ := hR
      refine WG.iload_n (pc' := 1) dX6_put_0 rfl rfl ?_
      refine WG.callSd (c_X6_isList h _) m_X6_308 b_X6_isList rfl (zrk_of rfl) rfl (Nat.le_of_ble_eq_true rfl) dX6_put_1 (pc' := 4) rfl ?_
      refine WG.if_ne (tgt := 13) (pc' := 7) dX6_put_4 rfl (by decide) (fun c_4 => ?_) (fun c_4 => ?_)
      · refine WG.aload_n (pc' := 14) dX6_put_13 rfl rfl ?_
        refine WG.getR (r := 97) f_X6_51 (pc' := 17) dX6_put_14 rfl rfl rfl rfl ?_
        refine WG.iload_n (pc' := 18) dX6_put_17 rfl rfl ?_
        refine WG.ialoadN (j := j) (pc' := 19) dX6_put_18 rfl rfl rfl (by omega) (by first | decide | omega) ?_
        rw [r3]
        refine WG.if_ge (tgt := 25) (pc' := 22) dX6_put_19 rfl (by decide) (fun c_19 => ?_) (fun c_19 => ?_)
        · refine WG.iload_n (pc' := 26) dX6_put_25 rfl rfl ?_
          refine WG.i2l (pc' := 27) dX6_put_26 rfl ?_
          refine WG.lconst (v := 0) (pc' := 28) dX6_put_27 rfl rfl ?_
          refine WG.aload_n (pc' := 29) dX6_put_28 rfl rfl ?_
          refine WG.getR (r := 98) f_X6_54 (pc' := 32) dX6_put_29 rfl rfl rfl rfl ?_
          refine WG.iload_n (pc' := 33) dX6_put_32 rfl rfl ?_
          refine WG.ialoadN (j := j) (pc' := 34) dX6_put_33 rfl rfl rfl (by omega) (by first | decide | omega) ?_
          rw [r4]
          refine WG.iconst (v := 1) (pc' := 35) dX6_put_34 rfl rfl ?_
          refine WG.isub (pc' := 36) dX6_put_35 rfl ?_
          refine WG.i2l (pc' := 37) dX6_put_36 rfl ?_
          refine WG.callSd (c_X6_in _ _ _ _) m_X6_67 b_X6_in rfl (zrk_of rfl) rfl (Nat.le_of_ble_eq_true rfl) dX6_put_37 (pc' := 40) rfl ?_
          refine WG.if_ne (tgt := 46) (pc' := 43) dX6_put_40 rfl (by decide) (fun c_40 => ?_) (fun c_40 => ?_)
          · rw [zb_ne, zin_iff (by omega)] at c_40
            have e1 : zvP (some (s, m, g)) i = 1 := if_pos c_40
            have e2 : zuP (some (s, m, g)) i v = some (s, m, zup g i.toNatClampNeg (zcut s v)) := if_pos c_40
            obtain ⟨k, hk, rfl⟩ := zsd_of (by omega) c_40
            rw [nI_clamp (show k < 2 ^ 31 by omega)] at e2
            refine WG.aload_n (pc' := 47) dX6_put_46 rfl rfl ?_
            refine WG.iload_n (pc' := 48) dX6_put_47 rfl rfl ?_
            refine WG.iload_n (pc' := 49) dX6_put_48 rfl rfl ?_
            refine WG.lload_n (pc' := 50) dX6_put_49 rfl rfl ?_
            refine WG.callVd (c_X6_lies hj (show k < 20 by omega) r3) m_X6_311 b_X6_lies rfl rfl rfl (zrk_of rfl) rfl (Nat.le_of_ble_eq_true rfl) dX6_put_50 (pc' := 53) rfl ?_
            refine WG.iconst (v := 1) (pc' := 54) dX6_put_53 rfl rfl ?_
            refine WG.ireturn dX6_put_54 rfl (by first | rfl | decide) ?_
            exact zok (by rw [e2]; exact hX.setI hR0 (by omega)) (zFr.rf.L (by show 86 ≤ 99; decide)) he e1.symm
          · rw [zb_eq, zin_iff (by omega)] at c_40
            refine WG.bipush (v := -13) (pc' := 45) dX6_put_43 rfl rfl ?_
            refine WG.ireturn dX6_put_45 rfl (by first | rfl | decide) ?_
            exact zok (by rw [show zuP (some (s, m, g)) i v = some (s, m, g) from if_neg c_40, hsame]; exact hX) zFr.rf he (show (-13 : Int32) = zvP (some (s, m, g)) i from (if_neg c_40).symm)
        · exact absurd (zs1n r2) c_19
      · exact absurd hl (zb_eq.mp c_4)
  · skip
    refine WG.iload_n (pc' := 1) dX6_put_0 rfl rfl ?_
    refine WG.callSd (c_X6_isList h l) m_X6_308 b_X6_isList rfl (zrk_of rfl) rfl (Nat.le_of_ble_eq_true rfl) dX6_put_1 (pc' := 4) rfl ?_
    refine WG.if_ne (tgt := 13) (pc' := 7) dX6_put_4 rfl (by decide) (fun c_4 => ?_) (fun c_4 => ?_)
    · exact absurd (zb_ne.mp c_4) hl
    · refine WG.aload_n (pc' := 8) dX6_put_7 rfl rfl ?_
      refine WG.iconst (v := -1) (pc' := 9) dX6_put_8 rfl rfl ?_
      refine WG.callVd (c_X6_no 1 (by decide)) m_X6_13 b_X6_no rfl rfl rfl (zrk_of rfl) rfl (Nat.le_of_ble_eq_true rfl) dX6_put_9 (pc' := 12) rfl ?_
      refine WG.ireturn dX6_put_12 rfl (by first | rfl | decide) ?_
      exact zrM hX zFr.rf (by decide) (zes_t hl)
noncomputable def zvK (z : zls) (i : Int32) : Int64 := match z with
  | none => 4000000000000000011
  | some (_, m, g) => @ite Int64 (zsd m i) (Classical.propDecidable _) (g i.toNatClampNeg) 4000000000000000013
set_option maxHeartbeats 4000000 in
set_option maxRecDepth 100000 in
theorem x_look {σ : zA} {h : zH} (hX : RX σ h) (l i : Int32) : K_X5_look [.ref 0, .int l, .int i] h (zPl RX zB1 h σ (zeP l) (zvK (σ.2.2.2.2.2.1 l.toNatClampNeg) i)) := by
  refine CT.of rfl rfl (Nat.le_of_ble_eq_true rfl) rfl ?_
  by_cases hl : zsd 3 l
  · have he : zeP l = 0 := zes_n hl
    obtain ⟨j, hj, rfl⟩ := zsd_of (by decide) hl
    rw [nI_clamp (show j < 2 ^ 31 by omega)]
    have hR := hX.2.2.2.2.2.1 j hj
    have hr := isR_l hj
    generalize hz : σ.2.2.2.2.2.1 j = z at hR ⊢
    match z, hR with
    | none, hR =>
      refine WG.iload_n (pc' := 1) dX5_look_0 rfl rfl ?_
      refine WG.callSd (c_X5_isList h _) m_X5_245 b_X5_isList rfl (zrk_of rfl) rfl (Nat.le_of_ble_eq_true rfl) dX5_look_1 (pc' := 4) rfl ?_
      refine WG.if_ne (tgt := 13) (pc' := 7) dX5_look_4 rfl (by decide) (fun c_4 => ?_) (fun c_4 => ?_)
      · refine WG.aload_n (pc' := 14) dX5_look_13 rfl rfl ?_
        refine WG.getR (r := 78) f_X5_63 (pc' := 17) dX5_look_14 rfl rfl rfl rfl ?_
        refine WG.iload_n (pc' := 18) dX5_look_17 rfl rfl ?_
        refine WG.aaloadN (j := j) (r := 79 + 2 * (j)) (pc' := 19) dX5_look_18 rfl (t := 1) (Or.inr rfl) rfl rfl (by omega) (by decide) rfl ?_
        refine WG.astore_n (L' := [_, _, _, _]) (pc' := 20) dX5_look_19 rfl (by decide) rfl ?_
        refine WG.aload_n (pc' := 21) dX5_look_20 rfl rfl ?_
        refine WG.callVd (c_X3_isMissing hR) m_X5_251 b_X3_isMissing (zRo (by assumption)) rfl rfl (zrk_of rfl) rfl (Nat.le_of_ble_eq_true rfl) dX5_look_21 (pc' := 24) rfl ?_
        refine WG.if_eq (tgt := 31) (pc' := 27) dX5_look_24 rfl (by decide) (fun c_24 => ?_) (fun c_24 => ?_)
        · exact absurd rfl (zb_eq.mp c_24)
        · refine WG.ldc2 (pc' := 30) dX5_look_27 rfl k_X5_259 ?_
          refine WG.lreturn dX5_look_30 rfl ?_
          exact zokl hX zFr.rf he rfl
      · exact absurd hl (zb_eq.mp c_4)
    | some (s, m, g), hR =>
      have hm := hR.2.1
      refine WG.iload_n (pc' := 1) dX5_look_0 rfl rfl ?_
      refine WG.callSd (c_X5_isList h _) m_X5_245 b_X5_isList rfl (zrk_of rfl) rfl (Nat.le_of_ble_eq_true rfl) dX5_look_1 (pc' := 4) rfl ?_
      refine WG.if_ne (tgt := 13) (pc' := 7) dX5_look_4 rfl (by decide) (fun c_4 => ?_) (fun c_4 => ?_)
      · refine WG.aload_n (pc' := 14) dX5_look_13 rfl rfl ?_
        refine WG.getR (r := 78) f_X5_63 (pc' := 17) dX5_look_14 rfl rfl rfl rfl ?_
        refine WG.iload_n (pc' := 18) dX5_look_17 rfl rfl ?_
        refine WG.aaloadN (j := j) (r := 79 + 2 * (j)) (pc' := 19) dX5_look_18 rfl (t := 1) (Or.inr rfl) rfl rfl (by omega) (by decide) rfl ?_
        refine WG.astore_n (L' := [_, _, _, _]) (pc' := 20) dX5_look_19 rfl (by decide) rfl ?_
        refine WG.aload_n (pc' := 21) dX5_look_20 rfl rfl ?_
        refine WG.callVd (c_X3_isMissing hR) m_X5_251 b_X3_isMissing (zRo (by assumption)) rfl rfl (zrk_of rfl) rfl (Nat.le_of_ble_eq_true rfl) dX5_look_21 (pc' := 24) rfl ?_
        refine WG.if_eq (tgt := 31) (pc' := 27) dX5_look_24 rfl (by decide) (fun c_24 => ?_) (fun c_24 => ?_)
        · refine WG.aload_n (pc' := 32) dX5_look_31 rfl rfl ?_
          refine WG.iload_n (pc' := 33) dX5_look_32 rfl rfl ?_
          refine WG.callVd (c_X3_has hR) m_X5_261 b_X3_has (zRo (by assumption)) rfl rfl (zrk_of rfl) rfl (Nat.le_of_ble_eq_true rfl) dX5_look_33 (pc' := 36) rfl ?_
          refine WG.if_ne (tgt := 43) (pc' := 39) dX5_look_36 rfl (by decide) (fun c_36 => ?_) (fun c_36 => ?_)
          · rw [zb_ne] at c_36
            have e1 : zvK (some (s, m, g)) i = g i.toNatClampNeg := if_pos c_36
            obtain ⟨k, hk, rfl⟩ := zsd_of (by omega) c_36
            rw [nI_clamp (show k < 2 ^ 31 by omega)] at e1
            refine WG.aload_n (pc' := 44) dX5_look_43 rfl rfl ?_
            refine WG.getR f_X5_264 (pc' := 47) dX5_look_44 rfl (zRo (by assumption)) rfl (zRr (by assumption)) ?_
            refine WG.iload_n (pc' := 48) dX5_look_47 rfl rfl ?_
            refine WG.laloadN (j := k) (pc' := 49) dX5_look_48 rfl (zRa (by assumption)) rfl (by omega) (by first | decide | omega) ?_
            refine WG.lreturn dX5_look_49 rfl ?_
            exact zokl hX zFr.rf he (by rw [e1]; exact hR.2.2.2.2.2 k hk)
          · rw [zb_eq] at c_36
            refine WG.ldc2 (pc' := 42) dX5_look_39 rfl k_X5_262 ?_
            refine WG.lreturn dX5_look_42 rfl ?_
            exact zokl hX zFr.rf he (show (4000000000000000013 : Int64) = zvK (some (s, m, g)) i from (if_neg c_36).symm)
        · exact absurd (zb_nn.mp c_24) (by simp)
      · exact absurd hl (zb_eq.mp c_4)
  · skip
    refine WG.iload_n (pc' := 1) dX5_look_0 rfl rfl ?_
    refine WG.callSd (c_X5_isList h l) m_X5_245 b_X5_isList rfl (zrk_of rfl) rfl (Nat.le_of_ble_eq_true rfl) dX5_look_1 (pc' := 4) rfl ?_
    refine WG.if_ne (tgt := 13) (pc' := 7) dX5_look_4 rfl (by decide) (fun c_4 => ?_) (fun c_4 => ?_)
    · exact absurd (zb_ne.mp c_4) hl
    · refine WG.aload_n (pc' := 8) dX5_look_7 rfl rfl ?_
      refine WG.iconst (v := -1) (pc' := 9) dX5_look_8 rfl rfl ?_
      refine WG.callVd (c_X5_refuseLong 1 (by decide)) m_X5_116 b_X5_refuseLong rfl rfl rfl (zrk_of rfl) rfl (Nat.le_of_ble_eq_true rfl) dX5_look_9 (pc' := 12) rfl ?_
      refine WG.lreturn dX5_look_12 rfl ?_
      exact zrXl hX zFr.rf (by decide) (zes_t hl)
set_option maxHeartbeats 4000000 in
set_option maxRecDepth 100000 in
theorem m_look {σ : zA} {h : zH} (hX : RM σ h) (l i : Int32) : K_X6_look [.ref 86, .int l, .int i] h (zPl RM zB2 h σ (zeP l) (zvK (σ.2.2.2.2.2.1 l.toNatClampNeg) i)) := by
  refine CT.of rfl rfl (Nat.le_of_ble_eq_true rfl) rfl ?_
  by_cases hl : zsd 3 l
  · have he : zeP l = 0 := zes_n hl
    obtain ⟨j, hj, rfl⟩ := zsd_of (by decide) hl
    rw [nI_clamp (show j < 2 ^ 31 by omega)]
    have hR := hX.2.2.2.2.2.1 j hj
    generalize hz : σ.2.2.2.2.2.1 j = z at hR ⊢
    match z, hR with
    | none, hR =>
      have hR : h.1 97 j = -1 := hR
      refine WG.iload_n (pc' := 1) dX6_look_0 rfl rfl ?_
      refine WG.callSd (c_X6_isList h _) m_X6_308 b_X6_isList rfl (zrk_of rfl) rfl (Nat.le_of_ble_eq_true rfl) dX6_look_1 (pc' := 4) rfl ?_
      refine WG.if_ne (tgt := 13) (pc' := 7) dX6_look_4 rfl (by decide) (fun c_4 => ?_) (fun c_4 => ?_)
      · refine WG.aload_n (pc' := 14) dX6_look_13 rfl rfl ?_
        refine WG.getR (r := 97) f_X6_51 (pc' := 17) dX6_look_14 rfl rfl rfl rfl ?_
        refine WG.iload_n (pc' := 18) dX6_look_17 rfl rfl ?_
        refine WG.ialoadN (j := j) (pc' := 19) dX6_look_18 rfl rfl rfl (by omega) (by first | decide | omega) ?_
        rw [hR]
        refine WG.if_ge (tgt := 26) (pc' := 22) dX6_look_19 rfl (by decide) (fun c_19 => ?_) (fun c_19 => ?_)
        · exact absurd c_19 (by decide)
        · refine WG.ldc2 (pc' := 25) dX6_look_22 rfl k_X6_315 ?_
          refine WG.lreturn dX6_look_25 rfl ?_
          exact zokl hX zFr.rf he rfl
      · exact absurd hl (zb_eq.mp c_4)
    | some (s, m, g), hR =>
      obtain ⟨r1, r2, r3, r4, r5⟩ := hR
      refine WG.iload_n (pc' := 1) dX6_look_0 rfl rfl ?_
      refine WG.callSd (c_X6_isList h _) m_X6_308 b_X6_isList rfl (zrk_of rfl) rfl (Nat.le_of_ble_eq_true rfl) dX6_look_1 (pc' := 4) rfl ?_
      refine WG.if_ne (tgt := 13) (pc' := 7) dX6_look_4 rfl (by decide) (fun c_4 => ?_) (fun c_4 => ?_)
      · refine WG.aload_n (pc' := 14) dX6_look_13 rfl rfl ?_
        refine WG.getR (r := 97) f_X6_51 (pc' := 17) dX6_look_14 rfl rfl rfl rfl ?_
        refine WG.iload_n (pc' := 18) dX6_look_17 rfl rfl ?_
        refine WG.ialoadN (j := j) (pc' := 19) dX6_look_18 rfl rfl rfl (by omega) (by first | decide | omega) ?_
        rw [r3]
        refine WG.if_ge (tgt := 26) (pc' := 22) dX6_look_19 rfl (by decide) (fun c_19 => ?_) (fun c_19 => ?_)
        · refine WG.iload_n (pc' := 27) dX6_look_26 rfl rfl ?_
          refine WG.i2l (pc' := 28) dX6_look_27 rfl ?_
          refine WG.lconst (v := 0) (pc' := 29) dX6_look_28 rfl rfl ?_
          refine WG.aload_n (pc' := 30) dX6_look_29 rfl rfl ?_
          refine WG.getR (r := 98) f_X6_54 (pc' := 33) dX6_look_30 rfl rfl rfl rfl ?_
          refine WG.iload_n (pc' := 34) dX6_look_33 rfl rfl ?_
          refine WG.ialoadN (j := j) (pc' := 35) dX6_look_34 rfl rfl rfl (by omega) (by first | decide | omega) ?_
          rw [r4]
          refine WG.iconst (v := 1) (pc' := 36) dX6_look_35 rfl rfl ?_
          refine WG.isub (pc' := 37) dX6_look_36 rfl ?_
          refine WG.i2l (pc' := 38) dX6_look_37 rfl ?_
          refine WG.callSd (c_X6_in _ _ _ _) m_X6_67 b_X6_in rfl (zrk_of rfl) rfl (Nat.le_of_ble_eq_true rfl) dX6_look_38 (pc' := 41) rfl ?_
          refine WG.if_eq (tgt := 58) (pc' := 44) dX6_look_41 rfl (by decide) (fun c_41 => ?_) (fun c_41 => ?_)
          · rw [zb_eq, zin_iff (by omega)] at c_41
            have e1 : zvK (some (s, m, g)) i = 4000000000000000013 := if_neg c_41
            refine WG.ldc2 (pc' := 61) dX6_look_58 rfl k_X6_317 ?_
            refine WG.lreturn dX6_look_61 rfl ?_
            first
              | exact zokl hX zFr.rf he (by rw [e1]; exact r5 k hk)
              | exact zokl hX zFr.rf he e1.symm
          · rw [zb_nn, zin_iff (by omega)] at c_41
            have e1 : zvK (some (s, m, g)) i = g i.toNatClampNeg := if_pos c_41
            obtain ⟨k, hk, rfl⟩ := zsd_of (by omega) c_41
            rw [nI_clamp (show k < 2 ^ 31 by omega)] at e1
            refine WG.aload_n (pc' := 45) dX6_look_44 rfl rfl ?_
            refine WG.getR (r := 99) f_X6_57 (pc' := 48) dX6_look_45 rfl rfl rfl rfl ?_
            refine WG.bipush (v := 20) (pc' := 50) dX6_look_48 rfl rfl ?_
            refine WG.iload_n (pc' := 51) dX6_look_50 rfl rfl ?_
            refine WG.imul (pc' := 52) dX6_look_51 rfl ?_
            refine WG.iload_n (pc' := 53) dX6_look_52 rfl rfl ?_
            refine WG.iadd (pc' := 54) dX6_look_53 rfl ?_
            refine WG.laloadN (j := 20 * j + k) (pc' := 55) dX6_look_54 rfl rfl (zi20 j k) (by omega) (by first | decide | omega) ?_
            refine WG.goto (tgt := 61) dX6_look_55 (by decide) ?_
            refine WG.lreturn dX6_look_61 rfl ?_
            first
              | exact zokl hX zFr.rf he (by rw [e1]; exact r5 k hk)
              | exact zokl hX zFr.rf he e1.symm
        · exact absurd (zs1n r2) c_19
      · exact absurd hl (zb_eq.mp c_4)
  · skip
    refine WG.iload_n (pc' := 1) dX6_look_0 rfl rfl ?_
    refine WG.callSd (c_X6_isList h l) m_X6_308 b_X6_isList rfl (zrk_of rfl) rfl (Nat.le_of_ble_eq_true rfl) dX6_look_1 (pc' := 4) rfl ?_
    refine WG.if_ne (tgt := 13) (pc' := 7) dX6_look_4 rfl (by decide) (fun c_4 => ?_) (fun c_4 => ?_)
    · exact absurd (zb_ne.mp c_4) hl
    · refine WG.aload_n (pc' := 8) dX6_look_7 rfl rfl ?_
      refine WG.iconst (v := -1) (pc' := 9) dX6_look_8 rfl rfl ?_
      refine WG.callVd (c_X6_far 1 (by decide)) m_X6_177 b_X6_far rfl rfl rfl (zrk_of rfl) rfl (Nat.le_of_ble_eq_true rfl) dX6_look_9 (pc' := 12) rfl ?_
      refine WG.lreturn dX6_look_12 rfl ?_
      exact zrMl hX zFr.rf (by decide) (zes_t hl)
