set_option maxHeartbeats 4000000 in
set_option maxRecDepth 100000 in
theorem m_lost {σ : zA} {h : zH} (hX : RM σ h) (hV : VS σ.1.1 σ.1.2) (s w : Int32) : K_X6_lost [.ref 86, .int s, .int w] h (zPl RM zB2 h σ (zeLo σ.1.1 s w) (-(zmf σ.1.2 w.toNatClampNeg σ.1.1 - zsp σ.1.2 s.toNatClampNeg w.toNatClampNeg)).toInt64) := by
  have hS := hX.1
  have hn := hS.1
  refine CT.of rfl rfl (Nat.le_of_ble_eq_true rfl) rfl ?_
  refine WG.aload_n (pc' := 1) dX6_lost_0 rfl rfl ?_
  refine WG.iload_n (pc' := 2) dX6_lost_1 rfl rfl ?_
  refine WG.callVd (c_X6_isSide hS s) m_X6_106 b_X6_isSide rfl rfl rfl (zrk_of rfl) rfl (Nat.le_of_ble_eq_true rfl) dX6_lost_2 (pc' := 5) rfl ?_
  refine WG.if_ne (tgt := 14) (pc' := 8) dX6_lost_5 rfl (by decide) (fun c_5 => ?_) (fun c_5 => ?_)
  · rw [zb_ne] at c_5
    refine WG.iload_n (pc' := 15) dX6_lost_14 rfl rfl ?_
    refine WG.i2l (pc' := 16) dX6_lost_15 rfl ?_
    refine WG.lconst (v := 0) (pc' := 17) dX6_lost_16 rfl rfl ?_
    refine WG.lconst (v := 1) (pc' := 18) dX6_lost_17 rfl rfl ?_
    refine WG.callSd (c_X6_in _ _ _ _) m_X6_67 b_X6_in rfl (zrk_of rfl) rfl (Nat.le_of_ble_eq_true rfl) dX6_lost_18 (pc' := 21) rfl ?_
    refine WG.if_eq (tgt := 41) (pc' := 24) dX6_lost_21 rfl (by decide) (fun c_21 => ?_) (fun c_21 => ?_)
    · rw [zb_eq, zin01] at c_21
      refine WG.aload_n (pc' := 42) dX6_lost_41 rfl rfl ?_
      refine WG.bipush (v := -2) (pc' := 44) dX6_lost_42 rfl rfl ?_
      refine WG.callVd (c_X6_far 2 (by decide)) m_X6_177 b_X6_far rfl rfl rfl (zrk_of rfl) rfl (Nat.le_of_ble_eq_true rfl) dX6_lost_44 (pc' := 47) rfl ?_
      refine WG.lreturn dX6_lost_47 rfl ?_
      first
        | exact zokl hX zFr.rf he ev
        | exact zrMl hX zFr.rf (by decide) ((zes_n c_5).trans (zes_t c_21))
    · rw [zb_nn, zin01] at c_21
      have he : zeLo σ.1.1 s w = 0 := (zes_n c_5).trans (zes_n c_21)
      obtain ⟨j, hj, rfl⟩ := zsd_of (by omega) c_5
      obtain ⟨a, ha, rfl⟩ : ∃ a, a < 2 ∧ w = nI a := by
        rcases c_21 with q | q
        · exact ⟨0, by decide, q⟩
        · exact ⟨1, by decide, q⟩
      rw [nI_clamp (show j < 2 ^ 31 by omega), nI_clamp (show a < 2 ^ 31 by omega)]
      have ev : (zsp σ.1.2 j a).toInt64 - (zmf σ.1.2 a σ.1.1).toInt64 = (-(zmf σ.1.2 a σ.1.1 - zsp σ.1.2 j a)).toInt64 := by
        have b1 := (zsp_b hV hj ha).2
        have b2 := zmf_b hV ha
        have d := zi_sub b2 b1 (by decide)
        apply Int64.toInt_inj.mp
        rw [(zl_sub (zl_of b1) (zl_of b2) (by decide)).1, zi64, zi64, zi64, (zi_neg d.2 (by decide)).1, d.1]
        omega
      refine WG.aload_n (pc' := 25) dX6_lost_24 rfl rfl ?_
      refine WG.iload_n (pc' := 26) dX6_lost_25 rfl rfl ?_
      refine WG.iload_n (pc' := 27) dX6_lost_26 rfl rfl ?_
      refine WG.callVd (c_X6_step hS hj ha) m_X6_93 b_X6_step rfl rfl rfl (zrk_of rfl) rfl (Nat.le_of_ble_eq_true rfl) dX6_lost_27 (pc' := 30) rfl ?_
      refine WG.i2l (pc' := 31) dX6_lost_30 rfl ?_
      refine WG.aload_n (pc' := 32) dX6_lost_31 rfl rfl ?_
      refine WG.iload_n (pc' := 33) dX6_lost_32 rfl rfl ?_
      refine WG.callVd (c_X6_missOf hS ha) m_X6_181 b_X6_missOf rfl rfl rfl (zrk_of rfl) rfl (Nat.le_of_ble_eq_true rfl) dX6_lost_33 (pc' := 36) rfl ?_
      refine WG.i2l (pc' := 37) dX6_lost_36 rfl ?_
      refine WG.lsub (pc' := 38) dX6_lost_37 rfl ?_
      refine WG.goto (tgt := 47) dX6_lost_38 (by decide) ?_
      refine WG.lreturn dX6_lost_47 rfl ?_
      first
        | exact zokl hX zFr.rf he ev
        | exact zrMl hX zFr.rf (by decide) ((zes_n c_5).trans (zes_t c_21))
  · rw [zb_eq] at c_5
    refine WG.aload_n (pc' := 9) dX6_lost_8 rfl rfl ?_
    refine WG.iconst (v := -1) (pc' := 10) dX6_lost_9 rfl rfl ?_
    refine WG.callVd (c_X6_far 1 (by decide)) m_X6_177 b_X6_far rfl rfl rfl (zrk_of rfl) rfl (Nat.le_of_ble_eq_true rfl) dX6_lost_10 (pc' := 13) rfl ?_
    refine WG.lreturn dX6_lost_13 rfl ?_
    exact zrMl hX zFr.rf (by decide) (zes_t c_5)
/-! order: by weights -/
theorem zah_m {n : Nat} {f : zf} (hV : VS n f) {s : Nat} (hs : s < n) : ∀ m, m ≤ n → zah f s (m + 0) = zah f s m := fun _ _ => rfl
theorem zw_cmp {n : Nat} {f : zf} (hV : VS n f) {i s : Nat} (hi : i < n) (hs : s < n) : (0 < zw f i - zw f s ↔ zw f s < zw f i) ∧ (zw f i - zw f s = 0 ↔ zw f i = zw f s) := by
  have a := zw_b hV hi
  have b := zw_b hV hs
  have e := (zi_sub (x := zw f i) (y := zw f s) (A := 324) (B := 324) (zi_of (by omega)) (zi_of (by omega)) (by decide)).1
  have z := zc32.2.1
  constructor
  · rw [Int32.lt_iff_toInt_lt, Int32.lt_iff_toInt_lt, e, z]; omega
  · rw [← Int32.toInt_inj, ← Int32.toInt_inj, e, z]; omega
set_option maxHeartbeats 4000000 in
set_option maxRecDepth 100000 in
theorem c_X6_ahead {h : zH} {n s : Nat} {f : zf} (hG : RG 88 0 n f h) (hV : VS n f) (hs : s < n) : K_X6_ahead [.ref 86, .int (nI s)] h (zD (some (.int (zah f s n))) h) := by
  have hn := hG.1
  refine CT.of rfl rfl (Nat.le_of_ble_eq_true rfl) rfl ?_
  have loop : ∀ (m i : Nat), i ≤ n → n - i < m → W_X6_ahead (zD (some (.int (zah f s n))) h) 4 [some (.ref 86), some (.int (nI s)), some (.int (zah f s i)), some (.int (nI i))] [] h := by
    intro m
    induction m with
    | zero => intro i h1 h2; omega
    | succ m ih =>
      intro i hi hm
      refine WG.iload_n (pc' := 5) dX6_ahead_4 rfl rfl ?_
      refine WG.aload_n (pc' := 6) dX6_ahead_5 rfl rfl ?_
      refine WG.callVd (c_X6_many hG) m_X6_63 b_X6_many rfl rfl rfl (zrk_of rfl) rfl (Nat.le_of_ble_eq_true rfl) dX6_ahead_6 (pc' := 9) rfl ?_
      refine WG.icmp_ge (tgt := 57) (pc' := 12) dX6_ahead_9 rfl (by decide) (fun c_9 => ?_) (fun c_9 => ?_)
      · obtain rfl : i = n := by have := (nI_leI (by omega) (by omega)).mp c_9; omega
        refine WG.iload_n (pc' := 58) dX6_ahead_57 rfl rfl ?_
        refine WG.ireturn dX6_ahead_58 rfl (by first | rfl | decide) ?_
        exact ⟨rfl, rfl⟩
      · have hlt : i < n := by have := mt (nI_leI (a := n) (b := i) (by omega) (by omega)).mpr c_9; omega
        have zc := zw_cmp hV hlt hs
        have q := ih (i + 1) hlt (by omega)
        rw [nI_succ] at q
        refine WG.iload_n (pc' := 13) dX6_ahead_12 rfl rfl ?_
        refine WG.aload_n (pc' := 14) dX6_ahead_13 rfl rfl ?_
        refine WG.iload_n (pc' := 15) dX6_ahead_14 rfl rfl ?_
        refine WG.callVd (c_X6_weight hG hlt) m_X6_96 b_X6_weight rfl rfl rfl (zrk_of rfl) rfl (Nat.le_of_ble_eq_true rfl) dX6_ahead_15 (pc' := 18) rfl ?_
        refine WG.aload_n (pc' := 19) dX6_ahead_18 rfl rfl ?_
        refine WG.iload_n (pc' := 20) dX6_ahead_19 rfl rfl ?_
        refine WG.callVd (c_X6_weight hG hs) m_X6_96 b_X6_weight rfl rfl rfl (zrk_of rfl) rfl (Nat.le_of_ble_eq_true rfl) dX6_ahead_20 (pc' := 23) rfl ?_
        refine WG.icmp_gt (tgt := 44) (pc' := 26) dX6_ahead_23 rfl (by decide) (fun c_23 => ?_) (fun c_23 => ?_)
        · refine WG.iconst (v := 1) (pc' := 45) dX6_ahead_44 rfl rfl ?_
          refine WG.goto (tgt := 49) dX6_ahead_45 (by decide) ?_
          refine WG.iadd (pc' := 50) dX6_ahead_49 rfl ?_
          refine WG.istore_n (L' := [_, _, _, _]) (pc' := 51) dX6_ahead_50 rfl (by decide) rfl ?_
          refine WG.iinc1 (L' := [_, _, _, _]) (pc' := 54) dX6_ahead_51 rfl rfl (by decide) rfl ?_
          refine WG.goto (tgt := 4) dX6_ahead_54 (by decide) ?_
          first
            | (rw [show zah f s (i + 1) = zah f s i + 1 from if_pos (by first | exact Or.inl (zc.1.mpr (by assumption)) | exact Or.inr ⟨zc.2.mpr (by assumption), by omega⟩)] at q; exact q)
            | (rw [show zah f s (i + 1) = zah f s i from if_neg (by rw [zc.1, zc.2]; rintro (a | ⟨a, b⟩) <;> first | contradiction | omega), show zah f s i = zah f s i + 0 from (Int32.add_zero _).symm] at q; exact q)
        · refine WG.aload_n (pc' := 27) dX6_ahead_26 rfl rfl ?_
          refine WG.iload_n (pc' := 28) dX6_ahead_27 rfl rfl ?_
          refine WG.callVd (c_X6_weight hG hlt) m_X6_96 b_X6_weight rfl rfl rfl (zrk_of rfl) rfl (Nat.le_of_ble_eq_true rfl) dX6_ahead_28 (pc' := 31) rfl ?_
          refine WG.aload_n (pc' := 32) dX6_ahead_31 rfl rfl ?_
          refine WG.iload_n (pc' := 33) dX6_ahead_32 rfl rfl ?_
          refine WG.callVd (c_X6_weight hG hs) m_X6_96 b_X6_weight rfl rfl rfl (zrk_of rfl) rfl (Nat.le_of_ble_eq_true rfl) dX6_ahead_33 (pc' := 36) rfl ?_
          refine WG.icmp_ne (tgt := 48) (pc' := 39) dX6_ahead_36 rfl (by decide) (fun c_36 => ?_) (fun c_36 => ?_)
          · refine WG.iconst (v := 0) (pc' := 49) dX6_ahead_48 rfl rfl ?_
            refine WG.iadd (pc' := 50) dX6_ahead_49 rfl ?_
            refine WG.istore_n (L' := [_, _, _, _]) (pc' := 51) dX6_ahead_50 rfl (by decide) rfl ?_
            refine WG.iinc1 (L' := [_, _, _, _]) (pc' := 54) dX6_ahead_51 rfl rfl (by decide) rfl ?_
            refine WG.goto (tgt := 4) dX6_ahead_54 (by decide) ?_
            first
              | (rw [show zah f s (i + 1) = zah f s i + 1 from if_pos (by first | exact Or.inl (zc.1.mpr (by assumption)) | exact Or.inr ⟨zc.2.mpr (by assumption), by omega⟩)] at q; exact q)
              | (rw [show zah f s (i + 1) = zah f s i from if_neg (by rw [zc.1, zc.2]; rintro (a | ⟨a, b⟩) <;> first | contradiction | omega), show zah f s i = zah f s i + 0 from (Int32.add_zero _).symm] at q; exact q)
          · refine WG.iload_n (pc' := 40) dX6_ahead_39 rfl rfl ?_
            refine WG.iload_n (pc' := 41) dX6_ahead_40 rfl rfl ?_
            refine WG.icmp_ge (tgt := 48) (pc' := 44) dX6_ahead_41 rfl (by decide) (fun c_41 => ?_) (fun c_41 => ?_)
            · have c41 := (nI_leI (by omega) (by omega)).mp c_41
              refine WG.iconst (v := 0) (pc' := 49) dX6_ahead_48 rfl rfl ?_
              refine WG.iadd (pc' := 50) dX6_ahead_49 rfl ?_
              refine WG.istore_n (L' := [_, _, _, _]) (pc' := 51) dX6_ahead_50 rfl (by decide) rfl ?_
              refine WG.iinc1 (L' := [_, _, _, _]) (pc' := 54) dX6_ahead_51 rfl rfl (by decide) rfl ?_
              refine WG.goto (tgt := 4) dX6_ahead_54 (by decide) ?_
              first
                | (rw [show zah f s (i + 1) = zah f s i + 1 from if_pos (by first | exact Or.inl (zc.1.mpr (by assumption)) | exact Or.inr ⟨zc.2.mpr (by assumption), by omega⟩)] at q; exact q)
                | (rw [show zah f s (i + 1) = zah f s i from if_neg (by rw [zc.1, zc.2]; rintro (a | ⟨a, b⟩) <;> first | contradiction | omega), show zah f s i = zah f s i + 0 from (Int32.add_zero _).symm] at q; exact q)
            · have c41 := mt (nI_leI (by omega) (by omega)).mpr c_41
              refine WG.iconst (v := 1) (pc' := 45) dX6_ahead_44 rfl rfl ?_
              refine WG.goto (tgt := 49) dX6_ahead_45 (by decide) ?_
              refine WG.iadd (pc' := 50) dX6_ahead_49 rfl ?_
              refine WG.istore_n (L' := [_, _, _, _]) (pc' := 51) dX6_ahead_50 rfl (by decide) rfl ?_
              refine WG.iinc1 (L' := [_, _, _, _]) (pc' := 54) dX6_ahead_51 rfl rfl (by decide) rfl ?_
              refine WG.goto (tgt := 4) dX6_ahead_54 (by decide) ?_
              first
                | (rw [show zah f s (i + 1) = zah f s i + 1 from if_pos (by first | exact Or.inl (zc.1.mpr (by assumption)) | exact Or.inr ⟨zc.2.mpr (by assumption), by omega⟩)] at q; exact q)
                | (rw [show zah f s (i + 1) = zah f s i from if_neg (by rw [zc.1, zc.2]; rintro (a | ⟨a, b⟩) <;> first | contradiction | omega), show zah f s i = zah f s i + 0 from (Int32.add_zero _).symm] at q; exact q)
  refine WG.iconst (v := 0) (pc' := 1) dX6_ahead_0 rfl rfl ?_
  refine WG.istore_n (L' := [_, _, _, _]) (pc' := 2) dX6_ahead_1 rfl (by decide) rfl ?_
  refine WG.iconst (v := 0) (pc' := 3) dX6_ahead_2 rfl rfl ?_
  refine WG.istore_n (L' := [_, _, _, _]) (pc' := 4) dX6_ahead_3 rfl (by decide) rfl ?_
  exact loop (n + 1) 0 (by omega) (by omega)
/-- the first side at the x-th place -/
noncomputable def zor (f : zf) (n : Nat) (x : Int32) : Nat → Nat → Int32
  | 0, _ => -1
  | m + 1, i => if zah f i n = x then nI i else zor f n x m (i + 1)
def zfnd (f : zf) (n : Nat) (x : Int32) : Prop := ∃ i, i < n ∧ zah f i n = x
noncomputable def zeOr (f : zf) (n : Nat) (x : Int32) : Int32 := zes [(¬ zfnd f n x, -1)]
set_option maxHeartbeats 4000000 in
set_option maxRecDepth 100000 in
theorem x_order {σ : zA} {h : zH} (hX : RX σ h) (x : Int32) : K_X5_order [.ref 0, .int x] h (zPi RX zB1 h σ (zeOr σ.1.2 σ.1.1 x) (zor σ.1.2 σ.1.1 x σ.1.1 0) σ) := by
  have hS := hX.1
  have hn := hS.2.1
  have h5 := hS.2.2.1
  refine CT.of rfl rfl (Nat.le_of_ble_eq_true rfl) rfl ?_
  have loop : ∀ (m i : Nat), i + m = σ.1.1 → (∀ j, j < i → zah σ.1.2 j σ.1.1 ≠ x) → zor σ.1.2 σ.1.1 x σ.1.1 0 = zor σ.1.2 σ.1.1 x m i → W_X5_order (zPi RX zB1 h σ (zeOr σ.1.2 σ.1.1 x) (zor σ.1.2 σ.1.1 x σ.1.1 0) σ) 2 [some (.ref 0), some (.int x), some (.int (nI i))] [] h := by
    intro m
    induction m with
    | zero =>
      intro i hi hp hv
      refine WG.iload_n (pc' := 3) dX5_order_2 rfl rfl ?_
      refine WG.aload_n (pc' := 4) dX5_order_3 rfl rfl ?_
      refine WG.getR (r := 1) f_X5_10 (pc' := 7) dX5_order_4 rfl rfl rfl rfl ?_
      refine WG.getI f_X5_90 (pc' := 10) dX5_order_7 rfl rfl rfl ?_
      refine WG.icmp_ge (tgt := 33) (pc' := 13) dX5_order_10 rfl (by decide) (fun c_10 => ?_) (fun c_10 => ?_)
      · refine WG.aload_n (pc' := 34) dX5_order_33 rfl rfl ?_
        refine WG.iconst (v := -1) (pc' := 35) dX5_order_34 rfl rfl ?_
        refine WG.callVd (c_X5_refuse 1 (by decide)) m_X5_71 b_X5_refuse rfl rfl rfl (zrk_of rfl) rfl (Nat.le_of_ble_eq_true rfl) dX5_order_35 (pc' := 38) rfl ?_
        refine WG.ireturn dX5_order_38 rfl (by first | rfl | decide) ?_
        exact zrX hX zFr.rf (by decide) (zes_t (fun ⟨j, h1, h2⟩ => hp j (by omega) h2))
      · exact absurd ((zle h5 (by omega) (by omega)).mpr (by omega)) c_10
    | succ m ih =>
      intro i hi hp hv
      have hlt : i < σ.1.1 := by omega
      refine WG.iload_n (pc' := 3) dX5_order_2 rfl rfl ?_
      refine WG.aload_n (pc' := 4) dX5_order_3 rfl rfl ?_
      refine WG.getR (r := 1) f_X5_10 (pc' := 7) dX5_order_4 rfl rfl rfl rfl ?_
      refine WG.getI f_X5_90 (pc' := 10) dX5_order_7 rfl rfl rfl ?_
      refine WG.icmp_ge (tgt := 33) (pc' := 13) dX5_order_10 rfl (by decide) (fun c_10 => ?_) (fun c_10 => ?_)
      · exact absurd ((zle h5 (by omega) (by omega)).mp c_10) (by omega)
      · refine WG.aload_n (pc' := 14) dX5_order_13 rfl rfl ?_
        refine WG.getR (r := 1) f_X5_10 (pc' := 17) dX5_order_14 rfl rfl rfl rfl ?_
        refine WG.iload_n (pc' := 18) dX5_order_17 rfl rfl ?_
        refine WG.callVd (c_X4_aheadByWeight hS hlt) m_X5_222 b_X4_aheadByWeight rfl rfl rfl (zrk_of rfl) rfl (Nat.le_of_ble_eq_true rfl) dX5_order_18 (pc' := 21) rfl ?_
        refine WG.iload_n (pc' := 22) dX5_order_21 rfl rfl ?_
        refine WG.icmp_ne (tgt := 27) (pc' := 25) dX5_order_22 rfl (by decide) (fun c_22 => ?_) (fun c_22 => ?_)
        · refine WG.iinc1 (L' := [_, _, _]) (pc' := 30) dX5_order_27 rfl rfl (by decide) rfl ?_
          refine WG.goto (tgt := 2) dX5_order_30 (by decide) ?_
          rw [nI_1]
          exact ih (i + 1) (by omega) (fun j hj => by rcases (show j < i ∨ j = i by omega) with q | rfl; exact hp j q; exact c_22) (hv.trans (if_neg c_22))
        · refine WG.iload_n (pc' := 26) dX5_order_25 rfl rfl ?_
          refine WG.ireturn dX5_order_26 rfl (by first | rfl | decide) ?_
          exact zok hX zFr.rf (zes_n ⟨i, hlt, c_22⟩) (by rw [hv]; exact (if_pos c_22).symm)
  refine WG.iconst (v := 0) (pc' := 1) dX5_order_0 rfl rfl ?_
  refine WG.istore_n (L' := [_, _, _]) (pc' := 2) dX5_order_1 rfl (by decide) rfl ?_
  exact loop σ.1.1 0 (by omega) (fun j hj => by omega) rfl
set_option maxHeartbeats 4000000 in
set_option maxRecDepth 100000 in
theorem m_order {σ : zA} {h : zH} (hX : RM σ h) (hV : VS σ.1.1 σ.1.2) (x : Int32) : K_X6_order [.ref 86, .int x] h (zPi RM zB2 h σ (zeOr σ.1.2 σ.1.1 x) (zor σ.1.2 σ.1.1 x σ.1.1 0) σ) := by
  have hS := hX.1
  have hn := hS.1
  refine CT.of rfl rfl (Nat.le_of_ble_eq_true rfl) rfl ?_
  have loop : ∀ (m i : Nat), i + m = σ.1.1 → (∀ j, j < i → zah σ.1.2 j σ.1.1 ≠ x) → zor σ.1.2 σ.1.1 x σ.1.1 0 = zor σ.1.2 σ.1.1 x m i → W_X6_order (zPi RM zB2 h σ (zeOr σ.1.2 σ.1.1 x) (zor σ.1.2 σ.1.1 x σ.1.1 0) σ) 2 [some (.ref 86), some (.int x), some (.int (nI i))] [] h := by
    intro m
    induction m with
    | zero =>
      intro i hi hp hv
      refine WG.iload_n (pc' := 3) dX6_order_2 rfl rfl ?_
      refine WG.aload_n (pc' := 4) dX6_order_3 rfl rfl ?_
      refine WG.callVd (c_X6_many hS) m_X6_63 b_X6_many rfl rfl rfl (zrk_of rfl) rfl (Nat.le_of_ble_eq_true rfl) dX6_order_4 (pc' := 7) rfl ?_
      refine WG.icmp_ge (tgt := 27) (pc' := 10) dX6_order_7 rfl (by decide) (fun c_7 => ?_) (fun c_7 => ?_)
      · refine WG.aload_n (pc' := 28) dX6_order_27 rfl rfl ?_
        refine WG.iconst (v := -1) (pc' := 29) dX6_order_28 rfl rfl ?_
        refine WG.callVd (c_X6_no 1 (by decide)) m_X6_13 b_X6_no rfl rfl rfl (zrk_of rfl) rfl (Nat.le_of_ble_eq_true rfl) dX6_order_29 (pc' := 32) rfl ?_
        refine WG.ireturn dX6_order_32 rfl (by first | rfl | decide) ?_
        exact zrM hX zFr.rf (by decide) (zes_t (fun ⟨j, h1, h2⟩ => hp j (by omega) h2))
      · exact absurd ((nI_leI (by omega) (by omega)).mpr (by omega)) c_7
    | succ m ih =>
      intro i hi hp hv
      have hlt : i < σ.1.1 := by omega
      refine WG.iload_n (pc' := 3) dX6_order_2 rfl rfl ?_
      refine WG.aload_n (pc' := 4) dX6_order_3 rfl rfl ?_
      refine WG.callVd (c_X6_many hS) m_X6_63 b_X6_many rfl rfl rfl (zrk_of rfl) rfl (Nat.le_of_ble_eq_true rfl) dX6_order_4 (pc' := 7) rfl ?_
      refine WG.icmp_ge (tgt := 27) (pc' := 10) dX6_order_7 rfl (by decide) (fun c_7 => ?_) (fun c_7 => ?_)
      · exact absurd ((nI_leI (by omega) (by omega)).mp c_7) (by omega)
      · refine WG.aload_n (pc' := 11) dX6_order_10 rfl rfl ?_
        refine WG.iload_n (pc' := 12) dX6_order_11 rfl rfl ?_
        refine WG.callVd (c_X6_ahead hS hV hlt) m_X6_282 b_X6_ahead rfl rfl rfl (zrk_of rfl) rfl (Nat.le_of_ble_eq_true rfl) dX6_order_12 (pc' := 15) rfl ?_
        refine WG.iload_n (pc' := 16) dX6_order_15 rfl rfl ?_
        refine WG.icmp_ne (tgt := 21) (pc' := 19) dX6_order_16 rfl (by decide) (fun c_16 => ?_) (fun c_16 => ?_)
        · refine WG.iinc1 (L' := [_, _, _]) (pc' := 24) dX6_order_21 rfl rfl (by decide) rfl ?_
          refine WG.goto (tgt := 2) dX6_order_24 (by decide) ?_
          rw [nI_1]
          exact ih (i + 1) (by omega) (fun j hj => by rcases (show j < i ∨ j = i by omega) with q | rfl; exact hp j q; exact c_16) (hv.trans (if_neg c_16))
        · refine WG.iload_n (pc' := 20) dX6_order_19 rfl rfl ?_
          refine WG.ireturn dX6_order_20 rfl (by first | rfl | decide) ?_
          exact zok hX zFr.rf (zes_n ⟨i, hlt, c_16⟩) (by rw [hv]; exact (if_pos c_16).symm)
  refine WG.iconst (v := 0) (pc' := 1) dX6_order_0 rfl rfl ?_
  refine WG.istore_n (L' := [_, _, _]) (pc' := 2) dX6_order_1 rfl (by decide) rfl ?_
  exact loop σ.1.1 0 (by omega) (fun j hj => by omega) rfl
/-! undo, image, on, count -/
noncomputable def zeU (c : Nat) : Int32 := zes [(c = 0, -3)]
def zun_ (σ : zA) : zA := (σ.2.1.2 0, (σ.2.1.1 - 1, fun i => σ.2.1.2 (i + 1)), σ.2.2)
set_option maxHeartbeats 4000000 in
set_option maxRecDepth 100000 in
theorem x_undo {σ : zA} {h : zH} (hX : RX σ h) : K_X5_undo [.ref 0] h (zPi RX zB1 h σ (zeU σ.2.1.1) (nI (σ.2.1.1 - 1)) (zun_ σ)) := by
  have hS := hX.1
  obtain ⟨nx, hP⟩ := hX.2.1
  have hP0 := hP
  obtain ⟨p1, p2, p3, p4, p5⟩ := hP
  refine CT.of rfl rfl (Nat.le_of_ble_eq_true rfl) rfl ?_
  have hz : nI σ.2.1.1 = 0 ↔ σ.2.1.1 = 0 := nI_eq (b := 0) (by omega) (by omega)
  refine WG.aload_n (pc' := 1) dX5_undo_0 rfl rfl ?_
  refine WG.getR (r := 19) f_X5_29 (pc' := 4) dX5_undo_1 rfl rfl rfl rfl ?_
  refine WG.getI f_X5_283 (pc' := 7) dX5_undo_4 rfl rfl rfl ?_
  rw [p4]
  refine WG.if_ne (tgt := 17) (pc' := 10) dX5_undo_7 rfl (by decide) (fun c_7 => ?_) (fun c_7 => ?_)
  · have c7 := mt hz.mpr c_7
    obtain ⟨c, hc⟩ : ∃ c, σ.2.1.1 = c + 1 := ⟨σ.2.1.1 - 1, by omega⟩
    rw [hc] at hP0
    refine WG.aload_n (pc' := 18) dX5_undo_17 rfl rfl ?_
    refine WG.getR (r := 19) f_X5_29 (pc' := 21) dX5_undo_18 rfl rfl rfl rfl ?_
    refine WG.aload_n (pc' := 22) dX5_undo_21 rfl rfl ?_
    refine WG.getR (r := 1) f_X5_10 (pc' := 25) dX5_undo_22 rfl rfl rfl rfl ?_
    refine WG.callV (c_X1_bringBack hP0 hS.1 (by decide)) m_X5_284 b_X1_bringBack rfl rfl rfl (zrk_of rfl) rfl (Nat.le_of_ble_eq_true rfl) dX5_undo_25 (pc' := 28) rfl (fun r_ h_ q_ => ?_)
    obtain ⟨rfl, q1, q2, q3⟩ := q_
    refine WG.ireturn dX5_undo_28 rfl (by first | rfl | decide) ?_
    refine zok (σ' := zun_ σ) ?_ (q3.mo (fun o z => by rcases z with z | ⟨z1, z2⟩; (show o < 86; omega); (show o < 86; omega))) (zes_f c7) (by rw [show σ.2.1.1 - 1 = c by omega])
    obtain ⟨-, -, c0, d, e, g, k⟩ := hX
    have w : ∀ o, (o = 19 ∨ zRg 1 6 o) → o = 19 ∨ (1 ≤ o ∧ o < 7) := fun o z => z
    have np : ∀ o, ¬ (o = 19 ∨ (1 ≤ o ∧ o < 7)) → ¬ (o = 19 ∨ zRg 1 6 o) := fun o z y => z (w o y)
    refine ⟨q2, ⟨(nx + 7) % 8, ?_⟩, c0.fo q3 (np 0 (by omega)) (fun o z => by have := w o z; omega), d.fo q3 (np 0 (by omega)) (np 76 (by omega)), e.fo q3 (np 0 (by omega)) (np 77 (by omega)), fun l hl => (g l hl).fo q3 (fun o z => by have := w o z; omega), by rw [q3.1 85 (np 85 (by omega))]; exact k⟩
    show RPa (σ.2.1.1 - 1) _ _ _
    rw [show σ.2.1.1 - 1 = c by omega]; exact q1
  · have c7 := hz.mp c_7
    refine WG.aload_n (pc' := 11) dX5_undo_10 rfl rfl ?_
    refine WG.bipush (v := -3) (pc' := 13) dX5_undo_11 rfl rfl ?_
    refine WG.callVd (c_X5_refuse 3 (by decide)) m_X5_71 b_X5_refuse rfl rfl rfl (zrk_of rfl) rfl (Nat.le_of_ble_eq_true rfl) dX5_undo_13 (pc' := 16) rfl ?_
    refine WG.ireturn dX5_undo_16 rfl (by first | rfl | decide) ?_
    exact zrX hX zFr.rf (by decide) (zes_t c7)
set_option maxHeartbeats 4000000 in
set_option maxRecDepth 100000 in
theorem m_undo {σ : zA} {h : zH} (hX : RM σ h) : K_X6_undo [.ref 86] h (zPi RM zB2 h σ (zeU σ.2.1.1) (nI (σ.2.1.1 - 1)) (zun_ σ)) := by
  have hS := hX.1
  obtain ⟨p1, p2, p3⟩ := hX.2.1
  refine CT.of rfl rfl (Nat.le_of_ble_eq_true rfl) rfl ?_
  have hz : nI σ.2.1.1 = 0 ↔ σ.2.1.1 = 0 := nI_eq (b := 0) (by omega) (by omega)
  refine WG.aload_n (pc' := 1) dX6_undo_0 rfl rfl ?_
  refine WG.getI f_X6_103 (pc' := 4) dX6_undo_1 rfl rfl rfl ?_
  rw [p2]
  refine WG.if_ne (tgt := 14) (pc' := 7) dX6_undo_4 rfl (by decide) (fun c_4 => ?_) (fun c_4 => ?_)
  · have c4 := mt hz.mpr c_4
    obtain ⟨c, hc⟩ : ∃ c, σ.2.1.1 = c + 1 := ⟨σ.2.1.1 - 1, by omega⟩
    refine WG.aload_n (pc' := 15) dX6_undo_14 rfl rfl ?_
    refine WG.dup (pc' := 16) dX6_undo_15 rfl rfl ?_
    refine WG.getI f_X6_103 (pc' := 19) dX6_undo_16 rfl rfl rfl ?_
    refine WG.iconst (v := 1) (pc' := 20) dX6_undo_19 rfl rfl ?_
    refine WG.isub (pc' := 21) dX6_undo_20 rfl ?_
    rw [show h.1 86 4 - 1 = nI c by rw [p2, hc, nI_pred]]
    refine WG.putI p_X6_103 (pc' := 24) dX6_undo_21 rfl rfl rfl rfl rfl ?_
    refine WG.aload_n (pc' := 25) dX6_undo_24 rfl rfl ?_
    refine WG.getR (r := 89) f_X6_26 (pc' := 28) dX6_undo_25 rfl rfl rfl rfl ?_
    refine WG.aload_n (pc' := 29) dX6_undo_28 rfl rfl ?_
    refine WG.getI f_X6_103 (pc' := 32) dX6_undo_29 rfl rfl rfl ?_
    refine WG.bipush (v := 41) (pc' := 34) dX6_undo_32 rfl rfl ?_
    rw [show (zI h 86 4 (nI c)).1 86 4 = nI c by rw [zI_1, if_pos ⟨rfl, rfl⟩]]
    refine WG.imul (pc' := 35) dX6_undo_34 rfl ?_
    rw [show nI c * 41 = nI (41 * c) by rw [show (41 : Int32) = nI 41 from rfl, pk_mul, Nat.mul_comm]]
    refine WG.aload_n (pc' := 36) dX6_undo_35 rfl rfl ?_
    refine WG.getR (r := 88) f_X6_23 (pc' := 39) dX6_undo_36 rfl rfl rfl rfl ?_
    refine WG.iconst (v := 0) (pc' := 40) dX6_undo_39 rfl rfl ?_
    refine WG.callS (c_X6_copies (b1 := 41 * c) (b2 := 0) (o1 := 89) (o2 := 88) rfl rfl (by decide) (by omega) (by decide) (by decide) (by decide)) m_X6_99 b_X6_copies rfl (zrk_of rfl) rfl (Nat.le_of_ble_eq_true rfl) dX6_undo_40 (pc' := 43) rfl (fun r_ h_ q_ => ?_)
    obtain ⟨rfl, q1, q2⟩ := q_
    have f0 : zFr (fun o => o = 86) h (zI h 86 4 (nI c)) := zFr.rf.I rfl
    have hG := p3 0 (by omega)
    rw [show 41 * (σ.2.1.1 - 1 - 0) = 41 * c by rw [hc]; omega] at hG
    have hG1 := (hG.fo f0 (by decide)).cp q1
    have e4 : h_.1 86 4 = nI c := by rw [q2.1 86 (by decide), zI_1, if_pos ⟨rfl, rfl⟩]
    have e86 : ∀ i, i ≠ 4 → h_.1 86 i = h.1 86 i := fun i hi => by rw [q2.1 86 (by decide), zI_1, if_neg (by omega)]
    have hF : zFr (fun o => o = 86 ∨ o = 88) h h_ := (f0.mo (fun _ => Or.inl)).tr (q2.mo (fun _ => Or.inr))
    refine WG.aload_n (pc' := 44) dX6_undo_43 rfl rfl ?_
    refine WG.getI f_X6_103 (pc' := 47) dX6_undo_44 rfl rfl rfl ?_
    refine WG.ireturn dX6_undo_47 rfl (by first | rfl | decide) ?_
    refine zok (σ' := zun_ σ) ?_ (hF.mo (fun o z => by show 86 ≤ o; omega)) (zes_f c4) (by rw [e4, show σ.2.1.1 - 1 = c by omega])
    obtain ⟨-, -, c0, d, e, g, k⟩ := hX
    refine ⟨hG1, ⟨by show σ.2.1.1 - 1 ≤ 8; omega, by rw [e4]; show nI c = nI (σ.2.1.1 - 1); rw [show σ.2.1.1 - 1 = c by omega], fun i hi => ?_⟩, ?_, ⟨d.1, by rw [e86 7 (by decide)]; exact d.2.1, by rw [hF.1 91 (by decide)]; exact d.2.2⟩, ⟨e.1, by rw [e86 16 (by decide)]; exact e.2.1, by rw [hF.1 96 (by decide)]; exact e.2.2⟩, fun l hl => (g l hl).fo hF (by decide) (by decide) (by decide), by rw [hF.1 87 (by decide)]; exact k⟩
    · have hi : i < σ.2.1.1 - 1 := hi
      have z := p3 (i + 1) (by omega)
      show RG 89 (41 * (σ.2.1.1 - 1 - 1 - i)) _ _ _
      rw [show σ.2.1.1 - 1 - (i + 1) = σ.2.1.1 - 1 - 1 - i by omega] at z
      exact z.fo hF (by decide)
    · revert c0
      show RKm σ.2.2.1 h → RKm σ.2.2.1 h_
      generalize σ.2.2.1 = K
      intro c0
      match K, c0 with
      | none, c0 => show h_.1 86 22 = 0; rw [e86 22 (by decide)]; exact c0
      | some (n, f), c0 => exact ⟨by rw [e86 22 (by decide)]; exact c0.1, c0.2.fo hF (by decide)⟩
  · have c4 := hz.mp c_4
    refine WG.aload_n (pc' := 8) dX6_undo_7 rfl rfl ?_
    refine WG.bipush (v := -3) (pc' := 10) dX6_undo_8 rfl rfl ?_
    refine WG.callVd (c_X6_no 3 (by decide)) m_X6_13 b_X6_no rfl rfl rfl (zrk_of rfl) rfl (Nat.le_of_ble_eq_true rfl) dX6_undo_10 (pc' := 13) rfl ?_
    refine WG.ireturn dX6_undo_13 rfl (by first | rfl | decide) ?_
    exact zrM hX zFr.rf (by decide) (zes_t c4)
