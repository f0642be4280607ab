/-! whatIs -/
def zft (T : Nat × (Nat → Int32)) (e n kd : Int32) (k : Nat) : Prop := ∀ i, i < k → T.2 i = zwt kd e n (nI (i + 1))
theorem zft_s {T : Nat × (Nat → Int32)} {e n kd : Int32} {k : Nat} (h : zft T e n kd k) (h2 : T.2 k = zwt kd e n (nI (k + 1))) : zft T e n kd (k + 1) := fun i hi => by
  by_cases c : i = k
  · rw [c]; exact h2
  · exact h i (by omega)
set_option maxHeartbeats 4000000 in
set_option maxRecDepth 100000 in
theorem c_X5_fitsRow {σ : zA} {h : zH} (hX : RX σ h) {s : Nat} (hs : s < σ.1.1) (kd : Int32) : K_X5_fitsRow [.ref 0, .int (nI s), .int kd] h (zD (some (.int (zb (zft σ.2.2.2.2.1 (σ.1.2 s 2) (σ.1.2 s 3) kd σ.2.2.2.2.1.1)))) h) := by
  have hS := hX.1
  have hn := hS.2.1
  obtain ⟨t1, t2, t3⟩ := hX.2.2.2.2.1
  have g2 := hS.2.2.2 s hs 2 (by decide)
  have g3 := hS.2.2.2 s hs 3 (by decide)
  refine CT.of rfl rfl (Nat.le_of_ble_eq_true rfl) rfl ?_
  have loop : ∀ (m i : Nat), i ≤ σ.2.2.2.2.1.1 → σ.2.2.2.2.1.1 - i < m → zft σ.2.2.2.2.1 (σ.1.2 s 2) (σ.1.2 s 3) kd i → W_X5_fitsRow (zD (some (.int (zb (zft σ.2.2.2.2.1 (σ.1.2 s 2) (σ.1.2 s 3) kd σ.2.2.2.2.1.1)))) h) 2 [some (.ref 0), some (.int (nI s)), some (.int kd), some (.int (nI i))] [] h := by
    intro m
    induction m with
    | zero => intro i a b; omega
    | succ m ih =>
      intro i hi hm hz
      refine WG.iload_n (pc' := 3) dX5_fitsRow_2 rfl rfl ?_
      refine WG.aload_n (pc' := 4) dX5_fitsRow_3 rfl rfl ?_
      refine WG.getI f_X5_58 (pc' := 7) dX5_fitsRow_4 rfl rfl rfl ?_
      rw [t2]
      refine WG.icmp_ge (tgt := 52) (pc' := 10) dX5_fitsRow_7 rfl (by decide) (fun c_7 => ?_) (fun c_7 => ?_)
      · obtain rfl : i = σ.2.2.2.2.1.1 := by have := (nI_leI (by omega) (by omega)).mp c_7; omega
        refine WG.iconst (v := 1) (pc' := 53) dX5_fitsRow_52 rfl rfl ?_
        refine WG.ireturn dX5_fitsRow_53 rfl (by first | rfl | decide) ?_
        exact ⟨by rw [zb_t hz], rfl⟩
      · have hlt : i < σ.2.2.2.2.1.1 := by have := mt (nI_leI (a := σ.2.2.2.2.1.1) (b := i) (by omega) (by omega)).mpr c_7; omega
        refine WG.aload_n (pc' := 11) dX5_fitsRow_10 rfl rfl ?_
        refine WG.getR (r := 77) f_X5_55 (pc' := 14) dX5_fitsRow_11 rfl rfl rfl rfl ?_
        refine WG.iload_n (pc' := 15) dX5_fitsRow_14 rfl rfl ?_
        refine WG.ialoadN (j := i) (pc' := 16) dX5_fitsRow_15 rfl rfl rfl (by omega) (by first | decide | omega) ?_
        refine WG.iload_n (pc' := 17) dX5_fitsRow_16 rfl rfl ?_
        refine WG.aload_n (pc' := 18) dX5_fitsRow_17 rfl rfl ?_
        refine WG.getR (r := 1) f_X5_10 (pc' := 21) dX5_fitsRow_18 rfl rfl rfl rfl ?_
        refine WG.getR (r := 4) f_X5_126 (pc' := 24) dX5_fitsRow_21 rfl rfl rfl rfl ?_
        refine WG.iload_n (pc' := 25) dX5_fitsRow_24 rfl rfl ?_
        refine WG.ialoadN (j := s) (pc' := 26) dX5_fitsRow_25 rfl rfl rfl (by omega) (by first | decide | omega) ?_
        refine WG.aload_n (pc' := 27) dX5_fitsRow_26 rfl rfl ?_
        refine WG.getR (r := 1) f_X5_10 (pc' := 30) dX5_fitsRow_27 rfl rfl rfl rfl ?_
        refine WG.getR (r := 5) f_X5_129 (pc' := 33) dX5_fitsRow_30 rfl rfl rfl rfl ?_
        refine WG.iload_n (pc' := 34) dX5_fitsRow_33 rfl rfl ?_
        refine WG.ialoadN (j := s) (pc' := 35) dX5_fitsRow_34 rfl rfl rfl (by omega) (by first | decide | omega) ?_
        refine WG.iload_n (pc' := 36) dX5_fitsRow_35 rfl rfl ?_
        refine WG.iconst (v := 1) (pc' := 37) dX5_fitsRow_36 rfl rfl ?_
        refine WG.iadd (pc' := 38) dX5_fitsRow_37 rfl ?_
        rw [nI_1]
        refine WG.callSd (c_X4_weightOf _ _ _ _ _) m_X5_293 b_X4_weightOf rfl (zrk_of rfl) rfl (Nat.le_of_ble_eq_true rfl) dX5_fitsRow_38 (pc' := 41) rfl ?_
        refine WG.icmp_eq (tgt := 46) (pc' := 44) dX5_fitsRow_41 rfl (by decide) (fun c_41 => ?_) (fun c_41 => ?_)
        · have c41 : σ.2.2.2.2.1.2 i = zwt kd (σ.1.2 s 2) (σ.1.2 s 3) (nI (i + 1)) := by rw [← t3 i hlt, ← g2, ← g3]; exact c_41
          refine WG.iinc1 (L' := [_, _, _, _]) (pc' := 49) dX5_fitsRow_46 rfl rfl (by decide) rfl ?_
          refine WG.goto (tgt := 2) dX5_fitsRow_49 (by decide) ?_
          rw [nI_1]
          exact ih (i + 1) hlt (by omega) (zft_s hz c41)
        · have c41 : ¬ σ.2.2.2.2.1.2 i = zwt kd (σ.1.2 s 2) (σ.1.2 s 3) (nI (i + 1)) := by rw [← t3 i hlt, ← g2, ← g3]; exact c_41
          refine WG.iconst (v := 0) (pc' := 45) dX5_fitsRow_44 rfl rfl ?_
          refine WG.ireturn dX5_fitsRow_45 rfl (by first | rfl | decide) ?_
          exact ⟨by rw [zb_f (fun z => c41 (z i hlt))], rfl⟩
  refine WG.iconst (v := 0) (pc' := 1) dX5_fitsRow_0 rfl rfl ?_
  refine WG.istore_n (L' := [_, _, _, _]) (pc' := 2) dX5_fitsRow_1 rfl (by decide) rfl ?_
  exact loop (σ.2.2.2.2.1.1 + 1) 0 (by omega) (by omega) (fun i hi => absurd hi (by omega))
set_option maxHeartbeats 4000000 in
set_option maxRecDepth 100000 in
theorem c_X6_isRow {σ : zA} {h : zH} (hX : RM σ h) {s : Nat} (hs : s < σ.1.1) (kd : Int32) : K_X6_isRow [.ref 86, .int (nI s), .int kd] h (zD (some (.int (zb (zft σ.2.2.2.2.1 (σ.1.2 s 2) (σ.1.2 s 3) kd σ.2.2.2.2.1.1)))) h) := by
  have hS := hX.1
  have hn := hS.1
  obtain ⟨t1, t2, t3⟩ := hX.2.2.2.2.1
  refine CT.of rfl rfl (Nat.le_of_ble_eq_true rfl) rfl ?_
  have loop : ∀ (m i : Nat), i ≤ σ.2.2.2.2.1.1 → σ.2.2.2.2.1.1 - i < m → zft σ.2.2.2.2.1 (σ.1.2 s 2) (σ.1.2 s 3) kd i → W_X6_isRow (zD (some (.int (zb (zft σ.2.2.2.2.1 (σ.1.2 s 2) (σ.1.2 s 3) kd σ.2.2.2.2.1.1)))) h) 2 [some (.ref 86), some (.int (nI s)), some (.int kd), some (.int (nI i))] [] h := by
    intro m
    induction m with
    | zero => intro i a b; omega
    | succ m ih =>
      intro i hi hm hz
      refine WG.iload_n (pc' := 3) dX6_isRow_2 rfl rfl ?_
      refine WG.aload_n (pc' := 4) dX6_isRow_3 rfl rfl ?_
      refine WG.getI f_X6_293 (pc' := 7) dX6_isRow_4 rfl rfl rfl ?_
      rw [t2]
      refine WG.icmp_ge (tgt := 46) (pc' := 10) dX6_isRow_7 rfl (by decide) (fun c_7 => ?_) (fun c_7 => ?_)
      · obtain rfl : i = σ.2.2.2.2.1.1 := by have := (nI_leI (by omega) (by omega)).mp c_7; omega
        refine WG.iconst (v := 1) (pc' := 47) dX6_isRow_46 rfl rfl ?_
        refine WG.ireturn dX6_isRow_47 rfl (by first | rfl | decide) ?_
        exact ⟨by rw [zb_t hz], rfl⟩
      · have hlt : i < σ.2.2.2.2.1.1 := by have := mt (nI_leI (a := σ.2.2.2.2.1.1) (b := i) (by omega) (by omega)).mpr c_7; omega
        refine WG.aload_n (pc' := 11) dX6_isRow_10 rfl rfl ?_
        refine WG.getR (r := 96) f_X6_48 (pc' := 14) dX6_isRow_11 rfl rfl rfl rfl ?_
        refine WG.iload_n (pc' := 15) dX6_isRow_14 rfl rfl ?_
        refine WG.ialoadN (j := i) (pc' := 16) dX6_isRow_15 rfl rfl rfl (by omega) (by first | decide | omega) ?_
        refine WG.iload_n (pc' := 17) dX6_isRow_16 rfl rfl ?_
        refine WG.iload_n (pc' := 18) dX6_isRow_17 rfl rfl ?_
        refine WG.iconst (v := 1) (pc' := 19) dX6_isRow_18 rfl rfl ?_
        refine WG.iadd (pc' := 20) dX6_isRow_19 rfl ?_
        refine WG.aload_n (pc' := 21) dX6_isRow_20 rfl rfl ?_
        refine WG.iload_n (pc' := 22) dX6_isRow_21 rfl rfl ?_
        refine WG.iconst (v := 2) (pc' := 23) dX6_isRow_22 rfl rfl ?_
        refine WG.callVd (c_X6_at hS hs 2 (by decide)) m_X6_80 b_X6_at rfl rfl rfl (zrk_of rfl) rfl (Nat.le_of_ble_eq_true rfl) dX6_isRow_23 (pc' := 26) rfl ?_
        refine WG.aload_n (pc' := 27) dX6_isRow_26 rfl rfl ?_
        refine WG.iload_n (pc' := 28) dX6_isRow_27 rfl rfl ?_
        refine WG.iconst (v := 3) (pc' := 29) dX6_isRow_28 rfl rfl ?_
        refine WG.callVd (c_X6_at hS hs 3 (by decide)) m_X6_80 b_X6_at rfl rfl rfl (zrk_of rfl) rfl (Nat.le_of_ble_eq_true rfl) dX6_isRow_29 (pc' := 32) rfl ?_
        rw [nI_1]
        refine WG.callSd (c_X6_weightOf _ _ _ _ _) m_X6_83 b_X6_weightOf rfl (zrk_of rfl) rfl (Nat.le_of_ble_eq_true rfl) dX6_isRow_32 (pc' := 35) rfl ?_
        refine WG.icmp_eq (tgt := 40) (pc' := 38) dX6_isRow_35 rfl (by decide) (fun c_35 => ?_) (fun c_35 => ?_)
        · have c41 : σ.2.2.2.2.1.2 i = zwt kd (σ.1.2 s 2) (σ.1.2 s 3) (nI (i + 1)) := by rw [← t3 i hlt]; exact c_35
          refine WG.iinc1 (L' := [_, _, _, _]) (pc' := 43) dX6_isRow_40 rfl rfl (by decide) rfl ?_
          refine WG.goto (tgt := 2) dX6_isRow_43 (by decide) ?_
          rw [nI_1]
          exact ih (i + 1) hlt (by omega) (zft_s hz c41)
        · have c41 : ¬ σ.2.2.2.2.1.2 i = zwt kd (σ.1.2 s 2) (σ.1.2 s 3) (nI (i + 1)) := by rw [← t3 i hlt]; exact c_35
          refine WG.iconst (v := 0) (pc' := 39) dX6_isRow_38 rfl rfl ?_
          refine WG.ireturn dX6_isRow_39 rfl (by first | rfl | decide) ?_
          exact ⟨by rw [zb_f (fun z => c41 (z i hlt))], rfl⟩
  refine WG.iconst (v := 0) (pc' := 1) dX6_isRow_0 rfl rfl ?_
  refine WG.istore_n (L' := [_, _, _, _]) (pc' := 2) dX6_isRow_1 rfl (by decide) rfl ?_
  exact loop (σ.2.2.2.2.1.1 + 1) 0 (by omega) (by omega) (fun i hi => absurd hi (by omega))
noncomputable def zwm (P : Nat → Prop) : Nat → Int32
  | 0 => 0
  | k + 1 => @ite Int32 (P k) (Classical.propDecidable _) (zwm P k ||| ((1 : Int32) <<< (nI k &&& 31))) (zwm P k)
theorem zwm_t : ∀ {P : Nat → Prop}, (∀ k, P k) → zwm P 10 = 1023 := by
  intro P h
  have e : ∀ k, zwm P (k + 1) = zwm P k ||| ((1 : Int32) <<< (nI k &&& 31)) := fun k => if_pos (h k)
  rw [e, e, e, e, e, e, e, e, e, e]
  show (0 : Int32) ||| _ ||| _ ||| _ ||| _ ||| _ ||| _ ||| _ ||| _ ||| _ ||| _ = _
  decide
theorem zwm_f : ∀ {P : Nat → Prop}, (∀ k, ¬ P k) → ∀ n, zwm P n = 0 := by
  intro P h n
  induction n with
  | zero => rfl
  | succ n ih => exact (if_neg (h n)).trans ih
noncomputable def zvW (σ : zA) (s : Nat) (w : Int32) : Int32 := zwm (fun k => zft σ.2.2.2.2.1 (σ.1.2 s 2) (σ.1.2 s 3) (if w = 0 then nI k else σ.1.2 s 0) σ.2.2.2.2.1.1) (if w = 0 then 6 else 10)
set_option maxHeartbeats 4000000 in
set_option maxRecDepth 100000 in
theorem x_whatL {σ : zA} {h : zH} (hX : RX σ h) {s : Nat} (hs : s < σ.1.1) {e : Int32} (he : e = 0) : ∀ (m k : Nat), k + m = 6 → W_X5_whatIs (zPi RX zB1 h σ e (zvW σ s 0) σ) 66 [some (.ref 0), some (.int (nI s)), some (.int 0), some (.int (zwm (fun k => zft σ.2.2.2.2.1 (σ.1.2 s 2) (σ.1.2 s 3) (nI k) σ.2.2.2.2.1.1) k)), some (.int (nI k))] [] h := by
  have e5 : (5 : Int32) = nI 5 := rfl
  intro m
  induction m with
  | zero =>
    intro k hk
    refine WG.iload (pc' := 68) dX5_whatIs_66 rfl rfl ?_
    refine WG.iconst (v := 5) (pc' := 69) dX5_whatIs_68 rfl rfl ?_
    rw [e5]
    refine WG.icmp_gt (tgt := 95) (pc' := 72) dX5_whatIs_69 rfl (by decide) (fun c_69 => ?_) (fun c_69 => ?_)
    · refine WG.iload_n (pc' := 96) dX5_whatIs_95 rfl rfl ?_
      refine WG.ireturn dX5_whatIs_96 rfl (by first | rfl | decide) ?_
      exact zok hX zFr.rf he (by rw [show k = 6 by omega]; rfl)
    · exact absurd ((nI_ltI (a := 5) (b := k) (by omega) (by omega)).mpr (by omega)) c_69
  | succ m ih =>
    intro k hk
    have es : ∀ z : zft σ.2.2.2.2.1 (σ.1.2 s 2) (σ.1.2 s 3) (nI k) σ.2.2.2.2.1.1, zwm (fun k => zft σ.2.2.2.2.1 (σ.1.2 s 2) (σ.1.2 s 3) (nI k) σ.2.2.2.2.1.1) (k + 1) = zwm (fun k => zft σ.2.2.2.2.1 (σ.1.2 s 2) (σ.1.2 s 3) (nI k) σ.2.2.2.2.1.1) k ||| ((1 : Int32) <<< (nI k &&& 31)) := fun z => if_pos z
    have en : ∀ z : ¬ zft σ.2.2.2.2.1 (σ.1.2 s 2) (σ.1.2 s 3) (nI k) σ.2.2.2.2.1.1, zwm (fun k => zft σ.2.2.2.2.1 (σ.1.2 s 2) (σ.1.2 s 3) (nI k) σ.2.2.2.2.1.1) (k + 1) = zwm (fun k => zft σ.2.2.2.2.1 (σ.1.2 s 2) (σ.1.2 s 3) (nI k) σ.2.2.2.2.1.1) k := fun z => if_neg z
    refine WG.iload (pc' := 68) dX5_whatIs_66 rfl rfl ?_
    refine WG.iconst (v := 5) (pc' := 69) dX5_whatIs_68 rfl rfl ?_
    rw [e5]
    refine WG.icmp_gt (tgt := 95) (pc' := 72) dX5_whatIs_69 rfl (by decide) (fun c_69 => ?_) (fun c_69 => ?_)
    · exact absurd ((nI_ltI (a := 5) (b := k) (by omega) (by omega)).mp c_69) (by omega)
    · refine WG.aload_n (pc' := 73) dX5_whatIs_72 rfl rfl ?_
      refine WG.iload_n (pc' := 74) dX5_whatIs_73 rfl rfl ?_
      refine WG.iload (pc' := 76) dX5_whatIs_74 rfl rfl ?_
      refine WG.callVd (c_X5_fitsRow hX hs _) m_X5_239 b_X5_fitsRow rfl rfl rfl (zrk_of rfl) rfl (Nat.le_of_ble_eq_true rfl) dX5_whatIs_76 (pc' := 79) rfl ?_
      refine WG.if_eq (tgt := 89) (pc' := 82) dX5_whatIs_79 rfl (by decide) (fun c_79 => ?_) (fun c_79 => ?_)
      · rw [zb_eq] at c_79
        rw [← en c_79]
        refine WG.iinc1 (L' := [_, _, _, _, _]) (pc' := 92) dX5_whatIs_89 rfl rfl (by decide) rfl ?_
        refine WG.goto (tgt := 66) dX5_whatIs_92 (by decide) ?_
        rw [nI_1]
        exact ih (k + 1) (by omega)
      · rw [zb_nn] at c_79
        refine WG.iload_n (pc' := 83) dX5_whatIs_82 rfl rfl ?_
        refine WG.iconst (v := 1) (pc' := 84) dX5_whatIs_83 rfl rfl ?_
        refine WG.iload (pc' := 86) dX5_whatIs_84 rfl rfl ?_
        refine WG.ishl (pc' := 87) dX5_whatIs_86 rfl ?_
        refine WG.ior (pc' := 88) dX5_whatIs_87 rfl ?_
        rw [← es c_79]
        refine WG.istore_n (L' := [_, _, _, _, _]) (pc' := 89) dX5_whatIs_88 rfl (by decide) rfl ?_
        refine WG.iinc1 (L' := [_, _, _, _, _]) (pc' := 92) dX5_whatIs_89 rfl rfl (by decide) rfl ?_
        refine WG.goto (tgt := 66) dX5_whatIs_92 (by decide) ?_
        rw [nI_1]
        exact ih (k + 1) (by omega)
set_option maxHeartbeats 4000000 in
set_option maxRecDepth 100000 in
theorem x_whatIs {σ : zA} {h : zH} (hX : RX σ h) (s w : Int32) : K_X5_whatIs [.ref 0, .int s, .int w] h (zPi RX zB1 h σ (zeLo σ.1.1 s w) (zvW σ s.toNatClampNeg w) σ) := by
  have hS := hX.1
  have hn := hS.2.1
  refine CT.of rfl rfl (Nat.le_of_ble_eq_true rfl) rfl ?_
  refine WG.aload_n (pc' := 1) dX5_whatIs_0 rfl rfl ?_
  refine WG.getR (r := 1) f_X5_10 (pc' := 4) dX5_whatIs_1 rfl rfl rfl rfl ?_
  refine WG.iload_n (pc' := 5) dX5_whatIs_4 rfl rfl ?_
  refine WG.callVd (c_X4_has hS s) m_X5_105 b_X4_has rfl rfl rfl (zrk_of rfl) rfl (Nat.le_of_ble_eq_true rfl) dX5_whatIs_5 (pc' := 8) rfl ?_
  refine WG.if_ne (tgt := 17) (pc' := 11) dX5_whatIs_8 rfl (by decide) (fun c_8 => ?_) (fun c_8 => ?_)
  · rw [zb_ne] at c_8
    refine WG.iload_n (pc' := 18) dX5_whatIs_17 rfl rfl ?_
    refine WG.callSd (c_X5_isOneOfTwo h w) m_X5_144 b_X5_isOneOfTwo rfl (zrk_of rfl) rfl (Nat.le_of_ble_eq_true rfl) dX5_whatIs_18 (pc' := 21) rfl ?_
    refine WG.if_ne (tgt := 31) (pc' := 24) dX5_whatIs_21 rfl (by decide) (fun c_21 => ?_) (fun c_21 => ?_)
    · rw [zb_ne] at c_21
      have he : zeLo σ.1.1 s w = 0 := (zes_n c_8).trans (zes_n c_21)
      obtain ⟨j, hj, rfl⟩ := zsd_of (by omega) c_8
      rw [nI_clamp (show j < 2 ^ 31 by omega)]
      have g0 := hS.2.2.2 j hj 0 (by decide)
      refine WG.iload_n (pc' := 32) dX5_whatIs_31 rfl rfl ?_
      refine WG.iconst (v := 1) (pc' := 33) dX5_whatIs_32 rfl rfl ?_
      refine WG.icmp_ne (tgt := 61) (pc' := 36) dX5_whatIs_33 rfl (by decide) (fun c_33 => ?_) (fun c_33 => ?_)
      · refine WG.iconst (v := 0) (pc' := 62) dX5_whatIs_61 rfl rfl ?_
        refine WG.istore_n (L' := [_, _, _, _, _]) (pc' := 63) dX5_whatIs_62 rfl (by decide) rfl ?_
        refine WG.iconst (v := 0) (pc' := 64) dX5_whatIs_63 rfl rfl ?_
        refine WG.istore (L' := [_, _, _, _, _]) (pc' := 66) dX5_whatIs_64 rfl (by decide) rfl ?_
        have cw : w = 0 := by grind
        subst cw
        exact x_whatL hX hj he 6 0 (by omega)
      · refine WG.aload_n (pc' := 37) dX5_whatIs_36 rfl rfl ?_
        refine WG.iload_n (pc' := 38) dX5_whatIs_37 rfl rfl ?_
        refine WG.aload_n (pc' := 39) dX5_whatIs_38 rfl rfl ?_
        refine WG.getR (r := 1) f_X5_10 (pc' := 42) dX5_whatIs_39 rfl rfl rfl rfl ?_
        refine WG.getR (r := 2) f_X5_120 (pc' := 45) dX5_whatIs_42 rfl rfl rfl rfl ?_
        refine WG.iload_n (pc' := 46) dX5_whatIs_45 rfl rfl ?_
        refine WG.ialoadN (j := j) (pc' := 47) dX5_whatIs_46 rfl rfl rfl (by omega) (by first | decide | omega) ?_
        refine WG.callVd (c_X5_fitsRow hX hj _) m_X5_239 b_X5_fitsRow rfl rfl rfl (zrk_of rfl) rfl (Nat.le_of_ble_eq_true rfl) dX5_whatIs_47 (pc' := 50) rfl ?_
        refine WG.if_eq (tgt := 59) (pc' := 53) dX5_whatIs_50 rfl (by decide) (fun c_50 => ?_) (fun c_50 => ?_)
        · rw [zb_eq, show h.1 (1 + 1 + 0) j = σ.1.2 j 0 from g0] at c_50
          refine WG.iconst (v := 0) (pc' := 60) dX5_whatIs_59 rfl rfl ?_
          refine WG.ireturn dX5_whatIs_60 rfl (by first | rfl | decide) ?_
          have cw : ¬ w = 0 := by grind
          first
            | exact zok hX zFr.rf he (by unfold zvW; rw [if_neg cw]; exact (zwm_t (fun k => by rw [if_neg cw]; exact c_50)).symm)
            | exact zok hX zFr.rf he (by unfold zvW; rw [if_neg cw]; exact (zwm_f (fun k => by rw [if_neg cw]; exact c_50) 10).symm)
        · rw [zb_nn, show h.1 (1 + 1 + 0) j = σ.1.2 j 0 from g0] at c_50
          refine WG.sipush (v := 1023) (pc' := 56) dX5_whatIs_53 rfl rfl ?_
          refine WG.goto (tgt := 60) dX5_whatIs_56 (by decide) ?_
          refine WG.ireturn dX5_whatIs_60 rfl (by first | rfl | decide) ?_
          have cw : ¬ w = 0 := by grind
          first
            | exact zok hX zFr.rf he (by unfold zvW; rw [if_neg cw]; exact (zwm_t (fun k => by rw [if_neg cw]; exact c_50)).symm)
            | exact zok hX zFr.rf he (by unfold zvW; rw [if_neg cw]; exact (zwm_f (fun k => by rw [if_neg cw]; exact c_50) 10).symm)
    · rw [zb_eq] at c_21
      refine WG.aload_n (pc' := 25) dX5_whatIs_24 rfl rfl ?_
      refine WG.bipush (v := -2) (pc' := 27) dX5_whatIs_25 rfl rfl ?_
      refine WG.callVd (c_X5_refuse 2 (by decide)) m_X5_71 b_X5_refuse rfl rfl rfl (zrk_of rfl) rfl (Nat.le_of_ble_eq_true rfl) dX5_whatIs_27 (pc' := 30) rfl ?_
      refine WG.ireturn dX5_whatIs_30 rfl (by first | rfl | decide) ?_
      exact zrX hX zFr.rf (by decide) ((zes_n c_8).trans (zes_t c_21))
  · rw [zb_eq] at c_8
    refine WG.aload_n (pc' := 12) dX5_whatIs_11 rfl rfl ?_
    refine WG.iconst (v := -1) (pc' := 13) dX5_whatIs_12 rfl rfl ?_
    refine WG.callVd (c_X5_refuse 1 (by decide)) m_X5_71 b_X5_refuse rfl rfl rfl (zrk_of rfl) rfl (Nat.le_of_ble_eq_true rfl) dX5_whatIs_13 (pc' := 16) rfl ?_
    refine WG.ireturn dX5_whatIs_16 rfl (by first | rfl | decide) ?_
    exact zrX hX zFr.rf (by decide) (zes_t c_8)
set_option maxHeartbeats 4000000 in
set_option maxRecDepth 100000 in
theorem m_whatL {σ : zA} {h : zH} (hX : RM σ h) {s : Nat} (hs : s < σ.1.1) {e w : Int32} (he : e = 0) {L : Nat} (hL : L = if w = 0 then 6 else 10) {P : Nat → Prop} (hP : P = fun k => zft σ.2.2.2.2.1 (σ.1.2 s 2) (σ.1.2 s 3) (if w = 0 then nI k else σ.1.2 s 0) σ.2.2.2.2.1.1) : ∀ (m k : Nat), k + m = L → W_X6_whatIs (zPi RM zB2 h σ e (zwm P L) σ) 36 [some (.ref 86), some (.int (nI s)), some (.int w), some (.int (zwm P k)), some (.int (nI k))] [] h := by
  have hS := hX.1
  have l10 : L ≤ 10 := by rw [hL]; split <;> omega
  have n6 : (6 : Int32) = nI 6 := rfl
  have n10 : (10 : Int32) = nI 10 := rfl
  intro m
  induction m with
  | zero =>
    intro k hk
    refine WG.iload (pc' := 38) dX6_whatIs_36 rfl rfl ?_
    refine WG.iload_n (pc' := 39) dX6_whatIs_38 rfl rfl ?_
    refine WG.if_ne (tgt := 47) (pc' := 42) dX6_whatIs_39 rfl (by decide) (fun c_39 => ?_) (fun c_39 => ?_)
    · rw [if_neg c_39] at hL
      refine WG.bipush (v := 10) (pc' := 49) dX6_whatIs_47 rfl rfl ?_
      first | rw [n6] | rw [n10]
      refine WG.icmp_ge (tgt := 92) (pc' := 52) dX6_whatIs_49 rfl (by decide) (fun c_49 => ?_) (fun c_49 => ?_)
      · refine WG.iload_n (pc' := 93) dX6_whatIs_92 rfl rfl ?_
        refine WG.ireturn dX6_whatIs_93 rfl (by first | rfl | decide) ?_
        exact zok hX zFr.rf he (by rw [show L = k by omega])
      · exact absurd (by rw [nI_leI (by omega) (by omega)]; omega) c_49
    · rw [if_pos c_39] at hL
      refine WG.bipush (v := 6) (pc' := 44) dX6_whatIs_42 rfl rfl ?_
      refine WG.goto (tgt := 49) dX6_whatIs_44 (by decide) ?_
      first | rw [n6] | rw [n10]
      refine WG.icmp_ge (tgt := 92) (pc' := 52) dX6_whatIs_49 rfl (by decide) (fun c_49 => ?_) (fun c_49 => ?_)
      · refine WG.iload_n (pc' := 93) dX6_whatIs_92 rfl rfl ?_
        refine WG.ireturn dX6_whatIs_93 rfl (by first | rfl | decide) ?_
        exact zok hX zFr.rf he (by rw [show L = k by omega])
      · exact absurd (by rw [nI_leI (by omega) (by omega)]; omega) c_49
  | succ m ih =>
    intro k hk
    have es : ∀ z : P k, zwm P (k + 1) = zwm P k ||| ((1 : Int32) <<< (nI k &&& 31)) := fun z => if_pos z
    have en : ∀ z : ¬ P k, zwm P (k + 1) = zwm P k := fun z => if_neg z
    have o0 : zwm P k ||| 0 = zwm P k := Int32.or_zero
    by_cases cw : w = 0
    · have hPk : zft σ.2.2.2.2.1 (σ.1.2 s 2) (σ.1.2 s 3) (nI k) σ.2.2.2.2.1.1 = P k := by rw [hP]; show _ = zft _ _ _ (if w = 0 then nI k else σ.1.2 s 0) _; rw [if_pos cw]
      rw [if_pos cw] at hL
      refine WG.iload (pc' := 38) dX6_whatIs_36 rfl rfl ?_
      refine WG.iload_n (pc' := 39) dX6_whatIs_38 rfl rfl ?_
      refine WG.if_ne (tgt := 47) (pc' := 42) dX6_whatIs_39 rfl (by decide) (fun c_39 => ?_) (fun c_39 => ?_)
      · exact absurd cw c_39
      · refine WG.bipush (v := 6) (pc' := 44) dX6_whatIs_42 rfl rfl ?_
        refine WG.goto (tgt := 49) dX6_whatIs_44 (by decide) ?_
        rw [n6]
        refine WG.icmp_ge (tgt := 92) (pc' := 52) dX6_whatIs_49 rfl (by decide) (fun c_49 => ?_) (fun c_49 => ?_)
        · exact absurd c_49 (by rw [nI_leI (by omega) (by omega)]; omega)
        · refine WG.iload_n (pc' := 53) dX6_whatIs_52 rfl rfl ?_
          refine WG.aload_n (pc' := 54) dX6_whatIs_53 rfl rfl ?_
          refine WG.iload_n (pc' := 55) dX6_whatIs_54 rfl rfl ?_
          refine WG.iload_n (pc' := 56) dX6_whatIs_55 rfl rfl ?_
          refine WG.if_ne (tgt := 64) (pc' := 59) dX6_whatIs_56 rfl (by decide) (fun c_56 => ?_) (fun c_56 => ?_)
          · exact absurd cw c_56
          · refine WG.iload (pc' := 61) dX6_whatIs_59 rfl rfl ?_
            refine WG.goto (tgt := 70) dX6_whatIs_61 (by decide) ?_
            refine WG.callVd (c_X6_isRow hX hs _) m_X6_296 b_X6_isRow rfl rfl rfl (zrk_of rfl) rfl (Nat.le_of_ble_eq_true rfl) dX6_whatIs_70 (pc' := 73) rfl ?_
            refine WG.if_eq (tgt := 83) (pc' := 76) dX6_whatIs_73 rfl (by decide) (fun c_73 => ?_) (fun c_73 => ?_)
            · rw [zb_eq, hPk] at c_73
              refine WG.iconst (v := 0) (pc' := 84) dX6_whatIs_83 rfl rfl ?_
              refine WG.ior (pc' := 85) dX6_whatIs_84 rfl ?_
              first | rw [← es c_73] | rw [o0, ← en c_73]
              refine WG.istore_n (L' := [_, _, _, _, _]) (pc' := 86) dX6_whatIs_85 rfl (by decide) rfl ?_
              refine WG.iinc1 (L' := [_, _, _, _, _]) (pc' := 89) dX6_whatIs_86 rfl rfl (by decide) rfl ?_
              refine WG.goto (tgt := 36) dX6_whatIs_89 (by decide) ?_
              rw [nI_1]
              exact ih (k + 1) (by omega)
            · rw [zb_nn, hPk] at c_73
              refine WG.iconst (v := 1) (pc' := 77) dX6_whatIs_76 rfl rfl ?_
              refine WG.iload (pc' := 79) dX6_whatIs_77 rfl rfl ?_
              refine WG.ishl (pc' := 80) dX6_whatIs_79 rfl ?_
              refine WG.goto (tgt := 84) dX6_whatIs_80 (by decide) ?_
              refine WG.ior (pc' := 85) dX6_whatIs_84 rfl ?_
              first | rw [← es c_73] | rw [o0, ← en c_73]
              refine WG.istore_n (L' := [_, _, _, _, _]) (pc' := 86) dX6_whatIs_85 rfl (by decide) rfl ?_
              refine WG.iinc1 (L' := [_, _, _, _, _]) (pc' := 89) dX6_whatIs_86 rfl rfl (by decide) rfl ?_
              refine WG.goto (tgt := 36) dX6_whatIs_89 (by decide) ?_
              rw [nI_1]
              exact ih (k + 1) (by omega)
    · have hPk : zft σ.2.2.2.2.1 (σ.1.2 s 2) (σ.1.2 s 3) (σ.1.2 s 0) σ.2.2.2.2.1.1 = P k := by rw [hP]; show _ = zft _ _ _ (if w = 0 then nI k else σ.1.2 s 0) _; rw [if_neg cw]
      rw [if_neg cw] at hL
      refine WG.iload (pc' := 38) dX6_whatIs_36 rfl rfl ?_
      refine WG.iload_n (pc' := 39) dX6_whatIs_38 rfl rfl ?_
      refine WG.if_ne (tgt := 47) (pc' := 42) dX6_whatIs_39 rfl (by decide) (fun c_39 => ?_) (fun c_39 => ?_)
      · refine WG.bipush (v := 10) (pc' := 49) dX6_whatIs_47 rfl rfl ?_
        rw [n10]
        refine WG.icmp_ge (tgt := 92) (pc' := 52) dX6_whatIs_49 rfl (by decide) (fun c_49 => ?_) (fun c_49 => ?_)
        · exact absurd c_49 (by rw [nI_leI (by omega) (by omega)]; omega)
        · refine WG.iload_n (pc' := 53) dX6_whatIs_52 rfl rfl ?_
          refine WG.aload_n (pc' := 54) dX6_whatIs_53 rfl rfl ?_
          refine WG.iload_n (pc' := 55) dX6_whatIs_54 rfl rfl ?_
          refine WG.iload_n (pc' := 56) dX6_whatIs_55 rfl rfl ?_
          refine WG.if_ne (tgt := 64) (pc' := 59) dX6_whatIs_56 rfl (by decide) (fun c_56 => ?_) (fun c_56 => ?_)
          · refine WG.aload_n (pc' := 65) dX6_whatIs_64 rfl rfl ?_
            refine WG.iload_n (pc' := 66) dX6_whatIs_65 rfl rfl ?_
            refine WG.iconst (v := 0) (pc' := 67) dX6_whatIs_66 rfl rfl ?_
            refine WG.callVd (c_X6_at hS hs 0 (by decide)) m_X6_80 b_X6_at rfl rfl rfl (zrk_of rfl) rfl (Nat.le_of_ble_eq_true rfl) dX6_whatIs_67 (pc' := 70) rfl ?_
            refine WG.callVd (c_X6_isRow hX hs _) m_X6_296 b_X6_isRow rfl rfl rfl (zrk_of rfl) rfl (Nat.le_of_ble_eq_true rfl) dX6_whatIs_70 (pc' := 73) rfl ?_
            refine WG.if_eq (tgt := 83) (pc' := 76) dX6_whatIs_73 rfl (by decide) (fun c_73 => ?_) (fun c_73 => ?_)
            · rw [zb_eq, hPk] at c_73
              refine WG.iconst (v := 0) (pc' := 84) dX6_whatIs_83 rfl rfl ?_
              refine WG.ior (pc' := 85) dX6_whatIs_84 rfl ?_
              first | rw [← es c_73] | rw [o0, ← en c_73]
              refine WG.istore_n (L' := [_, _, _, _, _]) (pc' := 86) dX6_whatIs_85 rfl (by decide) rfl ?_
              refine WG.iinc1 (L' := [_, _, _, _, _]) (pc' := 89) dX6_whatIs_86 rfl rfl (by decide) rfl ?_
              refine WG.goto (tgt := 36) dX6_whatIs_89 (by decide) ?_
              rw [nI_1]
              exact ih (k + 1) (by omega)
            · rw [zb_nn, hPk] at c_73
              refine WG.iconst (v := 1) (pc' := 77) dX6_whatIs_76 rfl rfl ?_
              refine WG.iload (pc' := 79) dX6_whatIs_77 rfl rfl ?_
              refine WG.ishl (pc' := 80) dX6_whatIs_79 rfl ?_
              refine WG.goto (tgt := 84) dX6_whatIs_80 (by decide) ?_
              refine WG.ior (pc' := 85) dX6_whatIs_84 rfl ?_
              first | rw [← es c_73] | rw [o0, ← en c_73]
              refine WG.istore_n (L' := [_, _, _, _, _]) (pc' := 86) dX6_whatIs_85 rfl (by decide) rfl ?_
              refine WG.iinc1 (L' := [_, _, _, _, _]) (pc' := 89) dX6_whatIs_86 rfl rfl (by decide) rfl ?_
              refine WG.goto (tgt := 36) dX6_whatIs_89 (by decide) ?_
              rw [nI_1]
              exact ih (k + 1) (by omega)
          · exact absurd c_56 cw
      · exact absurd c_39 cw
set_option maxHeartbeats 4000000 in
set_option maxRecDepth 100000 in
theorem m_whatIs {σ : zA} {h : zH} (hX : RM σ h) (s w : Int32) : K_X6_whatIs [.ref 86, .int s, .int w] h (zPi RM zB2 h σ (zeLo σ.1.1 s w) (zvW σ s.toNatClampNeg w) σ) := by
  have hS := hX.1
  have hn := hS.1
  refine CT.of rfl rfl (Nat.le_of_ble_eq_true rfl) rfl ?_
  refine WG.aload_n (pc' := 1) dX6_whatIs_0 rfl rfl ?_
  refine WG.iload_n (pc' := 2) dX6_whatIs_1 rfl rfl ?_
  refine WG.callVd (c_X6_isSide hS s) m_X6_106 b_X6_isSide rfl rfl rfl (zrk_of rfl) rfl (Nat.le_of_ble_eq_true rfl) dX6_whatIs_2 (pc' := 5) rfl ?_
  refine WG.if_ne (tgt := 14) (pc' := 8) dX6_whatIs_5 rfl (by decide) (fun c_5 => ?_) (fun c_5 => ?_)
  · rw [zb_ne] at c_5
    refine WG.iload_n (pc' := 15) dX6_whatIs_14 rfl rfl ?_
    refine WG.i2l (pc' := 16) dX6_whatIs_15 rfl ?_
    refine WG.lconst (v := 0) (pc' := 17) dX6_whatIs_16 rfl rfl ?_
    refine WG.lconst (v := 1) (pc' := 18) dX6_whatIs_17 rfl rfl ?_
    refine WG.callSd (c_X6_in _ _ _ _) m_X6_67 b_X6_in rfl (zrk_of rfl) rfl (Nat.le_of_ble_eq_true rfl) dX6_whatIs_18 (pc' := 21) rfl ?_
    refine WG.if_ne (tgt := 31) (pc' := 24) dX6_whatIs_21 rfl (by decide) (fun c_21 => ?_) (fun c_21 => ?_)
    · rw [zb_ne, zin01] at c_21
      have he : zeLo σ.1.1 s w = 0 := (zes_n c_5).trans (zes_n c_21)
      obtain ⟨j, hj, rfl⟩ := zsd_of (by omega) c_5
      rw [nI_clamp (show j < 2 ^ 31 by omega)]
      refine WG.iconst (v := 0) (pc' := 32) dX6_whatIs_31 rfl rfl ?_
      refine WG.istore_n (L' := [_, _, _, _, _]) (pc' := 33) dX6_whatIs_32 rfl (by decide) rfl ?_
      refine WG.iconst (v := 0) (pc' := 34) dX6_whatIs_33 rfl rfl ?_
      refine WG.istore (L' := [_, _, _, _, _]) (pc' := 36) dX6_whatIs_34 rfl (by decide) rfl ?_
      exact m_whatL hX hj he rfl rfl (if w = 0 then 6 else 10) 0 (by omega)
    · rw [zb_eq, zin01] at c_21
      refine WG.aload_n (pc' := 25) dX6_whatIs_24 rfl rfl ?_
      refine WG.bipush (v := -2) (pc' := 27) dX6_whatIs_25 rfl rfl ?_
      refine WG.callVd (c_X6_no 2 (by decide)) m_X6_13 b_X6_no rfl rfl rfl (zrk_of rfl) rfl (Nat.le_of_ble_eq_true rfl) dX6_whatIs_27 (pc' := 30) rfl ?_
      refine WG.ireturn dX6_whatIs_30 rfl (by first | rfl | decide) ?_
      exact zrM hX zFr.rf (by decide) ((zes_n c_5).trans (zes_t c_21))
  · rw [zb_eq] at c_5
    refine WG.aload_n (pc' := 9) dX6_whatIs_8 rfl rfl ?_
    refine WG.iconst (v := -1) (pc' := 10) dX6_whatIs_9 rfl rfl ?_
    refine WG.callVd (c_X6_no 1 (by decide)) m_X6_13 b_X6_no rfl rfl rfl (zrk_of rfl) rfl (Nat.le_of_ble_eq_true rfl) dX6_whatIs_10 (pc' := 13) rfl ?_
    refine WG.ireturn dX6_whatIs_13 rfl (by first | rfl | decide) ?_
    exact zrM hX zFr.rf (by decide) (zes_t c_5)
