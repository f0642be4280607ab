def zap (T : Nat × (Nat → Int32)) (x : Int32) : Nat × (Nat → Int32) := (T.1 + 1, fun i => if i = T.1 then x else T.2 i)
def zsTO (σ : zA) (T O : Nat × (Nat → Int32)) : zA := (σ.1, σ.2.1, σ.2.2.1, T, O, σ.2.2.2.2.2)
theorem RX.rows {σ : zA} {T O : Nat × (Nat → Int32)} {h h' : zH} (hX : RX σ h) (hf : zFr (fun o => o = 0 ∨ o = 76 ∨ o = 77) h h') (e3 : h'.1 0 3 = h.1 0 3) (hT : RV 0 8 120 76 T h') (hO : RV 0 10 9 77 O h') : RX (zsTO σ T O) h' := by
  obtain ⟨a, ⟨nx, b⟩, c, d, e, g, k⟩ := hX
  refine ⟨a.fo hf (fun o z => by omega), ⟨nx, b.fo hf (fun o z => by omega)⟩, ?_, hT, hO, fun l hl => (g l hl).fo hf (fun o z => by omega), by rw [hf.1 85 (by decide)]; exact k⟩
  revert c
  show RKx σ.2.2.1 h → RKx σ.2.2.1 h'
  generalize σ.2.2.1 = K
  intro c
  match K, c with
  | none, c => show h'.1 0 3 = 0; rw [e3]; exact c
  | some (n, f), c => exact ⟨by rw [e3]; exact c.1, c.2.fo hf (fun o z => by omega)⟩
theorem RM.rows {σ : zA} {T O : Nat × (Nat → Int32)} {h h' : zH} (hX : RM σ h) (hf : zFr (fun o => o = 86 ∨ o = 91 ∨ o = 96) h h') (e4 : h'.1 86 4 = h.1 86 4) (e22 : h'.1 86 22 = h.1 86 22) (hT : RV 86 7 120 91 T h') (hO : RV 86 16 9 96 O h') : RM (zsTO σ T O) h' := by
  obtain ⟨a, b, c, d, e, g, k⟩ := hX
  refine ⟨a.fo hf (by decide), ⟨b.1, by rw [e4]; exact b.2.1, fun i hi => (b.2.2 i hi).fo hf (by decide)⟩, ?_, hT, hO, fun l hl => (g l hl).fo hf (by decide) (by decide) (by decide), by rw [hf.1 87 (by decide)]; exact k⟩
  revert c
  show RKm σ.2.2.1 h → RKm σ.2.2.1 h'
  generalize σ.2.2.1 = K
  intro c
  match K, c with
  | none, c => show h'.1 86 22 = 0; rw [e22]; exact c
  | some (n, f), c => exact ⟨by rw [e22]; exact c.1, c.2.fo hf (by decide)⟩
def zeL (ln m : Nat) (top c : Int32) : Int32 := if c < 0 then -4 else if top < c ∨ ln = m then -6 else 0
theorem zRVap {o k m c : Nat} {T : Nat × (Nat → Int32)} {h : zH} {x : Int32} (hR : RV o k m c T h) (hl : T.1 < m) (hoc : o ≠ c) : RV o k m c (zap T x) (zI (zI h c T.1 x) o k (nI (T.1 + 1))) := by
  refine ⟨hl, by rw [zI_1, if_pos ⟨rfl, rfl⟩]; rfl, fun i hi => ?_⟩
  have hi : i < T.1 + 1 := hi
  rw [zI_1, if_neg (fun q => hoc q.1.symm), zI_1]
  show _ = if i = T.1 then x else T.2 i
  by_cases q : i = T.1
  · rw [if_pos ⟨rfl, q⟩, if_pos q]
  · rw [if_neg (fun z => q z.2), if_neg q]; exact hR.2.2 i (by omega)
set_option maxHeartbeats 4000000 in
set_option maxRecDepth 100000 in
theorem x_letter {σ : zA} {h : zH} (hX : RX σ h) (c : Int32) : K_X5_letter [.ref 0, .int c] h (zPi RX zB1 h σ (zeL σ.2.2.2.1.1 120 255 c) (nI (σ.2.2.2.1.1 + 1)) (zsTO σ (zap σ.2.2.2.1 c) σ.2.2.2.2.1)) := by
  have hT := hX.2.2.2.1
  have hO := hX.2.2.2.2.1
  generalize hTe : σ.2.2.2.1 = T at hT ⊢
  obtain ⟨t1, t2, t3⟩ := id hT
  refine CT.of rfl rfl (Nat.le_of_ble_eq_true rfl) rfl ?_
  have e1 : nI T.1 < 120 ↔ T.1 < 120 := nI_ltI (b := 120) (by omega) (by omega)
  refine WG.iload_n (pc' := 1) dX5_letter_0 rfl rfl ?_
  refine WG.if_ge (tgt := 11) (pc' := 4) dX5_letter_1 rfl (by decide) (fun c_1 => ?_) (fun c_1 => ?_)
  · refine WG.iload_n (pc' := 12) dX5_letter_11 rfl rfl ?_
    refine WG.sipush (v := 255) (pc' := 15) dX5_letter_12 rfl rfl ?_
    refine WG.icmp_gt (tgt := 27) (pc' := 18) dX5_letter_15 rfl (by decide) (fun c_15 => ?_) (fun c_15 => ?_)
    · refine WG.aload_n (pc' := 28) dX5_letter_27 rfl rfl ?_
      refine WG.bipush (v := -6) (pc' := 30) dX5_letter_28 rfl rfl ?_
      refine WG.callVd (c_X5_refuse 6 (by decide)) m_X5_71 b_X5_refuse rfl rfl rfl (zrk_of rfl) rfl (Nat.le_of_ble_eq_true rfl) dX5_letter_30 (pc' := 33) rfl ?_
      refine WG.ireturn dX5_letter_33 rfl (by first | rfl | decide) ?_
      exact zrX hX zFr.rf (by decide) (by unfold zeL; rw [if_neg (by grind), if_pos (by first | exact Or.inl (by assumption) | exact Or.inr (by omega))]; rfl)
    · refine WG.aload_n (pc' := 19) dX5_letter_18 rfl rfl ?_
      refine WG.getI f_X5_51 (pc' := 22) dX5_letter_19 rfl rfl rfl ?_
      refine WG.bipush (v := 120) (pc' := 24) dX5_letter_22 rfl rfl ?_
      rw [t2]
      refine WG.icmp_lt (tgt := 34) (pc' := 27) dX5_letter_24 rfl (by decide) (fun c_24 => ?_) (fun c_24 => ?_)
      · have c24 := e1.mp c_24
        refine WG.aload_n (pc' := 35) dX5_letter_34 rfl rfl ?_
        refine WG.getR (r := 76) f_X5_47 (pc' := 38) dX5_letter_35 rfl rfl rfl rfl ?_
        refine WG.aload_n (pc' := 39) dX5_letter_38 rfl rfl ?_
        refine WG.getI f_X5_51 (pc' := 42) dX5_letter_39 rfl rfl rfl ?_
        refine WG.iload_n (pc' := 43) dX5_letter_42 rfl rfl ?_
        refine WG.iastoreN (j := T.1) (pc' := 44) dX5_letter_43 rfl rfl t2 (by omega) (by first | decide | omega) ?_
        refine WG.aload_n (pc' := 45) dX5_letter_44 rfl rfl ?_
        refine WG.dup (pc' := 46) dX5_letter_45 rfl rfl ?_
        refine WG.getI f_X5_51 (pc' := 49) dX5_letter_46 rfl rfl rfl ?_
        refine WG.iconst (v := 1) (pc' := 50) dX5_letter_49 rfl rfl ?_
        refine WG.iadd (pc' := 51) dX5_letter_50 rfl ?_
        rw [show (zI h 76 T.1 c).1 0 8 + 1 = nI (T.1 + 1) by rw [zI_1, if_neg (by omega), t2, nI_1]]
        refine WG.putI p_X5_51 (pc' := 54) dX5_letter_51 rfl rfl rfl rfl rfl ?_
        refine WG.aload_n (pc' := 55) dX5_letter_54 rfl rfl ?_
        refine WG.getI f_X5_51 (pc' := 58) dX5_letter_55 rfl rfl rfl ?_
        refine WG.ireturn dX5_letter_58 rfl (by first | rfl | decide) ?_
        exact zok (hX.rows (((zFr.rf (P := fun o => o = 0 ∨ o = 76 ∨ o = 77)).I (Or.inr (Or.inl rfl))).I (Or.inl rfl)) (by rw [zI_1, if_neg (by omega), zI_1, if_neg (by omega)]) (zRVap hT c24 (by decide)) (hO.fo (P := fun o => o = 76) (zFr.rf.I rfl) (by decide) (by decide) |> fun z => ⟨z.1, by rw [zI_1, if_neg (by omega)]; exact z.2.1, fun i hi => by rw [zI_1, if_neg (by omega)]; exact z.2.2 i hi⟩)) (((zFr.rf (P := zB1)).I (by show 76 < 86; decide)).I (by show 0 < 86; decide)) (by unfold zeL; rw [if_neg (by grind), if_neg (by rintro (z | z); exact absurd z (by assumption); omega)]) (by rw [zI_1, if_pos ⟨rfl, rfl⟩])
      · have c24 := mt e1.mpr c_24
        refine WG.aload_n (pc' := 28) dX5_letter_27 rfl rfl ?_
        refine WG.bipush (v := -6) (pc' := 30) dX5_letter_28 rfl rfl ?_
        refine WG.callVd (c_X5_refuse 6 (by decide)) m_X5_71 b_X5_refuse rfl rfl rfl (zrk_of rfl) rfl (Nat.le_of_ble_eq_true rfl) dX5_letter_30 (pc' := 33) rfl ?_
        refine WG.ireturn dX5_letter_33 rfl (by first | rfl | decide) ?_
        exact zrX hX zFr.rf (by decide) (by unfold zeL; rw [if_neg (by grind), if_pos (by first | exact Or.inl (by assumption) | exact Or.inr (by omega))]; rfl)
  · refine WG.aload_n (pc' := 5) dX5_letter_4 rfl rfl ?_
    refine WG.bipush (v := -4) (pc' := 7) dX5_letter_5 rfl rfl ?_
    refine WG.callVd (c_X5_refuse 4 (by decide)) m_X5_71 b_X5_refuse rfl rfl rfl (zrk_of rfl) rfl (Nat.le_of_ble_eq_true rfl) dX5_letter_7 (pc' := 10) rfl ?_
    refine WG.ireturn dX5_letter_10 rfl (by first | rfl | decide) ?_
    exact zrX hX zFr.rf (by decide) (by unfold zeL; rw [if_pos (by grind)]; rfl)
set_option maxHeartbeats 4000000 in
set_option maxRecDepth 100000 in
theorem m_letter {σ : zA} {h : zH} (hX : RM σ h) (c : Int32) : K_X6_letter [.ref 86, .int c] h (zPi RM zB2 h σ (zeL σ.2.2.2.1.1 120 255 c) (nI (σ.2.2.2.1.1 + 1)) (zsTO σ (zap σ.2.2.2.1 c) σ.2.2.2.2.1)) := by
  have hT := hX.2.2.2.1
  have hO := hX.2.2.2.2.1
  generalize hTe : σ.2.2.2.1 = T at hT ⊢
  obtain ⟨t1, t2, t3⟩ := id hT
  refine CT.of rfl rfl (Nat.le_of_ble_eq_true rfl) rfl ?_
  have e1 : nI T.1 = 120 ↔ T.1 = 120 := nI_eq (b := 120) (by omega) (by omega)
  refine WG.iload_n (pc' := 1) dX6_letter_0 rfl rfl ?_
  refine WG.if_ge (tgt := 11) (pc' := 4) dX6_letter_1 rfl (by decide) (fun c_1 => ?_) (fun c_1 => ?_)
  · refine WG.iload_n (pc' := 12) dX6_letter_11 rfl rfl ?_
    refine WG.sipush (v := 255) (pc' := 15) dX6_letter_12 rfl rfl ?_
    refine WG.icmp_gt (tgt := 27) (pc' := 18) dX6_letter_15 rfl (by decide) (fun c_15 => ?_) (fun c_15 => ?_)
    · refine WG.aload_n (pc' := 28) dX6_letter_27 rfl rfl ?_
      refine WG.bipush (v := -6) (pc' := 30) dX6_letter_28 rfl rfl ?_
      refine WG.callVd (c_X6_no 6 (by decide)) m_X6_13 b_X6_no rfl rfl rfl (zrk_of rfl) rfl (Nat.le_of_ble_eq_true rfl) dX6_letter_30 (pc' := 33) rfl ?_
      refine WG.ireturn dX6_letter_33 rfl (by first | rfl | decide) ?_
      exact zrM hX zFr.rf (by decide) (by unfold zeL; rw [if_neg (by grind), if_pos (by first | exact Or.inl (by assumption) | exact Or.inr (by omega))]; rfl)
    · refine WG.aload_n (pc' := 19) dX6_letter_18 rfl rfl ?_
      refine WG.getI f_X6_140 (pc' := 22) dX6_letter_19 rfl rfl rfl ?_
      refine WG.bipush (v := 120) (pc' := 24) dX6_letter_22 rfl rfl ?_
      rw [t2]
      refine WG.icmp_ne (tgt := 34) (pc' := 27) dX6_letter_24 rfl (by decide) (fun c_24 => ?_) (fun c_24 => ?_)
      · have c24 : T.1 < 120 := by have := mt e1.mpr c_24; omega
        refine WG.aload_n (pc' := 35) dX6_letter_34 rfl rfl ?_
        refine WG.getR (r := 91) f_X6_32 (pc' := 38) dX6_letter_35 rfl rfl rfl rfl ?_
        refine WG.aload_n (pc' := 39) dX6_letter_38 rfl rfl ?_
        refine WG.getI f_X6_140 (pc' := 42) dX6_letter_39 rfl rfl rfl ?_
        refine WG.iload_n (pc' := 43) dX6_letter_42 rfl rfl ?_
        refine WG.iastoreN (j := T.1) (pc' := 44) dX6_letter_43 rfl rfl t2 (by omega) (by first | decide | omega) ?_
        refine WG.aload_n (pc' := 45) dX6_letter_44 rfl rfl ?_
        refine WG.dup (pc' := 46) dX6_letter_45 rfl rfl ?_
        refine WG.getI f_X6_140 (pc' := 49) dX6_letter_46 rfl rfl rfl ?_
        refine WG.iconst (v := 1) (pc' := 50) dX6_letter_49 rfl rfl ?_
        refine WG.iadd (pc' := 51) dX6_letter_50 rfl ?_
        rw [show (zI h 91 T.1 c).1 86 7 + 1 = nI (T.1 + 1) by rw [zI_1, if_neg (by omega), t2, nI_1]]
        refine WG.putI p_X6_140 (pc' := 54) dX6_letter_51 rfl rfl rfl rfl rfl ?_
        refine WG.aload_n (pc' := 55) dX6_letter_54 rfl rfl ?_
        refine WG.getI f_X6_140 (pc' := 58) dX6_letter_55 rfl rfl rfl ?_
        refine WG.ireturn dX6_letter_58 rfl (by first | rfl | decide) ?_
        exact zok (hX.rows (((zFr.rf (P := fun o => o = 86 ∨ o = 91 ∨ o = 96)).I (Or.inr (Or.inl rfl))).I (Or.inl rfl)) (by rw [zI_1, if_neg (by omega), zI_1, if_neg (by omega)]) (by rw [zI_1, if_neg (by omega), zI_1, if_neg (by omega)]) (zRVap hT c24 (by decide)) (hO.fo (P := fun o => o = 91) (zFr.rf.I rfl) (by decide) (by decide) |> fun z => ⟨z.1, by rw [zI_1, if_neg (by omega)]; exact z.2.1, fun i hi => by rw [zI_1, if_neg (by omega)]; exact z.2.2 i hi⟩)) (((zFr.rf (P := zB2)).I (by show 86 ≤ 91; decide)).I (by show 86 ≤ 86; decide)) (by unfold zeL; rw [if_neg (by grind), if_neg (by rintro (z | z); exact absurd z (by assumption); omega)]) (by rw [zI_1, if_pos ⟨rfl, rfl⟩])
      · have c24 := e1.mp c_24
        refine WG.aload_n (pc' := 28) dX6_letter_27 rfl rfl ?_
        refine WG.bipush (v := -6) (pc' := 30) dX6_letter_28 rfl rfl ?_
        refine WG.callVd (c_X6_no 6 (by decide)) m_X6_13 b_X6_no rfl rfl rfl (zrk_of rfl) rfl (Nat.le_of_ble_eq_true rfl) dX6_letter_30 (pc' := 33) rfl ?_
        refine WG.ireturn dX6_letter_33 rfl (by first | rfl | decide) ?_
        exact zrM hX zFr.rf (by decide) (by unfold zeL; rw [if_neg (by grind), if_pos (by first | exact Or.inl (by assumption) | exact Or.inr (by omega))]; rfl)
  · refine WG.aload_n (pc' := 5) dX6_letter_4 rfl rfl ?_
    refine WG.bipush (v := -4) (pc' := 7) dX6_letter_5 rfl rfl ?_
    refine WG.callVd (c_X6_no 4 (by decide)) m_X6_13 b_X6_no rfl rfl rfl (zrk_of rfl) rfl (Nat.le_of_ble_eq_true rfl) dX6_letter_7 (pc' := 10) rfl ?_
    refine WG.ireturn dX6_letter_10 rfl (by first | rfl | decide) ?_
    exact zrM hX zFr.rf (by decide) (by unfold zeL; rw [if_pos (by grind)]; rfl)
set_option maxHeartbeats 4000000 in
set_option maxRecDepth 100000 in
theorem x_row {σ : zA} {h : zH} (hX : RX σ h) (c : Int32) : K_X5_row [.ref 0, .int c] h (zPi RX zB1 h σ (zeL σ.2.2.2.2.1.1 9 99 c) (nI (σ.2.2.2.2.1.1 + 1)) (zsTO σ σ.2.2.2.1 (zap σ.2.2.2.2.1 c))) := by
  have hT := hX.2.2.2.2.1
  have hO := hX.2.2.2.1
  generalize hTe : σ.2.2.2.2.1 = T at hT ⊢
  obtain ⟨t1, t2, t3⟩ := id hT
  refine CT.of rfl rfl (Nat.le_of_ble_eq_true rfl) rfl ?_
  have e1 : nI T.1 < 9 ↔ T.1 < 9 := nI_ltI (b := 9) (by omega) (by omega)
  refine WG.iload_n (pc' := 1) dX5_row_0 rfl rfl ?_
  refine WG.if_ge (tgt := 11) (pc' := 4) dX5_row_1 rfl (by decide) (fun c_1 => ?_) (fun c_1 => ?_)
  · refine WG.iload_n (pc' := 12) dX5_row_11 rfl rfl ?_
    refine WG.bipush (v := 99) (pc' := 14) dX5_row_12 rfl rfl ?_
    refine WG.icmp_gt (tgt := 26) (pc' := 17) dX5_row_14 rfl (by decide) (fun c_14 => ?_) (fun c_14 => ?_)
    · refine WG.aload_n (pc' := 27) dX5_row_26 rfl rfl ?_
      refine WG.bipush (v := -6) (pc' := 29) dX5_row_27 rfl rfl ?_
      refine WG.callVd (c_X5_refuse 6 (by decide)) m_X5_71 b_X5_refuse rfl rfl rfl (zrk_of rfl) rfl (Nat.le_of_ble_eq_true rfl) dX5_row_29 (pc' := 32) rfl ?_
      refine WG.ireturn dX5_row_32 rfl (by first | rfl | decide) ?_
      exact zrX hX zFr.rf (by decide) (by unfold zeL; rw [if_neg (by grind), if_pos (by first | exact Or.inl (by assumption) | exact Or.inr (by omega))]; rfl)
    · refine WG.aload_n (pc' := 18) dX5_row_17 rfl rfl ?_
      refine WG.getI f_X5_58 (pc' := 21) dX5_row_18 rfl rfl rfl ?_
      refine WG.bipush (v := 9) (pc' := 23) dX5_row_21 rfl rfl ?_
      rw [t2]
      refine WG.icmp_lt (tgt := 33) (pc' := 26) dX5_row_23 rfl (by decide) (fun c_23 => ?_) (fun c_23 => ?_)
      · have c24 := e1.mp c_23
        refine WG.aload_n (pc' := 34) dX5_row_33 rfl rfl ?_
        refine WG.getR (r := 77) f_X5_55 (pc' := 37) dX5_row_34 rfl rfl rfl rfl ?_
        refine WG.aload_n (pc' := 38) dX5_row_37 rfl rfl ?_
        refine WG.getI f_X5_58 (pc' := 41) dX5_row_38 rfl rfl rfl ?_
        refine WG.iload_n (pc' := 42) dX5_row_41 rfl rfl ?_
        refine WG.iastoreN (j := T.1) (pc' := 43) dX5_row_42 rfl rfl t2 (by omega) (by first | decide | omega) ?_
        refine WG.aload_n (pc' := 44) dX5_row_43 rfl rfl ?_
        refine WG.dup (pc' := 45) dX5_row_44 rfl rfl ?_
        refine WG.getI f_X5_58 (pc' := 48) dX5_row_45 rfl rfl rfl ?_
        refine WG.iconst (v := 1) (pc' := 49) dX5_row_48 rfl rfl ?_
        refine WG.iadd (pc' := 50) dX5_row_49 rfl ?_
        rw [show (zI h 77 T.1 c).1 0 10 + 1 = nI (T.1 + 1) by rw [zI_1, if_neg (by omega), t2, nI_1]]
        refine WG.putI p_X5_58 (pc' := 53) dX5_row_50 rfl rfl rfl rfl rfl ?_
        refine WG.aload_n (pc' := 54) dX5_row_53 rfl rfl ?_
        refine WG.getI f_X5_58 (pc' := 57) dX5_row_54 rfl rfl rfl ?_
        refine WG.ireturn dX5_row_57 rfl (by first | rfl | decide) ?_
        exact zok (hX.rows (((zFr.rf (P := fun o => o = 0 ∨ o = 76 ∨ o = 77)).I (Or.inr (Or.inr rfl))).I (Or.inl rfl)) (by rw [zI_1, if_neg (by omega), zI_1, if_neg (by omega)]) (hO.fo (P := fun o => o = 77) (zFr.rf.I rfl) (by decide) (by decide) |> fun z => ⟨z.1, by rw [zI_1, if_neg (by omega)]; exact z.2.1, fun i hi => by rw [zI_1, if_neg (by omega)]; exact z.2.2 i hi⟩) (zRVap hT c24 (by decide))) (((zFr.rf (P := zB1)).I (by show 77 < 86; decide)).I (by show 0 < 86; decide)) (by unfold zeL; rw [if_neg (by grind), if_neg (by rintro (z | z); exact absurd z (by assumption); omega)]) (by rw [zI_1, if_pos ⟨rfl, rfl⟩])
      · have c24 := mt e1.mpr c_23
        refine WG.aload_n (pc' := 27) dX5_row_26 rfl rfl ?_
        refine WG.bipush (v := -6) (pc' := 29) dX5_row_27 rfl rfl ?_
        refine WG.callVd (c_X5_refuse 6 (by decide)) m_X5_71 b_X5_refuse rfl rfl rfl (zrk_of rfl) rfl (Nat.le_of_ble_eq_true rfl) dX5_row_29 (pc' := 32) rfl ?_
        refine WG.ireturn dX5_row_32 rfl (by first | rfl | decide) ?_
        exact zrX hX zFr.rf (by decide) (by unfold zeL; rw [if_neg (by grind), if_pos (by first | exact Or.inl (by assumption) | exact Or.inr (by omega))]; rfl)
  · refine WG.aload_n (pc' := 5) dX5_row_4 rfl rfl ?_
    refine WG.bipush (v := -4) (pc' := 7) dX5_row_5 rfl rfl ?_
    refine WG.callVd (c_X5_refuse 4 (by decide)) m_X5_71 b_X5_refuse rfl rfl rfl (zrk_of rfl) rfl (Nat.le_of_ble_eq_true rfl) dX5_row_7 (pc' := 10) rfl ?_
    refine WG.ireturn dX5_row_10 rfl (by first | rfl | decide) ?_
    exact zrX hX zFr.rf (by decide) (by unfold zeL; rw [if_pos (by grind)]; rfl)
set_option maxHeartbeats 4000000 in
set_option maxRecDepth 100000 in
theorem m_row {σ : zA} {h : zH} (hX : RM σ h) (c : Int32) : K_X6_row [.ref 86, .int c] h (zPi RM zB2 h σ (zeL σ.2.2.2.2.1.1 9 99 c) (nI (σ.2.2.2.2.1.1 + 1)) (zsTO σ σ.2.2.2.1 (zap σ.2.2.2.2.1 c))) := by
  have hT := hX.2.2.2.2.1
  have hO := hX.2.2.2.1
  generalize hTe : σ.2.2.2.2.1 = T at hT ⊢
  obtain ⟨t1, t2, t3⟩ := id hT
  refine CT.of rfl rfl (Nat.le_of_ble_eq_true rfl) rfl ?_
  have e1 : nI T.1 = 9 ↔ T.1 = 9 := nI_eq (b := 9) (by omega) (by omega)
  refine WG.iload_n (pc' := 1) dX6_row_0 rfl rfl ?_
  refine WG.if_ge (tgt := 11) (pc' := 4) dX6_row_1 rfl (by decide) (fun c_1 => ?_) (fun c_1 => ?_)
  · refine WG.iload_n (pc' := 12) dX6_row_11 rfl rfl ?_
    refine WG.bipush (v := 99) (pc' := 14) dX6_row_12 rfl rfl ?_
    refine WG.icmp_gt (tgt := 26) (pc' := 17) dX6_row_14 rfl (by decide) (fun c_14 => ?_) (fun c_14 => ?_)
    · refine WG.aload_n (pc' := 27) dX6_row_26 rfl rfl ?_
      refine WG.bipush (v := -6) (pc' := 29) dX6_row_27 rfl rfl ?_
      refine WG.callVd (c_X6_no 6 (by decide)) m_X6_13 b_X6_no rfl rfl rfl (zrk_of rfl) rfl (Nat.le_of_ble_eq_true rfl) dX6_row_29 (pc' := 32) rfl ?_
      refine WG.ireturn dX6_row_32 rfl (by first | rfl | decide) ?_
      exact zrM hX zFr.rf (by decide) (by unfold zeL; rw [if_neg (by grind), if_pos (by first | exact Or.inl (by assumption) | exact Or.inr (by omega))]; rfl)
    · refine WG.aload_n (pc' := 18) dX6_row_17 rfl rfl ?_
      refine WG.getI f_X6_293 (pc' := 21) dX6_row_18 rfl rfl rfl ?_
      refine WG.bipush (v := 9) (pc' := 23) dX6_row_21 rfl rfl ?_
      rw [t2]
      refine WG.icmp_ne (tgt := 33) (pc' := 26) dX6_row_23 rfl (by decide) (fun c_23 => ?_) (fun c_23 => ?_)
      · have c24 : T.1 < 9 := by have := mt e1.mpr c_23; omega
        refine WG.aload_n (pc' := 34) dX6_row_33 rfl rfl ?_
        refine WG.getR (r := 96) f_X6_48 (pc' := 37) dX6_row_34 rfl rfl rfl rfl ?_
        refine WG.aload_n (pc' := 38) dX6_row_37 rfl rfl ?_
        refine WG.getI f_X6_293 (pc' := 41) dX6_row_38 rfl rfl rfl ?_
        refine WG.iload_n (pc' := 42) dX6_row_41 rfl rfl ?_
        refine WG.iastoreN (j := T.1) (pc' := 43) dX6_row_42 rfl rfl t2 (by omega) (by first | decide | omega) ?_
        refine WG.aload_n (pc' := 44) dX6_row_43 rfl rfl ?_
        refine WG.dup (pc' := 45) dX6_row_44 rfl rfl ?_
        refine WG.getI f_X6_293 (pc' := 48) dX6_row_45 rfl rfl rfl ?_
        refine WG.iconst (v := 1) (pc' := 49) dX6_row_48 rfl rfl ?_
        refine WG.iadd (pc' := 50) dX6_row_49 rfl ?_
        rw [show (zI h 96 T.1 c).1 86 16 + 1 = nI (T.1 + 1) by rw [zI_1, if_neg (by omega), t2, nI_1]]
        refine WG.putI p_X6_293 (pc' := 53) dX6_row_50 rfl rfl rfl rfl rfl ?_
        refine WG.aload_n (pc' := 54) dX6_row_53 rfl rfl ?_
        refine WG.getI f_X6_293 (pc' := 57) dX6_row_54 rfl rfl rfl ?_
        refine WG.ireturn dX6_row_57 rfl (by first | rfl | decide) ?_
        exact zok (hX.rows (((zFr.rf (P := fun o => o = 86 ∨ o = 91 ∨ o = 96)).I (Or.inr (Or.inr rfl))).I (Or.inl rfl)) (by rw [zI_1, if_neg (by omega), zI_1, if_neg (by omega)]) (by rw [zI_1, if_neg (by omega), zI_1, if_neg (by omega)]) (hO.fo (P := fun o => o = 96) (zFr.rf.I rfl) (by decide) (by decide) |> fun z => ⟨z.1, by rw [zI_1, if_neg (by omega)]; exact z.2.1, fun i hi => by rw [zI_1, if_neg (by omega)]; exact z.2.2 i hi⟩) (zRVap hT c24 (by decide))) (((zFr.rf (P := zB2)).I (by show 86 ≤ 96; decide)).I (by show 86 ≤ 86; decide)) (by unfold zeL; rw [if_neg (by grind), if_neg (by rintro (z | z); exact absurd z (by assumption); omega)]) (by rw [zI_1, if_pos ⟨rfl, rfl⟩])
      · have c24 := e1.mp c_23
        refine WG.aload_n (pc' := 27) dX6_row_26 rfl rfl ?_
        refine WG.bipush (v := -6) (pc' := 29) dX6_row_27 rfl rfl ?_
        refine WG.callVd (c_X6_no 6 (by decide)) m_X6_13 b_X6_no rfl rfl rfl (zrk_of rfl) rfl (Nat.le_of_ble_eq_true rfl) dX6_row_29 (pc' := 32) rfl ?_
        refine WG.ireturn dX6_row_32 rfl (by first | rfl | decide) ?_
        exact zrM hX zFr.rf (by decide) (by unfold zeL; rw [if_neg (by grind), if_pos (by first | exact Or.inl (by assumption) | exact Or.inr (by omega))]; rfl)
  · refine WG.aload_n (pc' := 5) dX6_row_4 rfl rfl ?_
    refine WG.bipush (v := -4) (pc' := 7) dX6_row_5 rfl rfl ?_
    refine WG.callVd (c_X6_no 4 (by decide)) m_X6_13 b_X6_no rfl rfl rfl (zrk_of rfl) rfl (Nat.le_of_ble_eq_true rfl) dX6_row_7 (pc' := 10) rfl ?_
    refine WG.ireturn dX6_row_10 rfl (by first | rfl | decide) ?_
    exact zrM hX zFr.rf (by decide) (by unfold zeL; rw [if_pos (by grind)]; rfl)
set_option maxHeartbeats 4000000 in
set_option maxRecDepth 100000 in
theorem x_clear {σ : zA} {h : zH} (hX : RX σ h) : K_X5_clear [.ref 0] h (zPi RX zB1 h σ 0 (nI σ.2.2.2.2.1.1) (zsTO σ σ.2.2.2.1 (0, σ.2.2.2.2.1.2))) := by
  have hT := hX.2.2.2.2.1
  have hO := hX.2.2.2.1
  refine CT.of rfl rfl (Nat.le_of_ble_eq_true rfl) rfl ?_
  refine WG.aload_n (pc' := 1) dX5_clear_0 rfl rfl ?_
  refine WG.getI f_X5_58 (pc' := 4) dX5_clear_1 rfl rfl rfl ?_
  refine WG.istore_n (L' := [_, _]) (pc' := 5) dX5_clear_4 rfl (by decide) rfl ?_
  refine WG.aload_n (pc' := 6) dX5_clear_5 rfl rfl ?_
  refine WG.iconst (v := 0) (pc' := 7) dX5_clear_6 rfl rfl ?_
  refine WG.putI p_X5_58 (pc' := 10) dX5_clear_7 rfl rfl rfl rfl rfl ?_
  refine WG.iload_n (pc' := 11) dX5_clear_10 rfl rfl ?_
  refine WG.ireturn dX5_clear_11 rfl (by first | rfl | decide) ?_
  exact zok (hX.rows ((zFr.rf (P := fun o => o = 0 ∨ o = 76 ∨ o = 77)).I (Or.inl rfl)) (by rw [zI_1, if_neg (by omega)]) (⟨hO.1, by rw [zI_1, if_neg (by omega)]; exact hO.2.1, fun i hi => by rw [zI_1, if_neg (by omega)]; exact hO.2.2 i hi⟩) (⟨Nat.zero_le _, by rw [zI_1, if_pos ⟨rfl, rfl⟩]; rfl, fun i hi => absurd hi (Nat.not_lt_zero _)⟩)) ((zFr.rf (P := zB1)).I (by show 0 < 86; decide)) rfl hT.2.1
set_option maxHeartbeats 4000000 in
set_option maxRecDepth 100000 in
theorem m_clear {σ : zA} {h : zH} (hX : RM σ h) : K_X6_clear [.ref 86] h (zPi RM zB2 h σ 0 (nI σ.2.2.2.2.1.1) (zsTO σ σ.2.2.2.1 (0, σ.2.2.2.2.1.2))) := by
  have hT := hX.2.2.2.2.1
  have hO := hX.2.2.2.1
  refine CT.of rfl rfl (Nat.le_of_ble_eq_true rfl) rfl ?_
  refine WG.aload_n (pc' := 1) dX6_clear_0 rfl rfl ?_
  refine WG.getI f_X6_293 (pc' := 4) dX6_clear_1 rfl rfl rfl ?_
  refine WG.istore_n (L' := [_, _]) (pc' := 5) dX6_clear_4 rfl (by decide) rfl ?_
  refine WG.aload_n (pc' := 6) dX6_clear_5 rfl rfl ?_
  refine WG.iconst (v := 0) (pc' := 7) dX6_clear_6 rfl rfl ?_
  refine WG.putI p_X6_293 (pc' := 10) dX6_clear_7 rfl rfl rfl rfl rfl ?_
  refine WG.iload_n (pc' := 11) dX6_clear_10 rfl rfl ?_
  refine WG.ireturn dX6_clear_11 rfl (by first | rfl | decide) ?_
  exact zok (hX.rows ((zFr.rf (P := fun o => o = 86 ∨ o = 91 ∨ o = 96)).I (Or.inl rfl)) (by rw [zI_1, if_neg (by omega)]) (by rw [zI_1, if_neg (by omega)]) (⟨hO.1, by rw [zI_1, if_neg (by omega)]; exact hO.2.1, fun i hi => by rw [zI_1, if_neg (by omega)]; exact hO.2.2 i hi⟩) (⟨Nat.zero_le _, by rw [zI_1, if_pos ⟨rfl, rfl⟩]; rfl, fun i hi => absurd hi (Nat.not_lt_zero _)⟩)) ((zFr.rf (P := zB2)).I (by show 86 ≤ 86; decide)) rfl hT.2.1
/-! of, miss, lost -/
noncomputable def zeO (n : Nat) (s w : Int32) : Int32 := zes [(¬ zsd n s, -1), ((w < 0 ∨ 7 < w), -2)]
def zvO (f : zf) (s : Nat) (w : Int32) : Int64 := if w = 5 then (zw f s).toInt64 else if w = 6 then (zsp f s 0).toInt64 else if w = 7 then (zsp f s 1).toInt64 else (f s w.toNatClampNeg).toInt64
set_option maxHeartbeats 4000000 in
set_option maxRecDepth 100000 in
theorem x_of {σ : zA} {h : zH} (hX : RX σ h) (s w : Int32) : K_X5_of [.ref 0, .int s, .int w] h (zPl RX zB1 h σ (zeO σ.1.1 s w) (zvO σ.1.2 s.toNatClampNeg w)) := by
  have hS := hX.1
  have hn := hS.2.1
  have hf := hS.2.2.2
  refine CT.of rfl rfl (Nat.le_of_ble_eq_true rfl) rfl ?_
  refine WG.aload_n (pc' := 1) dX5_of_0 rfl rfl ?_
  refine WG.getR (r := 1) f_X5_10 (pc' := 4) dX5_of_1 rfl rfl rfl rfl ?_
  refine WG.iload_n (pc' := 5) dX5_of_4 rfl rfl ?_
  refine WG.callVd (c_X4_has hS s) m_X5_105 b_X4_has rfl rfl rfl (zrk_of rfl) rfl (Nat.le_of_ble_eq_true rfl) dX5_of_5 (pc' := 8) rfl ?_
  refine WG.if_ne (tgt := 17) (pc' := 11) dX5_of_8 rfl (by decide) (fun c_8 => ?_) (fun c_8 => ?_)
  · rw [zb_ne] at c_8
    have he : ¬ (w < 0 ∨ 7 < w) → zeO σ.1.1 s w = 0 := fun z => (zes_n c_8).trans (zes_f z)
    have he2 : (w < 0 ∨ 7 < w) → zeO σ.1.1 s w = -2 := fun z => (zes_n c_8).trans (zes_t z)
    obtain ⟨j, hj, rfl⟩ := zsd_of (by omega) c_8
    rw [nI_clamp (by omega)]
    refine WG.iload_n (pc' := 18) dX5_of_17 rfl rfl ?_
    by_cases e_18_0 : w = 0
    · refine WG.tableE (v := 0) (tgt := 64) e_18_0 dX5_of_18 (by decide) (by decide) rfl (by decide) ?_
      refine WG.aload_n (pc' := 65) dX5_of_64 rfl rfl ?_
      refine WG.getR (r := 1) f_X5_10 (pc' := 68) dX5_of_65 rfl rfl rfl rfl ?_
      refine WG.getR (r := 2) f_X5_120 (pc' := 71) dX5_of_68 rfl rfl rfl rfl ?_
      refine WG.iload_n (pc' := 72) dX5_of_71 rfl rfl ?_
      refine WG.ialoadN (j := j) (pc' := 73) dX5_of_72 rfl rfl rfl (by omega) (by first | decide | omega) ?_
      refine WG.i2l (pc' := 74) dX5_of_73 rfl ?_
      refine WG.lreturn dX5_of_74 rfl ?_
      exact zokl hX zFr.rf (he (by subst e_18_0; decide)) (by subst e_18_0; rw [show zvO σ.1.2 j 0 = (σ.1.2 j 0).toInt64 from rfl, ← hf j hj 0 (by decide)])
    by_cases e_18_1 : w = 1
    · refine WG.tableE (v := 1) (tgt := 75) e_18_1 dX5_of_18 (by decide) (by decide) rfl (by decide) ?_
      refine WG.aload_n (pc' := 76) dX5_of_75 rfl rfl ?_
      refine WG.getR (r := 1) f_X5_10 (pc' := 79) dX5_of_76 rfl rfl rfl rfl ?_
      refine WG.getR (r := 3) f_X5_123 (pc' := 82) dX5_of_79 rfl rfl rfl rfl ?_
      refine WG.iload_n (pc' := 83) dX5_of_82 rfl rfl ?_
      refine WG.ialoadN  (pc' := 84) dX5_of_83 rfl rfl (by first | rfl | assumption) (by first | assumption | omega) (by first | decide | omega) ?_
      refine WG.i2l (pc' := 85) dX5_of_84 rfl ?_
      refine WG.lreturn dX5_of_85 rfl ?_
      exact zokl hX zFr.rf (he (by subst e_18_1; decide)) (by subst e_18_1; rw [show zvO σ.1.2 j 1 = (σ.1.2 j 1).toInt64 from rfl, ← hf j hj 1 (by decide)])
    by_cases e_18_2 : w = 2
    · refine WG.tableE (v := 2) (tgt := 86) e_18_2 dX5_of_18 (by decide) (by decide) rfl (by decide) ?_
      refine WG.aload_n (pc' := 87) dX5_of_86 rfl rfl ?_
      refine WG.getR (r := 1) f_X5_10 (pc' := 90) dX5_of_87 rfl rfl rfl rfl ?_
      refine WG.getR (r := 4) f_X5_126 (pc' := 93) dX5_of_90 rfl rfl rfl rfl ?_
      refine WG.iload_n (pc' := 94) dX5_of_93 rfl rfl ?_
      refine WG.ialoadN  (pc' := 95) dX5_of_94 rfl rfl (by first | rfl | assumption) (by first | assumption | omega) (by first | decide | omega) ?_
      refine WG.i2l (pc' := 96) dX5_of_95 rfl ?_
      refine WG.lreturn dX5_of_96 rfl ?_
      exact zokl hX zFr.rf (he (by subst e_18_2; decide)) (by subst e_18_2; rw [show zvO σ.1.2 j 2 = (σ.1.2 j 2).toInt64 from rfl, ← hf j hj 2 (by decide)])
    by_cases e_18_3 : w = 3
    · refine WG.tableE (v := 3) (tgt := 97) e_18_3 dX5_of_18 (by decide) (by decide) rfl (by decide) ?_
      refine WG.aload_n (pc' := 98) dX5_of_97 rfl rfl ?_
      refine WG.getR (r := 1) f_X5_10 (pc' := 101) dX5_of_98 rfl rfl rfl rfl ?_
      refine WG.getR (r := 5) f_X5_129 (pc' := 104) dX5_of_101 rfl rfl rfl rfl ?_
      refine WG.iload_n (pc' := 105) dX5_of_104 rfl rfl ?_
      refine WG.ialoadN  (pc' := 106) dX5_of_105 rfl rfl (by first | rfl | assumption) (by first | assumption | omega) (by first | decide | omega) ?_
      refine WG.i2l (pc' := 107) dX5_of_106 rfl ?_
      refine WG.lreturn dX5_of_107 rfl ?_
      exact zokl hX zFr.rf (he (by subst e_18_3; decide)) (by subst e_18_3; rw [show zvO σ.1.2 j 3 = (σ.1.2 j 3).toInt64 from rfl, ← hf j hj 3 (by decide)])
    by_cases e_18_4 : w = 4
    · refine WG.tableE (v := 4) (tgt := 108) e_18_4 dX5_of_18 (by decide) (by decide) rfl (by decide) ?_
      refine WG.aload_n (pc' := 109) dX5_of_108 rfl rfl ?_
      refine WG.getR (r := 1) f_X5_10 (pc' := 112) dX5_of_109 rfl rfl rfl rfl ?_
      refine WG.getR (r := 6) f_X5_132 (pc' := 115) dX5_of_112 rfl rfl rfl rfl ?_
      refine WG.iload_n (pc' := 116) dX5_of_115 rfl rfl ?_
      refine WG.ialoadN  (pc' := 117) dX5_of_116 rfl rfl (by first | rfl | assumption) (by first | assumption | omega) (by first | decide | omega) ?_
      refine WG.i2l (pc' := 118) dX5_of_117 rfl ?_
      refine WG.lreturn dX5_of_118 rfl ?_
      exact zokl hX zFr.rf (he (by subst e_18_4; decide)) (by subst e_18_4; rw [show zvO σ.1.2 j 4 = (σ.1.2 j 4).toInt64 from rfl, ← hf j hj 4 (by decide)])
    by_cases e_18_5 : w = 5
    · refine WG.tableE (v := 5) (tgt := 119) e_18_5 dX5_of_18 (by decide) (by decide) rfl (by decide) ?_
      refine WG.aload_n (pc' := 120) dX5_of_119 rfl rfl ?_
      refine WG.getR (r := 1) f_X5_10 (pc' := 123) dX5_of_120 rfl rfl rfl rfl ?_
      refine WG.iload_n (pc' := 124) dX5_of_123 rfl rfl ?_
      refine WG.callVd (c_X4_weight hS hj) m_X5_135 b_X4_weight rfl rfl rfl (zrk_of rfl) rfl (Nat.le_of_ble_eq_true rfl) dX5_of_124 (pc' := 127) rfl ?_
      refine WG.i2l (pc' := 128) dX5_of_127 rfl ?_
      refine WG.lreturn dX5_of_128 rfl ?_
      exact zokl hX zFr.rf (he (by subst e_18_5; decide)) (by subst e_18_5; rfl)
    by_cases e_18_6 : w = 6
    · refine WG.tableE (v := 6) (tgt := 129) e_18_6 dX5_of_18 (by decide) (by decide) rfl (by decide) ?_
      refine WG.aload_n (pc' := 130) dX5_of_129 rfl rfl ?_
      refine WG.getR (r := 1) f_X5_10 (pc' := 133) dX5_of_130 rfl rfl rfl rfl ?_
      refine WG.iload_n (pc' := 134) dX5_of_133 rfl rfl ?_
      refine WG.callVd (c_X4_stepEast hS hj) m_X5_138 b_X4_stepEast rfl rfl rfl (zrk_of rfl) rfl (Nat.le_of_ble_eq_true rfl) dX5_of_134 (pc' := 137) rfl ?_
      refine WG.i2l (pc' := 138) dX5_of_137 rfl ?_
      refine WG.lreturn dX5_of_138 rfl ?_
      exact zokl hX zFr.rf (he (by subst e_18_6; decide)) (by subst e_18_6; rfl)
    by_cases e_18_7 : w = 7
    · refine WG.tableE (v := 7) (tgt := 139) e_18_7 dX5_of_18 (by decide) (by decide) rfl (by decide) ?_
      refine WG.aload_n (pc' := 140) dX5_of_139 rfl rfl ?_
      refine WG.getR (r := 1) f_X5_10 (pc' := 143) dX5_of_140 rfl rfl rfl rfl ?_
      refine WG.iload_n (pc' := 144) dX5_of_143 rfl rfl ?_
      refine WG.callVd (c_X4_stepNorth hS hj) m_X5_141 b_X4_stepNorth rfl rfl rfl (zrk_of rfl) rfl (Nat.le_of_ble_eq_true rfl) dX5_of_144 (pc' := 147) rfl ?_
      refine WG.i2l (pc' := 148) dX5_of_147 rfl ?_
      refine WG.lreturn dX5_of_148 rfl ?_
      exact zokl hX zFr.rf (he (by subst e_18_7; decide)) (by subst e_18_7; rfl)
    refine WG.tableOut (tgt := 149) dX5_of_18 (zsw 0 8 (fun j hj => match j, hj with | 0, _ => e_18_0 | 1, _ => e_18_1 | 2, _ => e_18_2 | 3, _ => e_18_3 | 4, _ => e_18_4 | 5, _ => e_18_5 | 6, _ => e_18_6 | 7, _ => e_18_7 | a + 8, h9 => absurd h9 (by omega))) (by decide) ?_
    refine WG.aload_n (pc' := 150) dX5_of_149 rfl rfl ?_
    refine WG.bipush (v := -2) (pc' := 152) dX5_of_150 rfl rfl ?_
    refine WG.callVd (c_X5_refuseLong 2 (by decide)) m_X5_116 b_X5_refuseLong rfl rfl rfl (zrk_of rfl) rfl (Nat.le_of_ble_eq_true rfl) dX5_of_152 (pc' := 155) rfl ?_
    refine WG.lreturn dX5_of_155 rfl ?_
    exact zrXl hX zFr.rf (by decide) (he2 (by
      have z := zsw (x := w) 0 8 (fun j hj => match j, hj with | 0, _ => e_18_0 | 1, _ => e_18_1 | 2, _ => e_18_2 | 3, _ => e_18_3 | 4, _ => e_18_4 | 5, _ => e_18_5 | 6, _ => e_18_6 | 7, _ => e_18_7 | a + 8, h9 => absurd h9 (by omega))
      rw [Int32.lt_iff_toInt_lt, Int32.lt_iff_toInt_lt, show (0 : Int32).toInt = 0 by decide, show (7 : Int32).toInt = 7 by decide]
      omega))
  · rw [zb_eq] at c_8
    refine WG.aload_n (pc' := 12) dX5_of_11 rfl rfl ?_
    refine WG.iconst (v := -1) (pc' := 13) dX5_of_12 rfl rfl ?_
    refine WG.callVd (c_X5_refuseLong 1 (by decide)) m_X5_116 b_X5_refuseLong rfl rfl rfl (zrk_of rfl) rfl (Nat.le_of_ble_eq_true rfl) dX5_of_13 (pc' := 16) rfl ?_
    refine WG.lreturn dX5_of_16 rfl ?_
    exact zrXl hX zFr.rf (by decide) (zes_t c_8)
set_option maxHeartbeats 4000000 in
set_option maxRecDepth 100000 in
theorem m_of {σ : zA} {h : zH} (hX : RM σ h) (s w : Int32) : K_X6_of [.ref 86, .int s, .int w] h (zPl RM zB2 h σ (zeO σ.1.1 s w) (zvO σ.1.2 s.toNatClampNeg w)) := by
  have hS := hX.1
  have hn := hS.1
  refine CT.of rfl rfl (Nat.le_of_ble_eq_true rfl) rfl ?_
  refine WG.aload_n (pc' := 1) dX6_of_0 rfl rfl ?_
  refine WG.iload_n (pc' := 2) dX6_of_1 rfl rfl ?_
  refine WG.callVd (c_X6_isSide hS s) m_X6_106 b_X6_isSide rfl rfl rfl (zrk_of rfl) rfl (Nat.le_of_ble_eq_true rfl) dX6_of_2 (pc' := 5) rfl ?_
  refine WG.if_ne (tgt := 14) (pc' := 8) dX6_of_5 rfl (by decide) (fun c_5 => ?_) (fun c_5 => ?_)
  · rw [zb_ne] at c_5
    have he : ¬ (w < 0 ∨ 7 < w) → zeO σ.1.1 s w = 0 := fun z => (zes_n c_5).trans (zes_f z)
    have he2 : (w < 0 ∨ 7 < w) → zeO σ.1.1 s w = -2 := fun z => (zes_n c_5).trans (zes_t z)
    obtain ⟨j, hj, rfl⟩ := zsd_of (by omega) c_5
    rw [nI_clamp (by omega)]
    refine WG.iload_n (pc' := 15) dX6_of_14 rfl rfl ?_
    by_cases e_15_0 : w = 0
    · refine WG.tableE (v := 0) (tgt := 60) e_15_0 dX6_of_15 (by decide) (by decide) rfl (by decide) ?_
      subst e_15_0
      have cat := c_X6_at hS hj 0 (by decide)
      refine WG.aload_n (pc' := 61) dX6_of_60 rfl rfl ?_
      refine WG.iload_n (pc' := 62) dX6_of_61 rfl rfl ?_
      refine WG.iload_n (pc' := 63) dX6_of_62 rfl rfl ?_
      refine WG.callVd (cat) m_X6_80 b_X6_at rfl rfl rfl (zrk_of rfl) rfl (Nat.le_of_ble_eq_true rfl) dX6_of_63 (pc' := 66) rfl ?_
      refine WG.i2l (pc' := 67) dX6_of_66 rfl ?_
      refine WG.lreturn dX6_of_67 rfl ?_
      exact zokl hX zFr.rf (he (by decide)) rfl
    by_cases e_15_1 : w = 1
    · refine WG.tableE (v := 1) (tgt := 60) e_15_1 dX6_of_15 (by decide) (by decide) rfl (by decide) ?_
      subst e_15_1
      have cat := c_X6_at hS hj 1 (by decide)
      refine WG.aload_n (pc' := 61) dX6_of_60 rfl rfl ?_
      refine WG.iload_n (pc' := 62) dX6_of_61 rfl rfl ?_
      refine WG.iload_n (pc' := 63) dX6_of_62 rfl rfl ?_
      refine WG.callVd (cat) m_X6_80 b_X6_at rfl rfl rfl (zrk_of rfl) rfl (Nat.le_of_ble_eq_true rfl) dX6_of_63 (pc' := 66) rfl ?_
      refine WG.i2l (pc' := 67) dX6_of_66 rfl ?_
      refine WG.lreturn dX6_of_67 rfl ?_
      exact zokl hX zFr.rf (he (by decide)) rfl
    by_cases e_15_2 : w = 2
    · refine WG.tableE (v := 2) (tgt := 60) e_15_2 dX6_of_15 (by decide) (by decide) rfl (by decide) ?_
      subst e_15_2
      have cat := c_X6_at hS hj 2 (by decide)
      refine WG.aload_n (pc' := 61) dX6_of_60 rfl rfl ?_
      refine WG.iload_n (pc' := 62) dX6_of_61 rfl rfl ?_
      refine WG.iload_n (pc' := 63) dX6_of_62 rfl rfl ?_
      refine WG.callVd (cat) m_X6_80 b_X6_at rfl rfl rfl (zrk_of rfl) rfl (Nat.le_of_ble_eq_true rfl) dX6_of_63 (pc' := 66) rfl ?_
      refine WG.i2l (pc' := 67) dX6_of_66 rfl ?_
      refine WG.lreturn dX6_of_67 rfl ?_
      exact zokl hX zFr.rf (he (by decide)) rfl
    by_cases e_15_3 : w = 3
    · refine WG.tableE (v := 3) (tgt := 60) e_15_3 dX6_of_15 (by decide) (by decide) rfl (by decide) ?_
      subst e_15_3
      have cat := c_X6_at hS hj 3 (by decide)
      refine WG.aload_n (pc' := 61) dX6_of_60 rfl rfl ?_
      refine WG.iload_n (pc' := 62) dX6_of_61 rfl rfl ?_
      refine WG.iload_n (pc' := 63) dX6_of_62 rfl rfl ?_
      refine WG.callVd (cat) m_X6_80 b_X6_at rfl rfl rfl (zrk_of rfl) rfl (Nat.le_of_ble_eq_true rfl) dX6_of_63 (pc' := 66) rfl ?_
      refine WG.i2l (pc' := 67) dX6_of_66 rfl ?_
      refine WG.lreturn dX6_of_67 rfl ?_
      exact zokl hX zFr.rf (he (by decide)) rfl
    by_cases e_15_4 : w = 4
    · refine WG.tableE (v := 4) (tgt := 60) e_15_4 dX6_of_15 (by decide) (by decide) rfl (by decide) ?_
      subst e_15_4
      have cat := c_X6_at hS hj 4 (by decide)
      refine WG.aload_n (pc' := 61) dX6_of_60 rfl rfl ?_
      refine WG.iload_n (pc' := 62) dX6_of_61 rfl rfl ?_
      refine WG.iload_n (pc' := 63) dX6_of_62 rfl rfl ?_
      refine WG.callVd (cat) m_X6_80 b_X6_at rfl rfl rfl (zrk_of rfl) rfl (Nat.le_of_ble_eq_true rfl) dX6_of_63 (pc' := 66) rfl ?_
      refine WG.i2l (pc' := 67) dX6_of_66 rfl ?_
      refine WG.lreturn dX6_of_67 rfl ?_
      exact zokl hX zFr.rf (he (by decide)) rfl
    by_cases e_15_5 : w = 5
    · refine WG.tableE (v := 5) (tgt := 68) e_15_5 dX6_of_15 (by decide) (by decide) rfl (by decide) ?_
      subst e_15_5
      refine WG.aload_n (pc' := 69) dX6_of_68 rfl rfl ?_
      refine WG.iload_n (pc' := 70) dX6_of_69 rfl rfl ?_
      refine WG.callVd (c_X6_weight hS hj) m_X6_96 b_X6_weight rfl rfl rfl (zrk_of rfl) rfl (Nat.le_of_ble_eq_true rfl) dX6_of_70 (pc' := 73) rfl ?_
      refine WG.i2l (pc' := 74) dX6_of_73 rfl ?_
      refine WG.lreturn dX6_of_74 rfl ?_
      exact zokl hX zFr.rf (he (by decide)) rfl
    by_cases e_15_6 : w = 6
    · refine WG.tableE (v := 6) (tgt := 75) e_15_6 dX6_of_15 (by decide) (by decide) rfl (by decide) ?_
      subst e_15_6
      refine WG.aload_n (pc' := 76) dX6_of_75 rfl rfl ?_
      refine WG.iload_n (pc' := 77) dX6_of_76 rfl rfl ?_
      refine WG.iconst (v := 0) (pc' := 78) dX6_of_77 rfl rfl ?_
      refine WG.callVd (c_X6_step (a := 0) hS hj (by decide)) m_X6_93 b_X6_step rfl rfl rfl (zrk_of rfl) rfl (Nat.le_of_ble_eq_true rfl) dX6_of_78 (pc' := 81) rfl ?_
      refine WG.i2l (pc' := 82) dX6_of_81 rfl ?_
      refine WG.lreturn dX6_of_82 rfl ?_
      exact zokl hX zFr.rf (he (by decide)) rfl
    by_cases e_15_7 : w = 7
    · refine WG.tableE (v := 7) (tgt := 83) e_15_7 dX6_of_15 (by decide) (by decide) rfl (by decide) ?_
      subst e_15_7
      refine WG.aload_n (pc' := 84) dX6_of_83 rfl rfl ?_
      refine WG.iload_n (pc' := 85) dX6_of_84 rfl rfl ?_
      refine WG.iconst (v := 1) (pc' := 86) dX6_of_85 rfl rfl ?_
      refine WG.callVd (c_X6_step (a := 1) hS hj (by decide)) m_X6_93 b_X6_step rfl rfl rfl (zrk_of rfl) rfl (Nat.le_of_ble_eq_true rfl) dX6_of_86 (pc' := 89) rfl ?_
      refine WG.i2l (pc' := 90) dX6_of_89 rfl ?_
      refine WG.lreturn dX6_of_90 rfl ?_
      exact zokl hX zFr.rf (he (by decide)) rfl
    refine WG.tableOut (tgt := 91) dX6_of_15 (zsw 0 8 (fun j hj => match j, hj with | 0, _ => e_15_0 | 1, _ => e_15_1 | 2, _ => e_15_2 | 3, _ => e_15_3 | 4, _ => e_15_4 | 5, _ => e_15_5 | 6, _ => e_15_6 | 7, _ => e_15_7 | a + 8, h9 => absurd h9 (by omega))) (by decide) ?_
    refine WG.aload_n (pc' := 92) dX6_of_91 rfl rfl ?_
    refine WG.bipush (v := -2) (pc' := 94) dX6_of_92 rfl rfl ?_
    refine WG.callVd (c_X6_far 2 (by decide)) m_X6_177 b_X6_far rfl rfl rfl (zrk_of rfl) rfl (Nat.le_of_ble_eq_true rfl) dX6_of_94 (pc' := 97) rfl ?_
    refine WG.lreturn dX6_of_97 rfl ?_
    exact zrMl hX zFr.rf (by decide) (he2 (by
      have z := zsw (x := w) 0 8 (fun j hj => match j, hj with | 0, _ => e_15_0 | 1, _ => e_15_1 | 2, _ => e_15_2 | 3, _ => e_15_3 | 4, _ => e_15_4 | 5, _ => e_15_5 | 6, _ => e_15_6 | 7, _ => e_15_7 | a + 8, h9 => absurd h9 (by omega))
      rw [Int32.lt_iff_toInt_lt, Int32.lt_iff_toInt_lt, show (0 : Int32).toInt = 0 by decide, show (7 : Int32).toInt = 7 by decide]
      omega))
  · rw [zb_eq] at c_5
    refine WG.aload_n (pc' := 9) dX6_of_8 rfl rfl ?_
    refine WG.iconst (v := -1) (pc' := 10) dX6_of_9 rfl rfl ?_
    refine WG.callVd (c_X6_far 1 (by decide)) m_X6_177 b_X6_far rfl rfl rfl (zrk_of rfl) rfl (Nat.le_of_ble_eq_true rfl) dX6_of_10 (pc' := 13) rfl ?_
    refine WG.lreturn dX6_of_13 rfl ?_
    exact zrMl hX zFr.rf (by decide) (zes_t c_5)
noncomputable def zeW (w : Int32) : Int32 := zes [(¬ (w = 0 ∨ w = 1), -2)]
theorem zin01 (x : Int32) : (0 ≤ x.toInt64 ∧ x.toInt64 ≤ 1) ↔ (x = 0 ∨ x = 1) := by
  rw [Int64.le_iff_toInt_le, Int64.le_iff_toInt_le, zi64, show (0 : Int64).toInt = 0 by decide, show (1 : Int64).toInt = 1 by decide, ← Int32.toInt_inj, ← Int32.toInt_inj, show (0 : Int32).toInt = 0 by decide, show (1 : Int32).toInt = 1 by decide]
  omega
set_option maxHeartbeats 4000000 in
set_option maxRecDepth 100000 in
theorem x_miss {σ : zA} {h : zH} (hX : RX σ h) (w : Int32) : K_X5_miss [.ref 0, .int w] h (zPl RX zB1 h σ (zeW w) (zmf σ.1.2 w.toNatClampNeg σ.1.1).toInt64) := by
  have hS := hX.1
  have hn := hS.2.1
  refine CT.of rfl rfl (Nat.le_of_ble_eq_true rfl) rfl ?_
  refine WG.iload_n (pc' := 1) dX5_miss_0 rfl rfl ?_
  refine WG.callSd (c_X5_isOneOfTwo h w) m_X5_144 b_X5_isOneOfTwo rfl (zrk_of rfl) rfl (Nat.le_of_ble_eq_true rfl) dX5_miss_1 (pc' := 4) rfl ?_
  refine WG.if_ne (tgt := 14) (pc' := 7) dX5_miss_4 rfl (by decide) (fun c_4 => ?_) (fun c_4 => ?_)
  · rw [zb_ne] at c_4
    refine WG.iload_n (pc' := 15) dX5_miss_14 rfl rfl ?_
    refine WG.if_ne (tgt := 36) (pc' := 18) dX5_miss_15 rfl (by decide) (fun c_15 => ?_) (fun c_15 => ?_)
    · refine WG.aload_n (pc' := 37) dX5_miss_36 rfl rfl ?_
      refine WG.getR (r := 1) f_X5_10 (pc' := 40) dX5_miss_37 rfl rfl rfl rfl ?_
      refine WG.aload_n (pc' := 41) dX5_miss_40 rfl rfl ?_
      refine WG.getR (r := 1) f_X5_10 (pc' := 44) dX5_miss_41 rfl rfl rfl rfl ?_
      refine WG.callVd (c_X4_all hS) m_X5_147 b_X4_all rfl rfl rfl (zrk_of rfl) rfl (Nat.le_of_ble_eq_true rfl) dX5_miss_44 (pc' := 47) rfl ?_
      refine WG.callVd (c_X4_missNorth hS _) m_X5_153 b_X4_missNorth rfl rfl rfl (zrk_of rfl) rfl (Nat.le_of_ble_eq_true rfl) dX5_miss_47 (pc' := 50) rfl ?_
      refine WG.i2l (pc' := 51) dX5_miss_50 rfl ?_
      refine WG.lreturn dX5_miss_51 rfl ?_
      exact zokl hX zFr.rf (zes_n c_4) (by rw [zms_all hn]; first | (rw [show w = 0 from c_15]; rfl) | (rw [show w = 1 from c_4.resolve_left c_15]; rfl))
    · refine WG.aload_n (pc' := 19) dX5_miss_18 rfl rfl ?_
      refine WG.getR (r := 1) f_X5_10 (pc' := 22) dX5_miss_19 rfl rfl rfl rfl ?_
      refine WG.aload_n (pc' := 23) dX5_miss_22 rfl rfl ?_
      refine WG.getR (r := 1) f_X5_10 (pc' := 26) dX5_miss_23 rfl rfl rfl rfl ?_
      refine WG.callVd (c_X4_all hS) m_X5_147 b_X4_all rfl rfl rfl (zrk_of rfl) rfl (Nat.le_of_ble_eq_true rfl) dX5_miss_26 (pc' := 29) rfl ?_
      refine WG.callVd (c_X4_missEast hS _) m_X5_150 b_X4_missEast rfl rfl rfl (zrk_of rfl) rfl (Nat.le_of_ble_eq_true rfl) dX5_miss_29 (pc' := 32) rfl ?_
      refine WG.i2l (pc' := 33) dX5_miss_32 rfl ?_
      refine WG.goto (tgt := 51) dX5_miss_33 (by decide) ?_
      refine WG.lreturn dX5_miss_51 rfl ?_
      exact zokl hX zFr.rf (zes_n c_4) (by rw [zms_all hn]; first | (rw [show w = 0 from c_15]; rfl) | (rw [show w = 1 from c_4.resolve_left c_15]; rfl))
  · rw [zb_eq] at c_4
    refine WG.aload_n (pc' := 8) dX5_miss_7 rfl rfl ?_
    refine WG.bipush (v := -2) (pc' := 10) dX5_miss_8 rfl rfl ?_
    refine WG.callVd (c_X5_refuseLong 2 (by decide)) m_X5_116 b_X5_refuseLong rfl rfl rfl (zrk_of rfl) rfl (Nat.le_of_ble_eq_true rfl) dX5_miss_10 (pc' := 13) rfl ?_
    refine WG.lreturn dX5_miss_13 rfl ?_
    exact zrXl hX zFr.rf (by decide) (zes_t c_4)
set_option maxHeartbeats 4000000 in
set_option maxRecDepth 100000 in
theorem m_miss {σ : zA} {h : zH} (hX : RM σ h) (w : Int32) : K_X6_miss [.ref 86, .int w] h (zPl RM zB2 h σ (zeW w) (zmf σ.1.2 w.toNatClampNeg σ.1.1).toInt64) := by
  have hS := hX.1
  have hn := hS.1
  refine CT.of rfl rfl (Nat.le_of_ble_eq_true rfl) rfl ?_
  refine WG.iload_n (pc' := 1) dX6_miss_0 rfl rfl ?_
  refine WG.i2l (pc' := 2) dX6_miss_1 rfl ?_
  refine WG.lconst (v := 0) (pc' := 3) dX6_miss_2 rfl rfl ?_
  refine WG.lconst (v := 1) (pc' := 4) dX6_miss_3 rfl rfl ?_
  refine WG.callSd (c_X6_in _ _ _ _) m_X6_67 b_X6_in rfl (zrk_of rfl) rfl (Nat.le_of_ble_eq_true rfl) dX6_miss_4 (pc' := 7) rfl ?_
  refine WG.if_eq (tgt := 19) (pc' := 10) dX6_miss_7 rfl (by decide) (fun c_7 => ?_) (fun c_7 => ?_)
  · rw [zb_eq, zin01] at c_7
    refine WG.aload_n (pc' := 20) dX6_miss_19 rfl rfl ?_
    refine WG.bipush (v := -2) (pc' := 22) dX6_miss_20 rfl rfl ?_
    refine WG.callVd (c_X6_far 2 (by decide)) m_X6_177 b_X6_far rfl rfl rfl (zrk_of rfl) rfl (Nat.le_of_ble_eq_true rfl) dX6_miss_22 (pc' := 25) rfl ?_
    refine WG.lreturn dX6_miss_25 rfl ?_
    first
      | exact zokl hX zFr.rf (zes_n c_7) (by rw [nI_clamp (by omega)])
      | exact zrMl hX zFr.rf (by decide) (zes_t c_7)
  · rw [zb_nn, zin01] at c_7
    obtain ⟨j, hj, rfl⟩ : ∃ j, j < 2 ∧ w = nI j := by
      rcases c_7 with q | q
      · exact ⟨0, by decide, q⟩
      · exact ⟨1, by decide, q⟩
    refine WG.aload_n (pc' := 11) dX6_miss_10 rfl rfl ?_
    refine WG.iload_n (pc' := 12) dX6_miss_11 rfl rfl ?_
    refine WG.callVd (c_X6_missOf hS hj) m_X6_181 b_X6_missOf rfl rfl rfl (zrk_of rfl) rfl (Nat.le_of_ble_eq_true rfl) dX6_miss_12 (pc' := 15) rfl ?_
    refine WG.i2l (pc' := 16) dX6_miss_15 rfl ?_
    refine WG.goto (tgt := 25) dX6_miss_16 (by decide) ?_
    refine WG.lreturn dX6_miss_25 rfl ?_
    first
      | exact zokl hX zFr.rf (zes_n c_7) (by rw [nI_clamp (by omega)])
      | exact zrMl hX zFr.rf (by decide) (zes_t c_7)
noncomputable def zeLo (n : Nat) (s w : Int32) : Int32 := zes [(¬ zsd n s, -1), (¬ (w = 0 ∨ w = 1), -2)]
theorem zbut8 : ∀ n, n < 9 → ∀ s, s < n → ∀ i, i < n → ((zbut n s >>> (nI i &&& 31)) &&& 1) = if i = s then 0 else 1 := by decide +kernel
theorem zsum_add (g g' : Nat → Int32) : ∀ n, zsum (fun i => g i + g' i) n = zsum g n + zsum g' n := by
  intro n
  induction n with
  | zero => rfl
  | succ n ih => show zsum _ n + _ = _; rw [ih]; show _ = (zsum g n + g n) + (zsum g' n + g' n); grind
theorem zsum_one (g : Nat → Int32) (s : Nat) : ∀ n, zsum (fun i => if i = s then g i else 0) n = if s < n then g s else 0 := by
  intro n
  induction n with
  | zero => rfl
  | succ n ih =>
    show zsum _ n + (if n = s then g n else 0) = _
    rw [ih]
    by_cases c : n = s
    · subst c; rw [if_pos rfl, if_neg (by omega), if_pos (by omega)]; grind
    · rw [if_neg c]
      by_cases c2 : s < n
      · rw [if_pos c2, if_pos (by omega)]; grind
      · rw [if_neg c2, if_neg (by omega)]; grind
/-- without a side: the sum less its step -/
theorem zms_but {f : zf} {a n s : Nat} (hn : n ≤ 8) (hs : s < n) : zms f a (zbut n s) n = zmf f a n - zsp f s a := by
  have h1 : zms f a (zbut n s) n + zsum (fun i => if i = s then zsp f i a else 0) n = zmf f a n := by
    unfold zms zmf
    rw [← zsum_add]
    refine zsum_eq n (fun i hi => ?_)
    rw [zbut8 n (by omega) s hs i hi]
    by_cases c : i = s
    · rw [if_pos c, if_pos c]; grind
    · rw [if_neg c, if_neg c]; grind
  rw [zsum_one, if_pos hs] at h1
  grind
set_option maxHeartbeats 4000000 in
set_option maxRecDepth 100000 in
theorem x_lost {σ : zA} {h : zH} (hX : RX σ h) (s w : Int32) : K_X5_lost [.ref 0, .int s, .int w] h (zPl RX zB1 h σ (zeLo σ.1.1 s w) (-(zmf σ.1.2 w.toNatClampNeg σ.1.1 - zsp σ.1.2 s.toNatClampNeg w.toNatClampNeg)).toInt64) := by
  have hS := hX.1
  have hn := hS.2.1
  refine CT.of rfl rfl (Nat.le_of_ble_eq_true rfl) rfl ?_
  refine WG.aload_n (pc' := 1) dX5_lost_0 rfl rfl ?_
  refine WG.getR (r := 1) f_X5_10 (pc' := 4) dX5_lost_1 rfl rfl rfl rfl ?_
  refine WG.iload_n (pc' := 5) dX5_lost_4 rfl rfl ?_
  refine WG.callVd (c_X4_has hS s) m_X5_105 b_X4_has rfl rfl rfl (zrk_of rfl) rfl (Nat.le_of_ble_eq_true rfl) dX5_lost_5 (pc' := 8) rfl ?_
  refine WG.if_ne (tgt := 17) (pc' := 11) dX5_lost_8 rfl (by decide) (fun c_8 => ?_) (fun c_8 => ?_)
  · rw [zb_ne] at c_8
    have he := fun z : (w = 0 ∨ w = 1) => (zes_n (c := -1) (t := [(¬ (w = 0 ∨ w = 1), -2)]) c_8).trans (zes_n (c := -2) (t := []) z)
    have he2 := fun z : ¬ (w = 0 ∨ w = 1) => (zes_n (c := -1) (t := [(¬ (w = 0 ∨ w = 1), -2)]) c_8).trans (zes_t (c := -2) (t := []) z)
    obtain ⟨j, hj, rfl⟩ := zsd_of (by omega) c_8
    rw [nI_clamp (by omega)]
    refine WG.iload_n (pc' := 18) dX5_lost_17 rfl rfl ?_
    refine WG.callSd (c_X5_isOneOfTwo h w) m_X5_144 b_X5_isOneOfTwo rfl (zrk_of rfl) rfl (Nat.le_of_ble_eq_true rfl) dX5_lost_18 (pc' := 21) rfl ?_
    refine WG.if_ne (tgt := 31) (pc' := 24) dX5_lost_21 rfl (by decide) (fun c_21 => ?_) (fun c_21 => ?_)
    · rw [zb_ne] at c_21
      refine WG.aload_n (pc' := 32) dX5_lost_31 rfl rfl ?_
      refine WG.getR (r := 1) f_X5_10 (pc' := 35) dX5_lost_32 rfl rfl rfl rfl ?_
      refine WG.iload_n (pc' := 36) dX5_lost_35 rfl rfl ?_
      refine WG.callVd (c_X4_allBut hS) m_X5_210 b_X4_allBut rfl rfl rfl (zrk_of rfl) rfl (Nat.le_of_ble_eq_true rfl) dX5_lost_36 (pc' := 39) rfl ?_
      refine WG.istore_n (L' := [_, _, _, _]) (pc' := 40) dX5_lost_39 rfl (by decide) rfl ?_
      refine WG.iload_n (pc' := 41) dX5_lost_40 rfl rfl ?_
      refine WG.if_ne (tgt := 57) (pc' := 44) dX5_lost_41 rfl (by decide) (fun c_41 => ?_) (fun c_41 => ?_)
      · refine WG.aload_n (pc' := 58) dX5_lost_57 rfl rfl ?_
        refine WG.getR (r := 1) f_X5_10 (pc' := 61) dX5_lost_58 rfl rfl rfl rfl ?_
        refine WG.iload_n (pc' := 62) dX5_lost_61 rfl rfl ?_
        refine WG.callVd (c_X4_missNorth hS _) m_X5_153 b_X4_missNorth rfl rfl rfl (zrk_of rfl) rfl (Nat.le_of_ble_eq_true rfl) dX5_lost_62 (pc' := 65) rfl ?_
        refine WG.ineg (pc' := 66) dX5_lost_65 rfl ?_
        refine WG.i2l (pc' := 67) dX5_lost_66 rfl ?_
        refine WG.lreturn dX5_lost_67 rfl ?_
        exact zokl hX zFr.rf (he c_21) (by rw [zms_but hn hj]; first | (rw [show w = 0 from c_41]; rfl) | (rw [show w = 1 from c_21.resolve_left c_41]; rfl))
      · refine WG.aload_n (pc' := 45) dX5_lost_44 rfl rfl ?_
        refine WG.getR (r := 1) f_X5_10 (pc' := 48) dX5_lost_45 rfl rfl rfl rfl ?_
        refine WG.iload_n (pc' := 49) dX5_lost_48 rfl rfl ?_
        refine WG.callVd (c_X4_missEast hS _) m_X5_150 b_X4_missEast rfl rfl rfl (zrk_of rfl) rfl (Nat.le_of_ble_eq_true rfl) dX5_lost_49 (pc' := 52) rfl ?_
        refine WG.ineg (pc' := 53) dX5_lost_52 rfl ?_
        refine WG.i2l (pc' := 54) dX5_lost_53 rfl ?_
        refine WG.goto (tgt := 67) dX5_lost_54 (by decide) ?_
        refine WG.lreturn dX5_lost_67 rfl ?_
        exact zokl hX zFr.rf (he c_21) (by rw [zms_but hn hj]; first | (rw [show w = 0 from c_41]; rfl) | (rw [show w = 1 from c_21.resolve_left c_41]; rfl))
    · rw [zb_eq] at c_21
      refine WG.aload_n (pc' := 25) dX5_lost_24 rfl rfl ?_
      refine WG.bipush (v := -2) (pc' := 27) dX5_lost_25 rfl rfl ?_
      refine WG.callVd (c_X5_refuseLong 2 (by decide)) m_X5_116 b_X5_refuseLong rfl rfl rfl (zrk_of rfl) rfl (Nat.le_of_ble_eq_true rfl) dX5_lost_27 (pc' := 30) rfl ?_
      refine WG.lreturn dX5_lost_30 rfl ?_
      exact zrXl hX zFr.rf (by decide) (he2 c_21)
  · rw [zb_eq] at c_8
    refine WG.aload_n (pc' := 12) dX5_lost_11 rfl rfl ?_
    refine WG.iconst (v := -1) (pc' := 13) dX5_lost_12 rfl rfl ?_
    refine WG.callVd (c_X5_refuseLong 1 (by decide)) m_X5_116 b_X5_refuseLong rfl rfl rfl (zrk_of rfl) rfl (Nat.le_of_ble_eq_true rfl) dX5_lost_13 (pc' := 16) rfl ?_
    refine WG.lreturn dX5_lost_16 rfl ?_
    exact zrXl hX zFr.rf (by decide) (zes_t c_8)
