/-! tells: the class's -/
noncomputable def zRt (σ : zA) : Int32 × (Nat × zf) := zrd σ.2.2.2.1 (σ.2.2.2.1.1 + 1) 0 0 none σ.1
noncomputable def zsT (σ : zA) : zA := if 0 < (zRt σ).1 then zch (zsTO σ (0, σ.2.2.2.1.2) σ.2.2.2.2.1) (zRt σ).2 else zsTO σ (0, σ.2.2.2.1.2) σ.2.2.2.2.1
set_option maxHeartbeats 4000000 in
set_option maxRecDepth 100000 in
theorem x_tells {σ : zA} {h : zH} (hX : RX σ h) : K_X5_tells [.ref 0] h (zPi RX zB1 h σ 0 (zRt σ).1 (zsT σ)) := by
  have hS := hX.1
  have hT := hX.2.2.2.1
  have hk7 : isS 7 := by simp [isS]
  have hk1 : isS 1 := by simp [isS]
  refine CT.of rfl rfl (Nat.le_of_ble_eq_true rfl) rfl ?_
  refine WG.aload_n (pc' := 1) dX5_tells_0 rfl rfl ?_
  refine WG.getR (r := 7) f_X5_16 (pc' := 4) dX5_tells_1 rfl rfl rfl rfl ?_
  refine WG.aload_n (pc' := 5) dX5_tells_4 rfl rfl ?_
  refine WG.getR (r := 1) f_X5_10 (pc' := 8) dX5_tells_5 rfl rfl rfl rfl ?_
  refine WG.callV (c_X4_become hk7 hS (by decide)) m_X5_75 b_X4_become rfl rfl rfl (zrk_of rfl) rfl (Nat.le_of_ble_eq_true rfl) dX5_tells_8 (pc' := 11) rfl (fun r_ h_ q_ => ?_)
  obtain ⟨rfl, hD, hF0⟩ := q_
  have hX1 : RX σ h_ := hX.fo hF0 (fun o z => Or.inl ⟨z.1, by have := z.2; omega⟩)
  have hT1 := hX1.2.2.2.1
  generalize h_ = h1 at *
  refine WG.aload_n (pc' := 12) dX5_tells_11 rfl rfl ?_
  refine WG.getR (r := 74) f_X5_43 (pc' := 15) dX5_tells_12 rfl rfl rfl rfl ?_
  refine WG.aload_n (pc' := 16) dX5_tells_15 rfl rfl ?_
  refine WG.getR (r := 76) f_X5_47 (pc' := 19) dX5_tells_16 rfl rfl rfl rfl ?_
  refine WG.aload_n (pc' := 20) dX5_tells_19 rfl rfl ?_
  refine WG.getI f_X5_51 (pc' := 23) dX5_tells_20 rfl rfl rfl ?_
  refine WG.aload_n (pc' := 24) dX5_tells_23 rfl rfl ?_
  refine WG.getR (r := 7) f_X5_16 (pc' := 27) dX5_tells_24 rfl rfl rfl rfl ?_
  rw [hT1.2.1]
  refine WG.callV (c_X2_read hD hT1.1 hT1.2.2) m_X5_79 b_X2_read rfl rfl rfl (zrk_of rfl) rfl (Nat.le_of_ble_eq_true rfl) dX5_tells_27 (pc' := 30) rfl (fun r_ h_ q_ => ?_)
  obtain ⟨rfl, hok, hF1⟩ := q_
  have eR : zrd σ.2.2.2.1 (σ.2.2.2.1.1 + 1) 0 0 none (σ.1.1, σ.1.2) = zRt σ := rfl
  rw [eR] at hok
  have hX2 : RX σ h_ := hX1.fo hF1 (fun o z => by
    rcases z with (z | z) | ⟨z1, z2⟩
    · exact Or.inr (Or.inl (by omega))
    · exact Or.inr (Or.inl (by omega))
    · exact Or.inl (by omega))
  have hB2 : zFr zB1 h h_ := (hF0.mo (fun o z => by obtain ⟨z1, z2⟩ := z; show o < 86; omega)).tr (hF1.mo (fun o z => by
    show o < 86
    rcases z with (z | z) | ⟨z1, z2⟩ <;> omega))
  have hO2 := hX2.2.2.2.2.1
  have hX3 : RX (zsTO σ (0, σ.2.2.2.1.2) σ.2.2.2.2.1) (zI h_ 0 8 0) := hX2.rows ((zFr.rf (P := fun o => o = 0 ∨ o = 76 ∨ o = 77)).I (Or.inl rfl)) (by rw [zI_1, if_neg (by omega)]) (⟨Nat.zero_le _, by rw [zI_1, if_pos ⟨rfl, rfl⟩]; rfl, fun i hi => absurd hi (Nat.not_lt_zero _)⟩) (⟨hO2.1, by rw [zI_1, if_neg (by omega)]; exact hO2.2.1, fun i hi => by rw [zI_1, if_neg (by omega)]; exact hO2.2.2 i hi⟩)
  have hB3 : zFr zB1 h (zI h_ 0 8 0) := hB2.I (by show 0 < 86; decide)
  refine WG.istore_n (L' := [_, _]) (pc' := 31) dX5_tells_30 rfl (by decide) rfl ?_
  refine WG.aload_n (pc' := 32) dX5_tells_31 rfl rfl ?_
  refine WG.iconst (v := 0) (pc' := 33) dX5_tells_32 rfl rfl ?_
  refine WG.putI p_X5_51 (pc' := 36) dX5_tells_33 rfl rfl rfl rfl rfl ?_
  rw [eR]
  refine WG.iload_n (pc' := 37) dX5_tells_36 rfl rfl ?_
  refine WG.if_le (tgt := 62) (pc' := 40) dX5_tells_37 rfl (by decide) (fun c_37 => ?_) (fun c_37 => ?_)
  · have np : ¬ 0 < (zRt σ).1 := by grind
    have eS : zsT σ = zsTO σ (0, σ.2.2.2.1.2) σ.2.2.2.2.1 := if_neg np
    refine WG.iload_n (pc' := 63) dX5_tells_62 rfl rfl ?_
    refine WG.ireturn dX5_tells_63 rfl (by first | rfl | decide) ?_
    first
      | exact zok (by rw [eS]; exact hX3.ch hP4 hF4 hS5 hF5) (hB3.tr (zB_ch hF4 hF5)) rfl rfl
      | exact zok (by rw [eS]; exact hX3) hB3 rfl rfl
  · have hp : 0 < (zRt σ).1 := by grind
    have eS : zsT σ = zch (zsTO σ (0, σ.2.2.2.1.2) σ.2.2.2.2.1) (zRt σ).2 := if_pos hp
    have hD3 : RS 7 (zRt σ).2.1 (zRt σ).2.2 (zI h_ 0 8 0) := (hok hp).fo ((zFr.rf (P := fun o => o = 0)).I rfl) (fun o z => by omega)
    obtain ⟨nx, hP3⟩ := hX3.2.1
    have hS3 := hX3.1
    generalize zI h_ 0 8 0 = h3 at *
    refine WG.aload_n (pc' := 41) dX5_tells_40 rfl rfl ?_
    refine WG.getR (r := 19) f_X5_29 (pc' := 44) dX5_tells_41 rfl rfl rfl rfl ?_
    refine WG.aload_n (pc' := 45) dX5_tells_44 rfl rfl ?_
    refine WG.getR (r := 1) f_X5_10 (pc' := 48) dX5_tells_45 rfl rfl rfl rfl ?_
    refine WG.callV (c_X1_keep hP3 hS3 (by decide)) m_X5_83 b_X1_keep rfl rfl rfl (zrk_of rfl) rfl (Nat.le_of_ble_eq_true rfl) dX5_tells_48 (pc' := 51) rfl (fun r_ h_ q_ => ?_)
    obtain ⟨rfl, hP4, hF4⟩ := q_
    have hD4 := hD3.fo hF4 (fun o z => by obtain ⟨z1, z2⟩ := z; omega)
    refine WG.aload_n (pc' := 52) dX5_tells_51 rfl rfl ?_
    refine WG.getR (r := 1) f_X5_10 (pc' := 55) dX5_tells_52 rfl rfl rfl rfl ?_
    refine WG.aload_n (pc' := 56) dX5_tells_55 rfl rfl ?_
    refine WG.getR (r := 7) f_X5_16 (pc' := 59) dX5_tells_56 rfl rfl rfl rfl ?_
    refine WG.callV (c_X4_become hk1 hD4 (by decide)) m_X5_75 b_X4_become rfl rfl rfl (zrk_of rfl) rfl (Nat.le_of_ble_eq_true rfl) dX5_tells_59 (pc' := 62) rfl (fun r_ h_ q_ => ?_)
    obtain ⟨rfl, hS5, hF5⟩ := q_
    refine WG.iload_n (pc' := 63) dX5_tells_62 rfl rfl ?_
    refine WG.ireturn dX5_tells_63 rfl (by first | rfl | decide) ?_
    first
      | exact zok (by rw [eS]; exact hX3.ch hP4 hF4 hS5 hF5) (hB3.tr (zB_ch hF4 hF5)) rfl rfl
      | exact zok (by rw [eS]; exact hX3) hB3 rfl rfl
