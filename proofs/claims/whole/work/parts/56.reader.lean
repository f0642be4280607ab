/-! the class's reader -/
def RRd (acc : zac) (fm j : Nat) (b c : Int32) (h : zH) : Prop := h.1 74 1 = nI acc.1 ∧ h.1 74 2 = c ∧ h.1 74 3 = nI fm ∧ h.1 74 4 = nI j ∧ h.1 74 5 = b ∧ ∀ i, i < acc.1 → h.1 75 i = acc.2 i
def zFR : Nat → Prop := fun o => o = 74 ∨ o = 75
theorem RRd.fo {acc : zac} {fm j : Nat} {b c : Int32} {P : Nat → Prop} {h h' : zH} (hR : RRd acc fm j b c h) (hf : zFr P h h') (h1 : ¬ P 74) (h2 : ¬ P 75) : RRd acc fm j b c h' := by
  unfold RRd
  rw [hf.1 74 h1, hf.1 75 h2]; exact hR
set_option maxHeartbeats 4000000 in
set_option maxRecDepth 100000 in
theorem c_X2_between {acc : zac} {fm j : Nat} {b c : Int32} {h : zH} (hR : RRd acc fm j b c h) (hf : fm < 6) (hj : j < 1000) : K_X2_isBetweenStatements [.ref 74] h (zD (some (.int (zb (zlen.getD fm 0 ≤ j)))) h) := by
  have l9 := (zlen9 fm hf).1
  have e : nI j < nI (zlen.getD fm 0) ↔ j < zlen.getD fm 0 := nI_ltI (by omega) (by omega)
  refine CT.of rfl rfl (Nat.le_of_ble_eq_true rfl) rfl ?_
  refine WG.aload_n (pc' := 1) dX2_isBetweenStatements_0 rfl rfl ?_
  refine WG.getI f_X2_28 (pc' := 4) dX2_isBetweenStatements_1 rfl rfl rfl ?_
  refine WG.aload_n (pc' := 5) dX2_isBetweenStatements_4 rfl rfl ?_
  rw [hR.2.2.2.1]
  refine WG.getT f_X2_24 (pc' := 8) dX2_isBetweenStatements_5 rfl rfl rfl ?_
  rw [hR.2.2.1, nI_clamp (show fm < 2 ^ 31 by omega)]
  refine WG.callVs (c_J0_length hf _) m_X2_47 b_J0_length_8abf5 (by first | assumption | omega | decide) rfl rfl (zrk_of rfl) rfl (Nat.le_of_ble_eq_true rfl) dX2_isBetweenStatements_8 (pc' := 11) rfl ?_
  refine WG.icmp_lt (tgt := 18) (pc' := 14) dX2_isBetweenStatements_11 rfl (by decide) (fun c_11 => ?_) (fun c_11 => ?_)
  · have c11 := e.mp c_11
    refine WG.iconst (v := 0) (pc' := 19) dX2_isBetweenStatements_18 rfl rfl ?_
    refine WG.ireturn dX2_isBetweenStatements_19 rfl (by first | rfl | decide) ?_
    exact ⟨by first | (rw [zb_t (by omega)]; done) | (rw [zb_f (by omega)]; done), rfl⟩
  · have c11 := mt e.mpr c_11
    refine WG.iconst (v := 1) (pc' := 15) dX2_isBetweenStatements_14 rfl rfl ?_
    refine WG.goto (tgt := 19) dX2_isBetweenStatements_15 (by decide) ?_
    refine WG.ireturn dX2_isBetweenStatements_19 rfl (by first | rfl | decide) ?_
    exact ⟨by first | (rw [zb_t (by omega)]; done) | (rw [zb_f (by omega)]; done), rfl⟩
set_option maxHeartbeats 4000000 in
set_option maxRecDepth 100000 in
theorem c_X2_formOf (h : zH) (x : Int32) : K_X2_formOf [.int x] h (zD (some (.ref (1000 + zfo x))) h) := by
  refine CT.of rfl rfl (Nat.le_of_ble_eq_true rfl) rfl ?_
  refine WG.iload_n (pc' := 1) dX2_formOf_0 rfl rfl ?_
  by_cases e_1_100 : x = 100
  · refine WG.lookupE (v := 100) (tgt := 61) e_1_100 dX2_formOf_1 (by decide) rfl (by decide) ?_
    refine WG.ldcS (i := 4) (pc' := 63) dX2_formOf_61 rfl rfl (by decide) rfl ?_
    refine WG.areturn dX2_formOf_63 rfl (Or.inl ⟨_, rfl⟩) ?_
    exact ⟨by rw [e_1_100]; rfl, rfl⟩
  by_cases e_1_105 : x = 105
  · refine WG.lookupE (v := 105) (tgt := 55) e_1_105 dX2_formOf_1 (by decide) rfl (by decide) ?_
    refine WG.ldcS (i := 2) (pc' := 57) dX2_formOf_55 rfl rfl (by decide) rfl ?_
    refine WG.areturn dX2_formOf_57 rfl (Or.inl ⟨_, rfl⟩) ?_
    exact ⟨by rw [e_1_105]; rfl, rfl⟩
  by_cases e_1_107 : x = 107
  · refine WG.lookupE (v := 107) (tgt := 58) e_1_107 dX2_formOf_1 (by decide) rfl (by decide) ?_
    refine WG.ldcS (i := 3) (pc' := 60) dX2_formOf_58 rfl rfl (by decide) rfl ?_
    refine WG.areturn dX2_formOf_60 rfl (Or.inl ⟨_, rfl⟩) ?_
    exact ⟨by rw [e_1_107]; rfl, rfl⟩
  by_cases e_1_114 : x = 114
  · refine WG.lookupE (v := 114) (tgt := 64) e_1_114 dX2_formOf_1 (by decide) rfl (by decide) ?_
    refine WG.ldcS (i := 5) (pc' := 66) dX2_formOf_64 rfl rfl (by decide) rfl ?_
    refine WG.areturn dX2_formOf_66 rfl (Or.inl ⟨_, rfl⟩) ?_
    exact ⟨by rw [e_1_114]; rfl, rfl⟩
  by_cases e_1_115 : x = 115
  · refine WG.lookupE (v := 115) (tgt := 52) e_1_115 dX2_formOf_1 (by decide) rfl (by decide) ?_
    refine WG.ldcS (i := 1) (pc' := 54) dX2_formOf_52 rfl rfl (by decide) rfl ?_
    refine WG.areturn dX2_formOf_54 rfl (Or.inl ⟨_, rfl⟩) ?_
    exact ⟨by rw [e_1_115]; rfl, rfl⟩
  refine WG.lookup (tgt := 67) dX2_formOf_1 (by decide) ((lv_osw e_1_100 (by decide)).trans ((lv_osw e_1_105 (by decide)).trans ((lv_osw e_1_107 (by decide)).trans ((lv_osw e_1_114 (by decide)).trans ((lv_osw e_1_115 (by decide)).trans ((Op.lookupswitch.offset_nil _ _))))))) (by decide) ?_
  refine WG.ldcS (i := 0) (pc' := 69) dX2_formOf_67 rfl rfl (by decide) rfl ?_
  refine WG.areturn dX2_formOf_69 rfl (Or.inl ⟨_, rfl⟩) ?_
  exact ⟨by unfold zfo; rw [if_neg e_1_115, if_neg e_1_105, if_neg e_1_107, if_neg e_1_100, if_neg e_1_114], rfl⟩
set_option maxHeartbeats 4000000 in
set_option maxRecDepth 100000 in
theorem c_X2_begins (h : zH) (x : Int32) : K_X2_begins [.ref 74, .int x] h (fun r h' => r = some (.int (zb (zfo x ≠ 0))) ∧ RRd (0, fun _ => 0) (zfo x) 0 0 x h' ∧ zFr zFR h h') := by
  have hx := zfo_lt x
  refine CT.of rfl rfl (Nat.le_of_ble_eq_true rfl) rfl ?_
  have J : ∀ h', RRd (0, fun _ => 0) (zfo x) 0 0 x h' → zFr zFR h h' → W_X2_begins (fun r h' => r = some (.int (zb (zfo x ≠ 0))) ∧ RRd (0, fun _ => 0) (zfo x) 0 0 x h' ∧ zFr zFR h h') 28 [some (.ref 74), some (.int x)] [] h' := by
    intro h' q1 q2
    refine WG.aload_n (pc' := 29) dX2_begins_28 rfl rfl ?_
    refine WG.getT f_X2_24 (pc' := 32) dX2_begins_29 rfl rfl rfl ?_
    rw [q1.2.2.1, nI_clamp (show zfo x < 2 ^ 31 by omega)]
    refine WG.callVs (c_J0_isEmpty hx _) m_X2_67 b_J0_isEmpty_aae02 (by first | assumption | omega | decide) rfl rfl (zrk_of rfl) rfl (Nat.le_of_ble_eq_true rfl) dX2_begins_32 (pc' := 35) rfl ?_
    refine WG.if_ne (tgt := 42) (pc' := 38) dX2_begins_35 rfl (by decide) (fun c_35 => ?_) (fun c_35 => ?_)
    · rw [zb_ne] at c_35
      refine WG.iconst (v := 0) (pc' := 43) dX2_begins_42 rfl rfl ?_
      refine WG.ireturn dX2_begins_43 rfl (by first | rfl | decide) ?_
      exact ⟨by first | (rw [zb_t c_35]; done) | (rw [zb_f (fun z => z c_35)]; done), q1, q2⟩
    · rw [zb_eq] at c_35
      refine WG.iconst (v := 1) (pc' := 39) dX2_begins_38 rfl rfl ?_
      refine WG.goto (tgt := 43) dX2_begins_39 (by decide) ?_
      refine WG.ireturn dX2_begins_43 rfl (by first | rfl | decide) ?_
      exact ⟨by first | (rw [zb_t c_35]; done) | (rw [zb_f (fun z => z c_35)]; done), q1, q2⟩
  refine WG.aload_n (pc' := 1) dX2_begins_0 rfl rfl ?_
  refine WG.iload_n (pc' := 2) dX2_begins_1 rfl rfl ?_
  refine WG.callSd (c_X2_formOf h x) m_X2_63 b_X2_formOf rfl (zrk_of rfl) rfl (Nat.le_of_ble_eq_true rfl) dX2_begins_2 (pc' := 5) rfl ?_
  refine WG.putT (x := nI (zfo x)) p_X2_24 (pc' := 8) dX2_begins_5 rfl rfl rfl (nI_clamp (by omega)) (fun _ => rfl) (fun _ => rfl) ?_
  refine WG.aload_n (pc' := 9) dX2_begins_8 rfl rfl ?_
  refine WG.iload_n (pc' := 10) dX2_begins_9 rfl rfl ?_
  refine WG.putI p_X2_19 (pc' := 13) dX2_begins_10 rfl rfl rfl rfl rfl ?_
  refine WG.aload_n (pc' := 14) dX2_begins_13 rfl rfl ?_
  refine WG.iconst (v := 0) (pc' := 15) dX2_begins_14 rfl rfl ?_
  refine WG.putI p_X2_28 (pc' := 18) dX2_begins_15 rfl rfl rfl rfl rfl ?_
  refine WG.aload_n (pc' := 19) dX2_begins_18 rfl rfl ?_
  refine WG.iconst (v := 0) (pc' := 20) dX2_begins_19 rfl rfl ?_
  refine WG.putI p_X2_15 (pc' := 23) dX2_begins_20 rfl rfl rfl rfl rfl ?_
  refine WG.aload_n (pc' := 24) dX2_begins_23 rfl rfl ?_
  refine WG.iconst (v := 0) (pc' := 25) dX2_begins_24 rfl rfl ?_
  refine WG.putI p_X2_31 (pc' := 28) dX2_begins_25 rfl rfl rfl rfl rfl ?_
  refine J _ ⟨?_, ?_, ?_, ?_, ?_, fun i hi => absurd hi (by show ¬ i < 0; omega)⟩ (((((zFr.rf.I (Or.inl rfl)).I (Or.inl rfl)).I (Or.inl rfl)).I (Or.inl rfl)).I (Or.inl rfl)) <;> simp [zI_1, nI_0]
set_option maxHeartbeats 4000000 in
set_option maxRecDepth 100000 in
theorem c_X2_takesDigit {acc : zac} {fm j : Nat} {b c : Int32} {h : zH} (hR : RRd acc fm j b c h) (h4 : acc.1 < 4) (hj : j < 1000) (x : Int32) : K_X2_takesDigit [.ref 74, .int x] h (fun r h' => ∃ v : Int32, r = some (.int v) ∧ ((v = 0 ∧ ¬ (48 ≤ x ∧ x ≤ 57) ∧ h' = h) ∨ (v = 1 ∧ (48 ≤ x ∧ x ≤ 57) ∧ RRd (zap acc (if b = 0 then x - 48 else -(x - 48))) fm (j + 1) 0 c h' ∧ zFr zFR h h'))) := by
  obtain ⟨r1, r2, r3, r4, r5, r6⟩ := hR
  have e4 : nI acc.1 < 4 := (nI_ltI (a := acc.1) (b := 4) (by omega) (by omega)).mpr h4
  refine CT.of rfl rfl (Nat.le_of_ble_eq_true rfl) rfl ?_
  have J22 : ∀ {Q : Option Value → zH → Prop}, (∀ (v : Int32), v = (if b = 0 then x - 48 else -(x - 48)) → Q (some (.int 1)) (zI (zI (zI (zI h 75 acc.1 v) 74 1 (nI acc.1 + 1)) 74 5 0) 74 4 (nI j + 1))) → ∀ v2, W_X2_takesDigit Q 22 [some (.ref 74), some (.int x), v2] [] h := by
    intro Q fin v2
    have e1 : ∀ v, (zI h 75 acc.1 v).1 74 1 = nI acc.1 := fun v => by simp [zI_1, r1]
    have e2 : ∀ v, (zI (zI (zI h 75 acc.1 v) 74 1 (nI acc.1 + 1)) 74 5 0).1 74 4 = nI j := fun v => by simp [zI_1, r4]
    refine WG.iload_n (pc' := 23) dX2_takesDigit_22 rfl rfl ?_
    refine WG.bipush (v := 48) (pc' := 25) dX2_takesDigit_23 rfl rfl ?_
    refine WG.isub (pc' := 26) dX2_takesDigit_25 rfl ?_
    refine WG.istore_n (L' := [_, _, _]) (pc' := 27) dX2_takesDigit_26 rfl (by decide) rfl ?_
    refine WG.aload_n (pc' := 28) dX2_takesDigit_27 rfl rfl ?_
    refine WG.getR (r := 75) f_X2_11 (pc' := 31) dX2_takesDigit_28 rfl rfl rfl rfl ?_
    refine WG.aload_n (pc' := 32) dX2_takesDigit_31 rfl rfl ?_
    refine WG.getI f_X2_15 (pc' := 35) dX2_takesDigit_32 rfl rfl rfl ?_
    refine WG.aload_n (pc' := 36) dX2_takesDigit_35 rfl rfl ?_
    refine WG.getI f_X2_31 (pc' := 39) dX2_takesDigit_36 rfl rfl rfl ?_
    rw [r5]
    refine WG.if_eq (tgt := 47) (pc' := 42) dX2_takesDigit_39 rfl (by decide) (fun c_39 => ?_) (fun c_39 => ?_)
    · refine WG.iload_n (pc' := 48) dX2_takesDigit_47 rfl rfl ?_
      refine WG.iastoreN (j := acc.1) (pc' := 49) dX2_takesDigit_48 rfl rfl r1 (by omega) (by first | decide | omega) ?_
      refine WG.aload_n (pc' := 50) dX2_takesDigit_49 rfl rfl ?_
      refine WG.dup (pc' := 51) dX2_takesDigit_50 rfl rfl ?_
      refine WG.getI f_X2_15 (pc' := 54) dX2_takesDigit_51 rfl rfl rfl ?_
      rw [e1]
      refine WG.iconst (v := 1) (pc' := 55) dX2_takesDigit_54 rfl rfl ?_
      refine WG.iadd (pc' := 56) dX2_takesDigit_55 rfl ?_
      refine WG.putI p_X2_15 (pc' := 59) dX2_takesDigit_56 rfl rfl rfl rfl rfl ?_
      refine WG.aload_n (pc' := 60) dX2_takesDigit_59 rfl rfl ?_
      refine WG.iconst (v := 0) (pc' := 61) dX2_takesDigit_60 rfl rfl ?_
      refine WG.putI p_X2_31 (pc' := 64) dX2_takesDigit_61 rfl rfl rfl rfl rfl ?_
      refine WG.aload_n (pc' := 65) dX2_takesDigit_64 rfl rfl ?_
      refine WG.dup (pc' := 66) dX2_takesDigit_65 rfl rfl ?_
      refine WG.getI f_X2_28 (pc' := 69) dX2_takesDigit_66 rfl rfl rfl ?_
      rw [e2]
      refine WG.iconst (v := 1) (pc' := 70) dX2_takesDigit_69 rfl rfl ?_
      refine WG.iadd (pc' := 71) dX2_takesDigit_70 rfl ?_
      refine WG.putI p_X2_28 (pc' := 74) dX2_takesDigit_71 rfl rfl rfl rfl rfl ?_
      refine WG.iconst (v := 1) (pc' := 75) dX2_takesDigit_74 rfl rfl ?_
      refine WG.ireturn dX2_takesDigit_75 rfl (by first | rfl | decide) ?_
      exact fin _ (by first | rw [if_pos c_39] | rw [if_neg c_39])
    · refine WG.iload_n (pc' := 43) dX2_takesDigit_42 rfl rfl ?_
      refine WG.ineg (pc' := 44) dX2_takesDigit_43 rfl ?_
      refine WG.goto (tgt := 48) dX2_takesDigit_44 (by decide) ?_
      refine WG.iastoreN (j := acc.1) (pc' := 49) dX2_takesDigit_48 rfl rfl r1 (by omega) (by first | decide | omega) ?_
      refine WG.aload_n (pc' := 50) dX2_takesDigit_49 rfl rfl ?_
      refine WG.dup (pc' := 51) dX2_takesDigit_50 rfl rfl ?_
      refine WG.getI f_X2_15 (pc' := 54) dX2_takesDigit_51 rfl rfl rfl ?_
      rw [e1]
      refine WG.iconst (v := 1) (pc' := 55) dX2_takesDigit_54 rfl rfl ?_
      refine WG.iadd (pc' := 56) dX2_takesDigit_55 rfl ?_
      refine WG.putI p_X2_15 (pc' := 59) dX2_takesDigit_56 rfl rfl rfl rfl rfl ?_
      refine WG.aload_n (pc' := 60) dX2_takesDigit_59 rfl rfl ?_
      refine WG.iconst (v := 0) (pc' := 61) dX2_takesDigit_60 rfl rfl ?_
      refine WG.putI p_X2_31 (pc' := 64) dX2_takesDigit_61 rfl rfl rfl rfl rfl ?_
      refine WG.aload_n (pc' := 65) dX2_takesDigit_64 rfl rfl ?_
      refine WG.dup (pc' := 66) dX2_takesDigit_65 rfl rfl ?_
      refine WG.getI f_X2_28 (pc' := 69) dX2_takesDigit_66 rfl rfl rfl ?_
      rw [e2]
      refine WG.iconst (v := 1) (pc' := 70) dX2_takesDigit_69 rfl rfl ?_
      refine WG.iadd (pc' := 71) dX2_takesDigit_70 rfl ?_
      refine WG.putI p_X2_28 (pc' := 74) dX2_takesDigit_71 rfl rfl rfl rfl rfl ?_
      refine WG.iconst (v := 1) (pc' := 75) dX2_takesDigit_74 rfl rfl ?_
      refine WG.ireturn dX2_takesDigit_75 rfl (by first | rfl | decide) ?_
      exact fin _ (by first | rw [if_pos c_39] | rw [if_neg c_39])
  refine WG.iload_n (pc' := 1) dX2_takesDigit_0 rfl rfl ?_
  refine WG.bipush (v := 48) (pc' := 3) dX2_takesDigit_1 rfl rfl ?_
  refine WG.icmp_lt (tgt := 20) (pc' := 6) dX2_takesDigit_3 rfl (by decide) (fun c_3 => ?_) (fun c_3 => ?_)
  · refine WG.iconst (v := 0) (pc' := 21) dX2_takesDigit_20 rfl rfl ?_
    refine WG.ireturn dX2_takesDigit_21 rfl (by first | rfl | decide) ?_
    exact ⟨0, rfl, Or.inl ⟨rfl, by grind, rfl⟩⟩
  · refine WG.iload_n (pc' := 7) dX2_takesDigit_6 rfl rfl ?_
    refine WG.bipush (v := 57) (pc' := 9) dX2_takesDigit_7 rfl rfl ?_
    refine WG.icmp_gt (tgt := 20) (pc' := 12) dX2_takesDigit_9 rfl (by decide) (fun c_9 => ?_) (fun c_9 => ?_)
    · refine WG.iconst (v := 0) (pc' := 21) dX2_takesDigit_20 rfl rfl ?_
      refine WG.ireturn dX2_takesDigit_21 rfl (by first | rfl | decide) ?_
      exact ⟨0, rfl, Or.inl ⟨rfl, by grind, rfl⟩⟩
    · refine WG.aload_n (pc' := 13) dX2_takesDigit_12 rfl rfl ?_
      refine WG.getI f_X2_15 (pc' := 16) dX2_takesDigit_13 rfl rfl rfl ?_
      refine WG.iconst (v := 4) (pc' := 17) dX2_takesDigit_16 rfl rfl ?_
      rw [r1]
      refine WG.icmp_lt (tgt := 22) (pc' := 20) dX2_takesDigit_17 rfl (by decide) (fun c_17 => ?_) (fun c_17 => ?_)
      · have hd : 48 ≤ x ∧ x ≤ 57 := by grind
        have fin : ∀ (v : Int32), v = (if b = 0 then x - 48 else -(x - 48)) → ∃ v0 : Int32, some (Value.int 1) = some (Value.int v0) ∧ ((v0 = 0 ∧ ¬ (48 ≤ x ∧ x ≤ 57) ∧ zI (zI (zI (zI h 75 acc.1 v) 74 1 (nI acc.1 + 1)) 74 5 0) 74 4 (nI j + 1) = h) ∨ (v0 = 1 ∧ (48 ≤ x ∧ x ≤ 57) ∧ RRd (zap acc (if b = 0 then x - 48 else -(x - 48))) fm (j + 1) 0 c (zI (zI (zI (zI h 75 acc.1 v) 74 1 (nI acc.1 + 1)) 74 5 0) 74 4 (nI j + 1)) ∧ zFr zFR h (zI (zI (zI (zI h 75 acc.1 v) 74 1 (nI acc.1 + 1)) 74 5 0) 74 4 (nI j + 1)))) := by
          intro v hv
          refine ⟨1, rfl, Or.inr ⟨rfl, hd, ⟨?_, ?_, ?_, ?_, ?_, fun i hi => ?_⟩, (((zFr.rf.I (Or.inr rfl)).I (Or.inl rfl)).I (Or.inl rfl)).I (Or.inl rfl)⟩⟩
          · simp [zI_1, zap, nI_succ]
          · simp [zI_1, r2]
          · simp [zI_1, r3]
          · simp [zI_1, nI_succ]
          · simp [zI_1]
          · have hi : i < acc.1 + 1 := hi
            show _ = if i = acc.1 then _ else acc.2 i
            rw [zI_1, if_neg (by omega), zI_1, if_neg (by omega), zI_1, if_neg (by omega), zI_1]
            by_cases z : i = acc.1
            · rw [if_pos ⟨rfl, z⟩, if_pos z, hv]
            · rw [if_neg (fun w => z w.2), if_neg z]; exact r6 i (by omega)
        exact J22 fin _
      · exact absurd e4 c_17
