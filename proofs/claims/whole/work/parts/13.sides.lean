/-! a traverse in cells: the Sides object k holds the n sides f (f i j: side i's kind, figure, east, north, times) -/
abbrev zf : Type := Nat → Nat → Int32
def RS (k n : Nat) (f : zf) (h : zH) : Prop := isS k ∧ n ≤ 8 ∧ h.1 k 5 = nI n ∧ ∀ i, i < n → ∀ j, j < 5 → h.1 (k + 1 + j) i = f i j
def zabs (x : Int32) : Int32 := if 0 ≤ x then x else 0 - x
def zwt (kd e n t : Int32) : Int32 := if kd = 2 ∨ kd = 5 then 2 * (t * (zabs e + zabs n)) else if kd = 3 then (if 1 < t * (zabs e + zabs n) / 2 then t * (zabs e + zabs n) / 2 else 1) else if kd = 4 then 0 else t * (zabs e + zabs n)
def zw (f : zf) (i : Nat) : Int32 := zwt (f i 0) (f i 2) (f i 3) (f i 4)
set_option maxHeartbeats 4000000 in
set_option maxRecDepth 100000 in
theorem c_X4_weightOf (h : zH) (kd e n t : Int32) : K_X4_weightOf [.int kd, .int e, .int n, .int t] h (zD (some (.int (zwt kd e n t))) h) := by
  refine CT.of rfl rfl (Nat.le_of_ble_eq_true rfl) rfl ?_
  refine WG.iload_n (pc' := 1) dX4_weightOf_0 rfl rfl ?_
  refine WG.iload_n (pc' := 2) dX4_weightOf_1 rfl rfl ?_
  refine WG.mabs m_X4_63 (pc' := 5) dX4_weightOf_2 rfl (Nat.le_of_ble_eq_true rfl) (Nat.le_of_ble_eq_true rfl) (Nat.le_of_ble_eq_true rfl) (Nat.le_of_ble_eq_true rfl) ?_
  refine WG.iload_n (pc' := 6) dX4_weightOf_5 rfl rfl ?_
  refine WG.mabs m_X4_63 (pc' := 9) dX4_weightOf_6 rfl (Nat.le_of_ble_eq_true rfl) (Nat.le_of_ble_eq_true rfl) (Nat.le_of_ble_eq_true rfl) (Nat.le_of_ble_eq_true rfl) ?_
  refine WG.iadd (pc' := 10) dX4_weightOf_9 rfl ?_
  refine WG.imul (pc' := 11) dX4_weightOf_10 rfl ?_
  refine WG.istore (L' := [_, _, _, _, _]) (pc' := 13) dX4_weightOf_11 rfl (by decide) rfl ?_
  refine WG.iload_n (pc' := 14) dX4_weightOf_13 rfl rfl ?_
  by_cases e_14_2 : kd = 2
  · refine WG.tableE (v := 2) (tgt := 44) e_14_2 dX4_weightOf_14 (by decide) (by decide) rfl (by decide) ?_
    refine WG.iconst (v := 2) (pc' := 45) dX4_weightOf_44 rfl rfl ?_
    refine WG.iload (pc' := 47) dX4_weightOf_45 rfl rfl ?_
    refine WG.imul (pc' := 48) dX4_weightOf_47 rfl ?_
    refine WG.ireturn dX4_weightOf_48 rfl (by first | rfl | decide) ?_
    exact ⟨by simp [zwt, zabs, *], rfl⟩
  by_cases e_14_3 : kd = 3
  · refine WG.tableE (v := 3) (tgt := 49) e_14_3 dX4_weightOf_14 (by decide) (by decide) rfl (by decide) ?_
    refine WG.iconst (v := 1) (pc' := 50) dX4_weightOf_49 rfl rfl ?_
    refine WG.iload (pc' := 52) dX4_weightOf_50 rfl rfl ?_
    refine WG.iconst (v := 2) (pc' := 53) dX4_weightOf_52 rfl rfl ?_
    refine WG.idiv (pc' := 54) dX4_weightOf_53 rfl (by decide) ?_
    refine WG.mmax m_X4_68 (pc' := 57) dX4_weightOf_54 rfl (Nat.le_of_ble_eq_true rfl) (Nat.le_of_ble_eq_true rfl) (Nat.le_of_ble_eq_true rfl) (Nat.le_of_ble_eq_true rfl) ?_
    refine WG.ireturn dX4_weightOf_57 rfl (by first | rfl | decide) ?_
    exact ⟨by simp [zwt, zabs, *], rfl⟩
  by_cases e_14_4 : kd = 4
  · refine WG.tableE (v := 4) (tgt := 58) e_14_4 dX4_weightOf_14 (by decide) (by decide) rfl (by decide) ?_
    refine WG.iconst (v := 0) (pc' := 59) dX4_weightOf_58 rfl rfl ?_
    refine WG.ireturn dX4_weightOf_59 rfl (by first | rfl | decide) ?_
    exact ⟨by simp [zwt, zabs, *], rfl⟩
  by_cases e_14_5 : kd = 5
  · refine WG.tableE (v := 5) (tgt := 44) e_14_5 dX4_weightOf_14 (by decide) (by decide) rfl (by decide) ?_
    refine WG.iconst (v := 2) (pc' := 45) dX4_weightOf_44 rfl rfl ?_
    refine WG.iload (pc' := 47) dX4_weightOf_45 rfl rfl ?_
    refine WG.imul (pc' := 48) dX4_weightOf_47 rfl ?_
    refine WG.ireturn dX4_weightOf_48 rfl (by first | rfl | decide) ?_
    exact ⟨by simp [zwt, zabs, *], rfl⟩
  refine WG.tableOut (tgt := 60) dX4_weightOf_14 (zsw 2 4 (fun j hj => match j, hj with | 0, _ => e_14_2 | 1, _ => e_14_3 | 2, _ => e_14_4 | 3, _ => e_14_5 | a + 4, h9 => absurd h9 (by omega))) (by decide) ?_
  refine WG.iload (pc' := 62) dX4_weightOf_60 rfl rfl ?_
  refine WG.ireturn dX4_weightOf_62 rfl (by first | rfl | decide) ?_
  exact ⟨by simp [zwt, zabs, *], rfl⟩
set_option maxHeartbeats 4000000 in
set_option maxRecDepth 100000 in
theorem c_X4_weight {h : zH} {k n i : Nat} {f : zf} (hS : RS k n f h) (hi : i < n) : K_X4_weight [.ref k, .int (nI i)] h (zD (some (.int (zw f i))) h) := by
  obtain ⟨hk, hn, h5, hf⟩ := hS
  refine CT.of rfl rfl (Nat.le_of_ble_eq_true rfl) rfl ?_
  refine WG.aload_n (pc' := 1) dX4_weight_0 rfl rfl ?_
  refine WG.getR f_X4_9 (pc' := 4) dX4_weight_1 rfl (zSo (by assumption)) rfl (zSr (by assumption) 0) ?_
  refine WG.iload_n (pc' := 5) dX4_weight_4 rfl rfl ?_
  refine WG.ialoadN  (pc' := 6) dX4_weight_5 rfl (zSa (by assumption) (by decide)) (by first | rfl | assumption) (by first | assumption | omega) (by decide) ?_
  refine WG.aload_n (pc' := 7) dX4_weight_6 rfl rfl ?_
  refine WG.getR f_X4_18 (pc' := 10) dX4_weight_7 rfl (zSo (by assumption)) rfl (zSr (by assumption) 2) ?_
  refine WG.iload_n (pc' := 11) dX4_weight_10 rfl rfl ?_
  refine WG.ialoadN  (pc' := 12) dX4_weight_11 rfl (zSa (by assumption) (by decide)) (by first | rfl | assumption) (by first | assumption | omega) (by decide) ?_
  refine WG.aload_n (pc' := 13) dX4_weight_12 rfl rfl ?_
  refine WG.getR f_X4_21 (pc' := 16) dX4_weight_13 rfl (zSo (by assumption)) rfl (zSr (by assumption) 3) ?_
  refine WG.iload_n (pc' := 17) dX4_weight_16 rfl rfl ?_
  refine WG.ialoadN  (pc' := 18) dX4_weight_17 rfl (zSa (by assumption) (by decide)) (by first | rfl | assumption) (by first | assumption | omega) (by decide) ?_
  refine WG.aload_n (pc' := 19) dX4_weight_18 rfl rfl ?_
  refine WG.getR f_X4_24 (pc' := 22) dX4_weight_19 rfl (zSo (by assumption)) rfl (zSr (by assumption) 4) ?_
  refine WG.iload_n (pc' := 23) dX4_weight_22 rfl rfl ?_
  refine WG.ialoadN  (pc' := 24) dX4_weight_23 rfl (zSa (by assumption) (by decide)) (by first | rfl | assumption) (by first | assumption | omega) (by decide) ?_
  refine WG.callSd (c_X4_weightOf _ _ _ _ _) m_X4_72 b_X4_weightOf rfl (zrk_of rfl) rfl (Nat.le_of_ble_eq_true rfl) dX4_weight_24 (pc' := 27) rfl ?_
  refine WG.ireturn dX4_weight_27 rfl (by first | rfl | decide) ?_
  exact ⟨by rw [hf i hi 0 (by decide), hf i hi 2 (by decide), hf i hi 3 (by decide), hf i hi 4 (by decide)]; rfl, rfl⟩
