theorem zLsub {Ls : Nat} (h : Ls ≤ 3072) : (nI Ls - 6).toInt = (Ls : Int) - 6 := by
  rw [Int32.toInt_sub, nI_toInt (by omega), show (6 : Int32).toInt = 6 from by decide]
  exact Int.bmod_eq_of_le (by omega) (by omega)
theorem nI_6 (i : Nat) : nI i + Int32.ofInt 6 = nI (i + 6) := (congrArg (fun z => nI i + z) (show Int32.ofInt 6 = nI 6 from by decide)).trans (nI_add i 6)
section zLoop
variable {Ls : Nat} {xs : Nat → Int32}
set_option maxHeartbeats 4000000 in
set_option maxRecDepth 100000 in
/-- one of the script's calls -/
theorem law_one {σ : zA} {h : zH} {i : Nat} (hi : i + 6 ≤ Ls ∧ Ls ≤ 3072) (hX : RX σ h) (hM : RM σ h) (hV : zV σ) (K : zLk Ls xs i) : W_law Ls xs 33 [some (.ref 3000), some (.ref 0), some (.ref 86), some (.int (nI i))] [.int (xs i &&& 63)] h := by
  by_cases e_0 : xs i &&& 63 = 0
  · refine WG.tableE (v := 0) (tgt := 200) e_0 dL_law_33 (by decide) (by decide) rfl (by decide) ?_
    exact law_0 hi hX hM hV K
  by_cases e_1 : xs i &&& 63 = 1
  · refine WG.tableE (v := 1) (tgt := 223) e_1 dL_law_33 (by decide) (by decide) rfl (by decide) ?_
    exact law_1 hi hX hM hV K
  by_cases e_2 : xs i &&& 63 = 2
  · refine WG.tableE (v := 2) (tgt := 236) e_2 dL_law_33 (by decide) (by decide) rfl (by decide) ?_
    exact law_2 hi hX hM hV K
  by_cases e_3 : xs i &&& 63 = 3
  · refine WG.tableE (v := 3) (tgt := 279) e_3 dL_law_33 (by decide) (by decide) rfl (by decide) ?_
    exact law_3 hi hX hM hV K
  by_cases e_4 : xs i &&& 63 = 4
  · refine WG.tableE (v := 4) (tgt := 332) e_4 dL_law_33 (by decide) (by decide) rfl (by decide) ?_
    exact law_4 hi hX hM hV K
  by_cases e_5 : xs i &&& 63 = 5
  · refine WG.tableE (v := 5) (tgt := 375) e_5 dL_law_33 (by decide) (by decide) rfl (by decide) ?_
    exact law_5 hi hX hM hV K
  by_cases e_6 : xs i &&& 63 = 6
  · refine WG.tableE (v := 6) (tgt := 398) e_6 dL_law_33 (by decide) (by decide) rfl (by decide) ?_
    exact law_6 hi hX hM hV K
  by_cases e_7 : xs i &&& 63 = 7
  · refine WG.tableE (v := 7) (tgt := 411) e_7 dL_law_33 (by decide) (by decide) rfl (by decide) ?_
    exact law_7 hi hX hM hV K
  by_cases e_8 : xs i &&& 63 = 8
  · refine WG.tableE (v := 8) (tgt := 445) e_8 dL_law_33 (by decide) (by decide) rfl (by decide) ?_
    exact law_8 hi hX hM hV K
  by_cases e_9 : xs i &&& 63 = 9
  · refine WG.tableE (v := 9) (tgt := 469) e_9 dL_law_33 (by decide) (by decide) rfl (by decide) ?_
    exact law_9 hi hX hM hV K
  by_cases e_10 : xs i &&& 63 = 10
  · refine WG.tableE (v := 10) (tgt := 513) e_10 dL_law_33 (by decide) (by decide) rfl (by decide) ?_
    exact law_10 hi hX hM hV K
  by_cases e_11 : xs i &&& 63 = 11
  · refine WG.tableE (v := 11) (tgt := 557) e_11 dL_law_33 (by decide) (by decide) rfl (by decide) ?_
    exact law_11 hi hX hM hV K
  by_cases e_12 : xs i &&& 63 = 12
  · refine WG.tableE (v := 12) (tgt := 581) e_12 dL_law_33 (by decide) (by decide) rfl (by decide) ?_
    exact law_12 hi hX hM hV K
  by_cases e_13 : xs i &&& 63 = 13
  · refine WG.tableE (v := 13) (tgt := 604) e_13 dL_law_33 (by decide) (by decide) rfl (by decide) ?_
    exact law_13 hi hX hM hV K
  by_cases e_14 : xs i &&& 63 = 14
  · refine WG.tableE (v := 14) (tgt := 637) e_14 dL_law_33 (by decide) (by decide) rfl (by decide) ?_
    exact law_14 hi hX hM hV K
  by_cases e_15 : xs i &&& 63 = 15
  · refine WG.tableE (v := 15) (tgt := 650) e_15 dL_law_33 (by decide) (by decide) rfl (by decide) ?_
    exact law_15 hi hX hM hV K
  by_cases e_16 : xs i &&& 63 = 16
  · refine WG.tableE (v := 16) (tgt := 673) e_16 dL_law_33 (by decide) (by decide) rfl (by decide) ?_
    exact law_16 hi hX hM hV K
  by_cases e_17 : xs i &&& 63 = 17
  · refine WG.tableE (v := 17) (tgt := 697) e_17 dL_law_33 (by decide) (by decide) rfl (by decide) ?_
    exact law_17 hi hX hM hV K
  by_cases e_18 : xs i &&& 63 = 18
  · refine WG.tableE (v := 18) (tgt := 731) e_18 dL_law_33 (by decide) (by decide) rfl (by decide) ?_
    exact law_18 hi hX hM hV K
  by_cases e_19 : xs i &&& 63 = 19
  · refine WG.tableE (v := 19) (tgt := 785) e_19 dL_law_33 (by decide) (by decide) rfl (by decide) ?_
    exact law_19 hi hX hM hV K
  by_cases e_20 : xs i &&& 63 = 20
  · refine WG.tableE (v := 20) (tgt := 808) e_20 dL_law_33 (by decide) (by decide) rfl (by decide) ?_
    exact law_20 hi hX hM hV K
  by_cases e_21 : xs i &&& 63 = 21
  · refine WG.tableE (v := 21) (tgt := 831) e_21 dL_law_33 (by decide) (by decide) rfl (by decide) ?_
    exact law_21 hi hX hM hV K
  by_cases e_22 : xs i &&& 63 = 22
  · refine WG.tableE (v := 22) (tgt := 875) e_22 dL_law_33 (by decide) (by decide) rfl (by decide) ?_
    exact law_22 hi hX hM hV K
  by_cases e_23 : xs i &&& 63 = 23
  · refine WG.tableE (v := 23) (tgt := 919) e_23 dL_law_33 (by decide) (by decide) rfl (by decide) ?_
    exact law_23 hi hX hM hV K
  by_cases e_24 : xs i &&& 63 = 24
  · refine WG.tableE (v := 24) (tgt := 963) e_24 dL_law_33 (by decide) (by decide) rfl (by decide) ?_
    exact law_24 hi hX hM hV K
  by_cases e_25 : xs i &&& 63 = 25
  · refine WG.tableE (v := 25) (tgt := 996) e_25 dL_law_33 (by decide) (by decide) rfl (by decide) ?_
    exact law_25 hi hX hM hV K
  by_cases e_26 : xs i &&& 63 = 26
  · refine WG.tableE (v := 26) (tgt := 1019) e_26 dL_law_33 (by decide) (by decide) rfl (by decide) ?_
    exact law_26 hi hX hM hV K
  by_cases e_27 : xs i &&& 63 = 27
  · refine WG.tableE (v := 27) (tgt := 1032) e_27 dL_law_33 (by decide) (by decide) rfl (by decide) ?_
    exact law_27 hi hX hM hV K
  by_cases e_28 : xs i &&& 63 = 28
  · refine WG.tableE (v := 28) (tgt := 1075) e_28 dL_law_33 (by decide) (by decide) rfl (by decide) ?_
    exact law_28 hi hX hM hV K
  by_cases e_29 : xs i &&& 63 = 29
  · refine WG.tableE (v := 29) (tgt := 1118) e_29 dL_law_33 (by decide) (by decide) rfl (by decide) ?_
    exact law_29 hi hX hM hV K
  by_cases e_30 : xs i &&& 63 = 30
  · refine WG.tableE (v := 30) (tgt := 1191) e_30 dL_law_33 (by decide) (by decide) rfl (by decide) ?_
    exact law_30 hi hX hM hV K
  by_cases e_31 : xs i &&& 63 = 31
  · refine WG.tableE (v := 31) (tgt := 1225) e_31 dL_law_33 (by decide) (by decide) rfl (by decide) ?_
    exact law_31 hi hX hM hV K
  by_cases e_32 : xs i &&& 63 = 32
  · refine WG.tableE (v := 32) (tgt := 1288) e_32 dL_law_33 (by decide) (by decide) rfl (by decide) ?_
    exact law_32 hi hX hM hV K
  by_cases e_33 : xs i &&& 63 = 33
  · refine WG.tableE (v := 33) (tgt := 1321) e_33 dL_law_33 (by decide) (by decide) rfl (by decide) ?_
    exact law_33 hi hX hM hV K
  by_cases e_34 : xs i &&& 63 = 34
  · refine WG.tableE (v := 34) (tgt := 1344) e_34 dL_law_33 (by decide) (by decide) rfl (by decide) ?_
    exact law_34 hi hX hM hV K
  by_cases e_35 : xs i &&& 63 = 35
  · refine WG.tableE (v := 35) (tgt := 1357) e_35 dL_law_33 (by decide) (by decide) rfl (by decide) ?_
    exact law_35 hi hX hM hV K
  by_cases e_36 : xs i &&& 63 = 36
  · refine WG.tableE (v := 36) (tgt := 1370) e_36 dL_law_33 (by decide) (by decide) rfl (by decide) ?_
    exact law_36 hi hX hM hV K
  by_cases e_37 : xs i &&& 63 = 37
  · refine WG.tableE (v := 37) (tgt := 1383) e_37 dL_law_33 (by decide) (by decide) rfl (by decide) ?_
    exact law_37 hi hX hM hV K
  refine WG.tableOut (tgt := 1406) dL_law_33 (zsw 0 38 (fun j hj => match j, hj with | 0, _ => e_0 | 1, _ => e_1 | 2, _ => e_2 | 3, _ => e_3 | 4, _ => e_4 | 5, _ => e_5 | 6, _ => e_6 | 7, _ => e_7 | 8, _ => e_8 | 9, _ => e_9 | 10, _ => e_10 | 11, _ => e_11 | 12, _ => e_12 | 13, _ => e_13 | 14, _ => e_14 | 15, _ => e_15 | 16, _ => e_16 | 17, _ => e_17 | 18, _ => e_18 | 19, _ => e_19 | 20, _ => e_20 | 21, _ => e_21 | 22, _ => e_22 | 23, _ => e_23 | 24, _ => e_24 | 25, _ => e_25 | 26, _ => e_26 | 27, _ => e_27 | 28, _ => e_28 | 29, _ => e_29 | 30, _ => e_30 | 31, _ => e_31 | 32, _ => e_32 | 33, _ => e_33 | 34, _ => e_34 | 35, _ => e_35 | 36, _ => e_36 | 37, _ => e_37 | a + 38, h9 => absurd h9 (by omega))) (by decide) ?_
  exact K _ _ hX hM hV
theorem law_loop (hL : Ls ≤ 3072) : ∀ (n i : Nat), i ≤ Ls → Ls + 1 ≤ i + n → ∀ (σ : zA) (h : zH), RX σ h → RM σ h → zV σ → W_law Ls xs 18 [some (.ref 3000), some (.ref 0), some (.ref 86), some (.int (nI i))] [] h := by
  intro n
  induction n with
  | zero => intro i h1 h2; exact absurd h2 (by omega)
  | succ n ih =>
    intro i h1 h2 σ h hX hM hV
    refine WG.iload_n (pc' := 19) dL_law_18 rfl rfl ?_
    refine WG.aload_n (pc' := 20) dL_law_19 rfl rfl ?_
    refine WG.slenN (pc' := 21) dL_law_20 rfl ?_
    refine WG.bipush (v := 6) (pc' := 23) dL_law_21 rfl rfl ?_
    refine WG.isub (pc' := 24) dL_law_23 rfl ?_
    refine WG.icmp_gt (tgt := 1412) (pc' := 27) dL_law_24 rfl (by decide) (fun c_24 => ?_) (fun c_24 => ?_)
    · refine WG.iconst (v := 1) (pc' := 1413) dL_law_1412 rfl rfl ?_
      exact zLend dL_law_1413
    · have hi : i + 6 ≤ Ls := by
        rw [Int32.lt_iff_toInt_lt, zLsub hL, nI_toInt (by omega)] at c_24
        omega
      refine WG.aload_n (pc' := 28) dL_law_27 rfl rfl ?_
      refine WG.iload_n (pc' := 29) dL_law_28 rfl rfl ?_
      refine WG.sldN (j := i) rfl (by omega) (pc' := 30) dL_law_29 rfl ?_
      refine WG.bipush (v := 63) (pc' := 32) dL_law_30 rfl rfl ?_
      refine WG.iand (pc' := 33) dL_law_32 rfl ?_
      refine law_one ⟨hi, hL⟩ hX hM hV (fun σ2 h2 hX2 hM2 hV2 => ?_)
      refine WG.iinc (v := nI (i + 6)) (L' := [_, _, _, _]) (pc' := 1409) dL_law_1406 rfl rfl (nI_6 i) (by decide) rfl ?_
      refine WG.goto (tgt := 18) dL_law_1409 (by decide) ?_
      exact ih (i + 6) hi (by omega) σ2 h2 hX2 hM2 hV2
end zLoop
