set_option maxHeartbeats 4000000 in
set_option maxRecDepth 100000 in
/-- the law up to its loop: both objects made -/
theorem law_start {nm : String} {Ls : Nat} {xs : Nat → Int32} (hL : Ls ≤ 3072) : PG RL nm cL_law 4 ret room_1 0 0 (zXL Ls xs) 0 zEL 0 0 [some (.ref 3000), none, none, none] [] zh0 (fun _ _ => false) := by
  refine PG.new (ci := 5) rfl rfl zinX5 tyX5_ok zdfX5 cl_L_7 in_X5 ini_X5 (Nat.le_of_ble_eq_true rfl) (Nat.le_of_ble_eq_true rfl) (by decide) (show (3000 < 0 ∨ 101 ≤ 3000) ∧ True from ⟨Or.inr (by decide), trivial⟩) trivial dL_law_0 (pc' := 3) rfl ?_
  refine PG.dup dL_law_3 (pc' := 4) rfl rfl ?_
  refine PG.callI i_X5 rfl im_X5 b_X5_init ml_L_9 (by decide) ⟨rfl, rfl, ⟨Nat.le_of_ble_eq_true rfl, Nat.le_of_ble_eq_true rfl⟩, ⟨Nat.le_of_ble_eq_true rfl, Nat.le_of_ble_eq_true rfl⟩⟩ (by decide) (show (3000 < 1 ∨ 101 ≤ 3000) ∧ True from ⟨Or.inr (by decide), trivial⟩) (show (0 < 1 ∨ 101 ≤ 0) ∧ True from ⟨Or.inl (by decide), trivial⟩) (Nat.le_of_ble_eq_true rfl) dL_law_4 (pc' := 7) rfl ?_
  refine PG.astore_n (L' := [some (.ref 3000), some (.ref 0), none, none]) dL_law_7 (pc' := 8) rfl (by decide) rfl ?_
  refine PG.new (ci := 6) rfl rfl zinX6 tyX6_ok zdfX6 cl_L_10 in_X6 ini_X6 (Nat.le_of_ble_eq_true rfl) (Nat.le_of_ble_eq_true rfl) (by decide) (show (3000 < 86 ∨ 101 ≤ 3000) ∧ (0 < 86 ∨ 101 ≤ 0) ∧ True from ⟨Or.inr (by decide), Or.inl (by decide), trivial⟩) trivial dL_law_8 (pc' := 11) rfl ?_
  refine PG.dup dL_law_11 (pc' := 12) rfl rfl ?_
  refine PG.callI i_X6 rfl im_X6 b_X6_init ml_L_12 (by decide) ⟨rfl, rfl, ⟨Nat.le_of_ble_eq_true rfl, Nat.le_of_ble_eq_true rfl⟩, ⟨Nat.le_of_ble_eq_true rfl, Nat.le_of_ble_eq_true rfl⟩⟩ (by decide) (show (3000 < 87 ∨ 101 ≤ 3000) ∧ (0 < 87 ∨ 101 ≤ 0) ∧ True from ⟨Or.inr (by decide), Or.inl (by decide), trivial⟩) (show (86 < 87 ∨ 101 ≤ 86) ∧ True from ⟨Or.inl (by decide), trivial⟩) (Nat.le_of_ble_eq_true rfl) dL_law_12 (pc' := 15) rfl ?_
  refine PG.astore_n (L' := [some (.ref 3000), some (.ref 0), some (.ref 86), none]) dL_law_15 (pc' := 16) rfl (by decide) rfl ?_
  refine PG.iconst (v := 0) dL_law_16 (pc' := 17) rfl rfl ?_
  refine PG.istore_n (L' := [some (.ref 3000), some (.ref 0), some (.ref 86), some (.int 0)]) dL_law_17 (pc' := 18) rfl (by decide) rfl ?_
  exact PG.toW (law_loop hL (Ls + 1) 0 (Nat.zero_le _) (by omega) zS0 zhF zS0_X zS0_M zS0_V)
