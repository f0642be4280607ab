def rm_X4_init : Room := { frames := 1, cells := 5, slots := 40, locals := 12 }
def zh_X4 (h : zH) (o : Nat) : zH := (zI h o 5 (0))
def zr_X4 (rn : zR) (o : Nat) : zR := (zrs (zrs (zrs (zrs (zrs rn o 0) o 1) o 2) o 3) o 4)
set_option maxHeartbeats 8000000 in
set_option maxRecDepth 100000 in
theorem i_X4 {o : Nat} (hk : isS o) {h : zH} {rn : zR} : CP yX4_init cX4_init 1 rm_X4_init o (o + 1) (o + 6) 5 40 h (zh_X4 h o) rn (zr_X4 rn o) := by
  refine CP.of rfl rfl (Nat.le_of_ble_eq_true rfl) rfl ?_
  refine PG.aload_n (pc' := 1) dX4_init_0 rfl rfl ?_
  refine PG.objInit oi_X4_3 zoi_i zoi_c dX4_init_1 (pc' := 4) rfl (Nat.le_of_ble_eq_true rfl) (Nat.le_of_ble_eq_true rfl) ?_
  refine PG.aload_n (pc' := 5) dX4_init_4 rfl rfl ?_
  refine PG.bipush (v := 8) (pc' := 7) dX4_init_5 rfl rfl ?_
  refine PG.newI (n := 8) (zSaP hk (j := 0) (by decide)) wcI (by decide) (Nat.le_of_ble_eq_true rfl) (Nat.le_of_ble_eq_true rfl) (by first | omega | decide) (show (o < o + 1 ∨ 101 ≤ o) ∧ True from ⟨Or.inl (by omega), trivial⟩) (show (o < o + 1 ∨ 101 ≤ o) ∧ True from ⟨Or.inl (by omega), trivial⟩) dX4_init_7 (pc' := 9) rfl ?_
  refine PG.putR pf_X4_9 rfl dX4_init_9 (pc' := 12) rfl (zSoP hk) (by first | omega | decide) rfl (zSrP hk 0) (by first | omega | decide) ?_
  refine PG.aload_n (pc' := 13) dX4_init_12 rfl rfl ?_
  refine PG.bipush (v := 8) (pc' := 15) dX4_init_13 rfl rfl ?_
  refine PG.newI (n := 8) (zSaP hk (j := 1) (by decide)) wcI (by decide) (Nat.le_of_ble_eq_true rfl) (Nat.le_of_ble_eq_true rfl) (by first | omega | decide) (show (o < o + 2 ∨ 101 ≤ o) ∧ True from ⟨Or.inl (by omega), trivial⟩) (show (o < o + 2 ∨ 101 ≤ o) ∧ True from ⟨Or.inl (by omega), trivial⟩) dX4_init_15 (pc' := 17) rfl ?_
  refine PG.putR pf_X4_15 rfl dX4_init_17 (pc' := 20) rfl (zSoP hk) (by first | omega | decide) rfl (zSrP hk 1) (by first | omega | decide) ?_
  refine PG.aload_n (pc' := 21) dX4_init_20 rfl rfl ?_
  refine PG.bipush (v := 8) (pc' := 23) dX4_init_21 rfl rfl ?_
  refine PG.newI (n := 8) (zSaP hk (j := 2) (by decide)) wcI (by decide) (Nat.le_of_ble_eq_true rfl) (Nat.le_of_ble_eq_true rfl) (by first | omega | decide) (show (o < o + 3 ∨ 101 ≤ o) ∧ True from ⟨Or.inl (by omega), trivial⟩) (show (o < o + 3 ∨ 101 ≤ o) ∧ True from ⟨Or.inl (by omega), trivial⟩) dX4_init_23 (pc' := 25) rfl ?_
  refine PG.putR pf_X4_18 rfl dX4_init_25 (pc' := 28) rfl (zSoP hk) (by first | omega | decide) rfl (zSrP hk 2) (by first | omega | decide) ?_
  refine PG.aload_n (pc' := 29) dX4_init_28 rfl rfl ?_
  refine PG.bipush (v := 8) (pc' := 31) dX4_init_29 rfl rfl ?_
  refine PG.newI (n := 8) (zSaP hk (j := 3) (by decide)) wcI (by decide) (Nat.le_of_ble_eq_true rfl) (Nat.le_of_ble_eq_true rfl) (by first | omega | decide) (show (o < o + 4 ∨ 101 ≤ o) ∧ True from ⟨Or.inl (by omega), trivial⟩) (show (o < o + 4 ∨ 101 ≤ o) ∧ True from ⟨Or.inl (by omega), trivial⟩) dX4_init_31 (pc' := 33) rfl ?_
  refine PG.putR pf_X4_21 rfl dX4_init_33 (pc' := 36) rfl (zSoP hk) (by first | omega | decide) rfl (zSrP hk 3) (by first | omega | decide) ?_
  refine PG.aload_n (pc' := 37) dX4_init_36 rfl rfl ?_
  refine PG.bipush (v := 8) (pc' := 39) dX4_init_37 rfl rfl ?_
  refine PG.newI (n := 8) (zSaP hk (j := 4) (by decide)) wcI (by decide) (Nat.le_of_ble_eq_true rfl) (Nat.le_of_ble_eq_true rfl) (by first | omega | decide) (show (o < o + 5 ∨ 101 ≤ o) ∧ True from ⟨Or.inl (by omega), trivial⟩) (show (o < o + 5 ∨ 101 ≤ o) ∧ True from ⟨Or.inl (by omega), trivial⟩) dX4_init_39 (pc' := 41) rfl ?_
  refine PG.putR pf_X4_24 rfl dX4_init_41 (pc' := 44) rfl (zSoP hk) (by first | omega | decide) rfl (zSrP hk 4) (by first | omega | decide) ?_
  refine PG.aload_n (pc' := 45) dX4_init_44 rfl rfl ?_
  refine PG.iconst (v := 0) (pc' := 46) dX4_init_45 rfl rfl ?_
  refine PG.putI p_X4_27 dX4_init_46 (pc' := 49) rfl (zSoP hk) (by first | omega | decide) rfl rfl rfl ?_
  exact PG.vret dX4_init_49 rfl
def rm_X3_init : Room := { frames := 1, cells := 1, slots := 20, locals := 12 }
def zh_X3 (h : zH) (o : Nat) : zH := (zI (zI h o 1 (-1)) o 2 (0))
def zr_X3 (rn : zR) (o : Nat) : zR := (zrs rn o 0)
set_option maxHeartbeats 8000000 in
set_option maxRecDepth 100000 in
theorem i_X3 {o : Nat} (hk : isRp o) {h : zH} {rn : zR} : CP yX3_init cX3_init 1 rm_X3_init o (o + 1) (o + 2) 1 20 h (zh_X3 h o) rn (zr_X3 rn o) := by
  refine CP.of rfl rfl (Nat.le_of_ble_eq_true rfl) rfl ?_
  refine PG.aload_n (pc' := 1) dX3_init_0 rfl rfl ?_
  refine PG.objInit oi_X3_3 zoi_i zoi_c dX3_init_1 (pc' := 4) rfl (Nat.le_of_ble_eq_true rfl) (Nat.le_of_ble_eq_true rfl) ?_
  refine PG.aload_n (pc' := 5) dX3_init_4 rfl rfl ?_
  refine PG.bipush (v := 20) (pc' := 7) dX3_init_5 rfl rfl ?_
  refine PG.newL (n := 20) (zRaP hk) wcL (by decide) (Nat.le_of_ble_eq_true rfl) (Nat.le_of_ble_eq_true rfl) (by first | omega | decide) (show (o < o + 1 ∨ 101 ≤ o) ∧ True from ⟨Or.inl (by omega), trivial⟩) (show (o < o + 1 ∨ 101 ≤ o) ∧ True from ⟨Or.inl (by omega), trivial⟩) dX3_init_7 (pc' := 9) rfl ?_
  refine PG.putR pf_X3_9 rfl dX3_init_9 (pc' := 12) rfl (zRoP hk) (by first | omega | decide) rfl (zRrP hk) (by first | omega | decide) ?_
  refine PG.aload_n (pc' := 13) dX3_init_12 rfl rfl ?_
  refine PG.iconst (v := -1) (pc' := 14) dX3_init_13 rfl rfl ?_
  refine PG.putI p_X3_15 dX3_init_14 (pc' := 17) rfl (zRoP hk) (by first | omega | decide) rfl rfl rfl ?_
  refine PG.aload_n (pc' := 18) dX3_init_17 rfl rfl ?_
  refine PG.iconst (v := 0) (pc' := 19) dX3_init_18 rfl rfl ?_
  refine PG.putI p_X3_19 dX3_init_19 (pc' := 22) rfl (zRoP hk) (by first | omega | decide) rfl rfl rfl ?_
  exact PG.vret dX3_init_22 rfl
def rm_X0_init : Room := { frames := 1, cells := 4, slots := 32, locals := 12 }
def zh_X0 (h : zH) : zH := (zL (zI h 69 4 (0)) 69 5 (0))
def zr_X0 (rn : zR) : zR := (zrs (zrs (zrs (zrs rn 69 0) 69 1) 69 2) 69 3)
set_option maxHeartbeats 8000000 in
set_option maxRecDepth 100000 in
theorem i_X0 {h : zH} {rn : zR} : CP yX0_init cX0_init 1 rm_X0_init 69 70 74 4 32 h (zh_X0 h) rn (zr_X0 rn) := by
  refine CP.of rfl rfl (Nat.le_of_ble_eq_true rfl) rfl ?_
  refine PG.aload_n (pc' := 1) dX0_init_0 rfl rfl ?_
  refine PG.objInit oi_X0_3 zoi_i zoi_c dX0_init_1 (pc' := 4) rfl (Nat.le_of_ble_eq_true rfl) (Nat.le_of_ble_eq_true rfl) ?_
  refine PG.aload_n (pc' := 5) dX0_init_4 rfl rfl ?_
  refine PG.bipush (v := 8) (pc' := 7) dX0_init_5 rfl rfl ?_
  refine PG.newL (n := 8) rfl wcL (by decide) (Nat.le_of_ble_eq_true rfl) (Nat.le_of_ble_eq_true rfl) (by first | omega | decide) (show (69 < 70 ∨ 101 ≤ 69) ∧ True from ⟨Or.inl (by decide), trivial⟩) (show (69 < 70 ∨ 101 ≤ 69) ∧ True from ⟨Or.inl (by decide), trivial⟩) dX0_init_7 (pc' := 9) rfl ?_
  refine PG.putR pf_X0_9 rfl dX0_init_9 (pc' := 12) rfl rfl (by first | omega | decide) rfl rfl (by first | omega | decide) ?_
  refine PG.aload_n (pc' := 13) dX0_init_12 rfl rfl ?_
  refine PG.bipush (v := 8) (pc' := 15) dX0_init_13 rfl rfl ?_
  refine PG.newL (n := 8) rfl wcL (by decide) (Nat.le_of_ble_eq_true rfl) (Nat.le_of_ble_eq_true rfl) (by first | omega | decide) (show (69 < 71 ∨ 101 ≤ 69) ∧ True from ⟨Or.inl (by decide), trivial⟩) (show (69 < 71 ∨ 101 ≤ 69) ∧ True from ⟨Or.inl (by decide), trivial⟩) dX0_init_15 (pc' := 17) rfl ?_
  refine PG.putR pf_X0_15 rfl dX0_init_17 (pc' := 20) rfl rfl (by first | omega | decide) rfl rfl (by first | omega | decide) ?_
  refine PG.aload_n (pc' := 21) dX0_init_20 rfl rfl ?_
  refine PG.bipush (v := 8) (pc' := 23) dX0_init_21 rfl rfl ?_
  refine PG.newL (n := 8) rfl wcL (by decide) (Nat.le_of_ble_eq_true rfl) (Nat.le_of_ble_eq_true rfl) (by first | omega | decide) (show (69 < 72 ∨ 101 ≤ 69) ∧ True from ⟨Or.inl (by decide), trivial⟩) (show (69 < 72 ∨ 101 ≤ 69) ∧ True from ⟨Or.inl (by decide), trivial⟩) dX0_init_23 (pc' := 25) rfl ?_
  refine PG.putR pf_X0_18 rfl dX0_init_25 (pc' := 28) rfl rfl (by first | omega | decide) rfl rfl (by first | omega | decide) ?_
  refine PG.aload_n (pc' := 29) dX0_init_28 rfl rfl ?_
  refine PG.bipush (v := 8) (pc' := 31) dX0_init_29 rfl rfl ?_
  refine PG.newL (n := 8) rfl wcL (by decide) (Nat.le_of_ble_eq_true rfl) (Nat.le_of_ble_eq_true rfl) (by first | omega | decide) (show (69 < 73 ∨ 101 ≤ 69) ∧ True from ⟨Or.inl (by decide), trivial⟩) (show (69 < 73 ∨ 101 ≤ 69) ∧ True from ⟨Or.inl (by decide), trivial⟩) dX0_init_31 (pc' := 33) rfl ?_
  refine PG.putR pf_X0_21 rfl dX0_init_33 (pc' := 36) rfl rfl (by first | omega | decide) rfl rfl (by first | omega | decide) ?_
  refine PG.aload_n (pc' := 37) dX0_init_36 rfl rfl ?_
  refine PG.iconst (v := 0) (pc' := 38) dX0_init_37 rfl rfl ?_
  refine PG.putI p_X0_24 dX0_init_38 (pc' := 41) rfl rfl (by first | omega | decide) rfl rfl rfl ?_
  refine PG.aload_n (pc' := 42) dX0_init_41 rfl rfl ?_
  refine PG.lconst (v := 0) (pc' := 43) dX0_init_42 rfl rfl ?_
  refine PG.putL p_X0_28 dX0_init_43 (pc' := 46) rfl rfl (by first | omega | decide) rfl rfl rfl ?_
  exact PG.vret dX0_init_46 rfl
def rm_X2_init : Room := { frames := 1, cells := 1, slots := 4, locals := 12 }
def zh_X2 (h : zH) : zH := (zI (zI (zI (zI (zI h 74 1 (0)) 74 2 (0)) 74 3 0) 74 4 (0)) 74 5 (0))
def zr_X2 (rn : zR) : zR := (zrs (zrs rn 74 0) 74 3)
set_option maxHeartbeats 8000000 in
set_option maxRecDepth 100000 in
theorem i_X2 {h : zH} {rn : zR} : CP yX2_init cX2_init 1 rm_X2_init 74 75 76 1 4 h (zh_X2 h) rn (zr_X2 rn) := by
  refine CP.of rfl rfl (Nat.le_of_ble_eq_true rfl) rfl ?_
  refine PG.aload_n (pc' := 1) dX2_init_0 rfl rfl ?_
  refine PG.objInit oi_X2_3 zoi_i zoi_c dX2_init_1 (pc' := 4) rfl (Nat.le_of_ble_eq_true rfl) (Nat.le_of_ble_eq_true rfl) ?_
  refine PG.aload_n (pc' := 5) dX2_init_4 rfl rfl ?_
  refine PG.iconst (v := 4) (pc' := 6) dX2_init_5 rfl rfl ?_
  refine PG.newI (n := 4) rfl wcI (by decide) (Nat.le_of_ble_eq_true rfl) (Nat.le_of_ble_eq_true rfl) (by first | omega | decide) (show (74 < 75 ∨ 101 ≤ 74) ∧ True from ⟨Or.inl (by decide), trivial⟩) (show (74 < 75 ∨ 101 ≤ 74) ∧ True from ⟨Or.inl (by decide), trivial⟩) dX2_init_6 (pc' := 8) rfl ?_
  refine PG.putR pf_X2_11 rfl dX2_init_8 (pc' := 11) rfl rfl (by first | omega | decide) rfl rfl (by first | omega | decide) ?_
  refine PG.aload_n (pc' := 12) dX2_init_11 rfl rfl ?_
  refine PG.iconst (v := 0) (pc' := 13) dX2_init_12 rfl rfl ?_
  refine PG.putI p_X2_15 dX2_init_13 (pc' := 16) rfl rfl (by first | omega | decide) rfl rfl rfl ?_
  refine PG.aload_n (pc' := 17) dX2_init_16 rfl rfl ?_
  refine PG.iconst (v := 0) (pc' := 18) dX2_init_17 rfl rfl ?_
  refine PG.putI p_X2_19 dX2_init_18 (pc' := 21) rfl rfl (by first | omega | decide) rfl rfl rfl ?_
  refine PG.aload_n (pc' := 22) dX2_init_21 rfl rfl ?_
  refine PG.ldcS (i := 0) (pc' := 24) dX2_init_22 rfl rfl (by decide) rfl ?_
  refine PG.putT (x := 0) p_X2_24 dX2_init_24 (pc' := 27) rfl rfl (by first | omega | decide) rfl ⟨rfl, rfl⟩ rfl (fun _ => rfl) (fun _ => rfl) ?_
  refine PG.aload_n (pc' := 28) dX2_init_27 rfl rfl ?_
  refine PG.iconst (v := 0) (pc' := 29) dX2_init_28 rfl rfl ?_
  refine PG.putI p_X2_28 dX2_init_29 (pc' := 32) rfl rfl (by first | omega | decide) rfl rfl rfl ?_
  refine PG.aload_n (pc' := 33) dX2_init_32 rfl rfl ?_
  refine PG.iconst (v := 0) (pc' := 34) dX2_init_33 rfl rfl ?_
  refine PG.putI p_X2_31 dX2_init_34 (pc' := 37) rfl rfl (by first | omega | decide) rfl rfl rfl ?_
  exact PG.vret dX2_init_37 rfl
def rm_X1_init : Room := { frames := 2, cells := 49, slots := 376, locals := 32 }
def zh_X1 (h : zH) : zH := (zh_X4 (zh_X4 (zh_X4 (zh_X4 (zh_X4 (zh_X4 (zh_X4 (zh_X4 (zI (zI h 19 1 (0)) 19 2 (0)) 21) 27) 33) 39) 45) 51) 57) 63)
def zr_X1 (rn : zR) : zR := (zrs (zr_X4 (zrs (zr_X4 (zrs (zr_X4 (zrs (zr_X4 (zrs (zr_X4 (zrs (zr_X4 (zrs (zr_X4 (zrs (zr_X4 (zrs rn 19 0) 21) 20 0) 27) 20 1) 33) 20 2) 39) 20 3) 45) 20 4) 51) 20 5) 57) 20 6) 63) 20 7)
set_option maxHeartbeats 8000000 in
set_option maxRecDepth 100000 in
theorem i_X1 {h : zH} {rn : zR} : CP yX1_init cX1_init 2 rm_X1_init 19 20 69 49 376 h (zh_X1 h) rn (zr_X1 rn) := by
  refine CP.of rfl rfl (Nat.le_of_ble_eq_true rfl) rfl ?_
  refine PG.aload_n (pc' := 1) dX1_init_0 rfl rfl ?_
  refine PG.objInit oi_X1_3 zoi_i zoi_c dX1_init_1 (pc' := 4) rfl (Nat.le_of_ble_eq_true rfl) (Nat.le_of_ble_eq_true rfl) ?_
  refine PG.aload_n (pc' := 5) dX1_init_4 rfl rfl ?_
  refine PG.bipush (v := 8) (pc' := 7) dX1_init_5 rfl rfl ?_
  refine PG.newQ (t := 0) (n := 8) (Or.inl ⟨rfl, rfl⟩) rfl cl_X1_9 (by decide) (Nat.le_of_ble_eq_true rfl) (Nat.le_of_ble_eq_true rfl) (by first | omega | decide) (show (19 < 20 ∨ 101 ≤ 19) ∧ True from ⟨Or.inl (by decide), trivial⟩) (show (19 < 20 ∨ 101 ≤ 19) ∧ True from ⟨Or.inl (by decide), trivial⟩) dX1_init_7 (pc' := 10) rfl ?_
  refine PG.putR pf_X1_11 rfl dX1_init_10 (pc' := 13) rfl rfl (by first | omega | decide) rfl rfl (by first | omega | decide) ?_
  refine PG.aload_n (pc' := 14) dX1_init_13 rfl rfl ?_
  refine PG.iconst (v := 0) (pc' := 15) dX1_init_14 rfl rfl ?_
  refine PG.putI p_X1_17 dX1_init_15 (pc' := 18) rfl rfl (by first | omega | decide) rfl rfl rfl ?_
  refine PG.aload_n (pc' := 19) dX1_init_18 rfl rfl ?_
  refine PG.iconst (v := 0) (pc' := 20) dX1_init_19 rfl rfl ?_
  refine PG.putI p_X1_21 dX1_init_20 (pc' := 23) rfl rfl (by first | omega | decide) rfl rfl rfl ?_
  refine PG.iconst (v := 0) (pc' := 24) dX1_init_23 rfl rfl ?_
  refine PG.istore_n (L' := [_, _]) (pc' := 25) dX1_init_24 rfl (by decide) rfl ?_
  refine PG.iload_n (pc' := 26) dX1_init_25 rfl rfl ?_
  refine PG.bipush (v := 8) (pc' := 28) dX1_init_26 rfl rfl ?_
  refine PG.icmp_ge (tgt := 50) (pc' := 31) dX1_init_28 rfl (by decide) (fun c_ => absurd c_ (by decide)) (fun _ => ?_)
  refine PG.aload_n (pc' := 32) dX1_init_31 rfl rfl ?_
  refine PG.getR f_X1_11 dX1_init_32 (pc' := 35) rfl rfl (by first | omega | decide) rfl rfl rfl ?_
  refine PG.iload_n (pc' := 36) dX1_init_35 rfl rfl ?_
  refine PG.new (ci := 4) rfl rfl zinX4 tyX4_ok zdfX4 cl_X1_9 in_X4 ini_X4 (Nat.le_of_ble_eq_true rfl) (Nat.le_of_ble_eq_true rfl) (by first | omega | decide) (show (19 < 21 ∨ 101 ≤ 19) ∧ True from ⟨Or.inl (by decide), trivial⟩) (show (20 < 21 ∨ 101 ≤ 20) ∧ True from ⟨Or.inl (by decide), trivial⟩) dX1_init_36 (pc' := 39) rfl ?_
  refine PG.dup (pc' := 40) dX1_init_39 rfl rfl ?_
  refine PG.callN (i_X4 (o := 21) (by simp [isS])) rfl im_X4 b_X4_init (fun U q => q.2.2.2.1) (by first | omega | decide) ⟨rfl, rfl, ⟨Nat.le_of_ble_eq_true rfl, Nat.le_of_ble_eq_true rfl⟩, ⟨Nat.le_of_ble_eq_true rfl, Nat.le_of_ble_eq_true rfl⟩⟩ (by first | omega | decide) (show (19 < 22 ∨ 101 ≤ 19) ∧ True from ⟨Or.inl (by decide), trivial⟩) (show (21 < 22 ∨ 101 ≤ 21) ∧ (20 < 22 ∨ 101 ≤ 20) ∧ True from ⟨Or.inl (by decide), Or.inl (by decide), trivial⟩) (Nat.le_of_ble_eq_true rfl) dX1_init_40 (pc' := 43) rfl ?_
  refine PG.aast (t := 0) (ci := 4) (j := 0) (Or.inl ⟨rfl, rfl⟩) dX1_init_43 (pc' := 44) rfl rfl (by first | omega | decide) rfl (by first | omega | decide) rfl rfl (by decide) (by decide) rfl ?_
  refine PG.iinc (v := 1) (L' := [_, _]) (pc' := 47) dX1_init_44 rfl rfl (by decide) (by decide) rfl ?_
  refine PG.goto (tgt := 25) dX1_init_47 (by decide) ?_
  refine PG.iload_n (pc' := 26) dX1_init_25 rfl rfl ?_
  refine PG.bipush (v := 8) (pc' := 28) dX1_init_26 rfl rfl ?_
  refine PG.icmp_ge (tgt := 50) (pc' := 31) dX1_init_28 rfl (by decide) (fun c_ => absurd c_ (by decide)) (fun _ => ?_)
  refine PG.aload_n (pc' := 32) dX1_init_31 rfl rfl ?_
  refine PG.getR f_X1_11 dX1_init_32 (pc' := 35) rfl rfl (by first | omega | decide) rfl rfl rfl ?_
  refine PG.iload_n (pc' := 36) dX1_init_35 rfl rfl ?_
  refine PG.new (ci := 4) rfl rfl zinX4 tyX4_ok zdfX4 cl_X1_9 in_X4 ini_X4 (Nat.le_of_ble_eq_true rfl) (Nat.le_of_ble_eq_true rfl) (by first | omega | decide) (show (19 < 27 ∨ 101 ≤ 19) ∧ True from ⟨Or.inl (by decide), trivial⟩) (show (20 < 27 ∨ 101 ≤ 20) ∧ True from ⟨Or.inl (by decide), trivial⟩) dX1_init_36 (pc' := 39) rfl ?_
  refine PG.dup (pc' := 40) dX1_init_39 rfl rfl ?_
  refine PG.callN (i_X4 (o := 27) (by simp [isS])) rfl im_X4 b_X4_init (fun U q => q.2.2.2.1) (by first | omega | decide) ⟨rfl, rfl, ⟨Nat.le_of_ble_eq_true rfl, Nat.le_of_ble_eq_true rfl⟩, ⟨Nat.le_of_ble_eq_true rfl, Nat.le_of_ble_eq_true rfl⟩⟩ (by first | omega | decide) (show (19 < 28 ∨ 101 ≤ 19) ∧ True from ⟨Or.inl (by decide), trivial⟩) (show (27 < 28 ∨ 101 ≤ 27) ∧ (20 < 28 ∨ 101 ≤ 20) ∧ True from ⟨Or.inl (by decide), Or.inl (by decide), trivial⟩) (Nat.le_of_ble_eq_true rfl) dX1_init_40 (pc' := 43) rfl ?_
  refine PG.aast (t := 0) (ci := 4) (j := 1) (Or.inl ⟨rfl, rfl⟩) dX1_init_43 (pc' := 44) rfl rfl (by first | omega | decide) rfl (by first | omega | decide) rfl rfl (by decide) (by decide) rfl ?_
  refine PG.iinc (v := 2) (L' := [_, _]) (pc' := 47) dX1_init_44 rfl rfl (by decide) (by decide) rfl ?_
  refine PG.goto (tgt := 25) dX1_init_47 (by decide) ?_
  refine PG.iload_n (pc' := 26) dX1_init_25 rfl rfl ?_
  refine PG.bipush (v := 8) (pc' := 28) dX1_init_26 rfl rfl ?_
  refine PG.icmp_ge (tgt := 50) (pc' := 31) dX1_init_28 rfl (by decide) (fun c_ => absurd c_ (by decide)) (fun _ => ?_)
  refine PG.aload_n (pc' := 32) dX1_init_31 rfl rfl ?_
  refine PG.getR f_X1_11 dX1_init_32 (pc' := 35) rfl rfl (by first | omega | decide) rfl rfl rfl ?_
  refine PG.iload_n (pc' := 36) dX1_init_35 rfl rfl ?_
  refine PG.new (ci := 4) rfl rfl zinX4 tyX4_ok zdfX4 cl_X1_9 in_X4 ini_X4 (Nat.le_of_ble_eq_true rfl) (Nat.le_of_ble_eq_true rfl) (by first | omega | decide) (show (19 < 33 ∨ 101 ≤ 19) ∧ True from ⟨Or.inl (by decide), trivial⟩) (show (20 < 33 ∨ 101 ≤ 20) ∧ True from ⟨Or.inl (by decide), trivial⟩) dX1_init_36 (pc' := 39) rfl ?_
  refine PG.dup (pc' := 40) dX1_init_39 rfl rfl ?_
  refine PG.callN (i_X4 (o := 33) (by simp [isS])) rfl im_X4 b_X4_init (fun U q => q.2.2.2.1) (by first | omega | decide) ⟨rfl, rfl, ⟨Nat.le_of_ble_eq_true rfl, Nat.le_of_ble_eq_true rfl⟩, ⟨Nat.le_of_ble_eq_true rfl, Nat.le_of_ble_eq_true rfl⟩⟩ (by first | omega | decide) (show (19 < 34 ∨ 101 ≤ 19) ∧ True from ⟨Or.inl (by decide), trivial⟩) (show (33 < 34 ∨ 101 ≤ 33) ∧ (20 < 34 ∨ 101 ≤ 20) ∧ True from ⟨Or.inl (by decide), Or.inl (by decide), trivial⟩) (Nat.le_of_ble_eq_true rfl) dX1_init_40 (pc' := 43) rfl ?_
  refine PG.aast (t := 0) (ci := 4) (j := 2) (Or.inl ⟨rfl, rfl⟩) dX1_init_43 (pc' := 44) rfl rfl (by first | omega | decide) rfl (by first | omega | decide) rfl rfl (by decide) (by decide) rfl ?_
  refine PG.iinc (v := 3) (L' := [_, _]) (pc' := 47) dX1_init_44 rfl rfl (by decide) (by decide) rfl ?_
  refine PG.goto (tgt := 25) dX1_init_47 (by decide) ?_
  refine PG.iload_n (pc' := 26) dX1_init_25 rfl rfl ?_
  refine PG.bipush (v := 8) (pc' := 28) dX1_init_26 rfl rfl ?_
  refine PG.icmp_ge (tgt := 50) (pc' := 31) dX1_init_28 rfl (by decide) (fun c_ => absurd c_ (by decide)) (fun _ => ?_)
  refine PG.aload_n (pc' := 32) dX1_init_31 rfl rfl ?_
  refine PG.getR f_X1_11 dX1_init_32 (pc' := 35) rfl rfl (by first | omega | decide) rfl rfl rfl ?_
  refine PG.iload_n (pc' := 36) dX1_init_35 rfl rfl ?_
  refine PG.new (ci := 4) rfl rfl zinX4 tyX4_ok zdfX4 cl_X1_9 in_X4 ini_X4 (Nat.le_of_ble_eq_true rfl) (Nat.le_of_ble_eq_true rfl) (by first | omega | decide) (show (19 < 39 ∨ 101 ≤ 19) ∧ True from ⟨Or.inl (by decide), trivial⟩) (show (20 < 39 ∨ 101 ≤ 20) ∧ True from ⟨Or.inl (by decide), trivial⟩) dX1_init_36 (pc' := 39) rfl ?_
  refine PG.dup (pc' := 40) dX1_init_39 rfl rfl ?_
  refine PG.callN (i_X4 (o := 39) (by simp [isS])) rfl im_X4 b_X4_init (fun U q => q.2.2.2.1) (by first | omega | decide) ⟨rfl, rfl, ⟨Nat.le_of_ble_eq_true rfl, Nat.le_of_ble_eq_true rfl⟩, ⟨Nat.le_of_ble_eq_true rfl, Nat.le_of_ble_eq_true rfl⟩⟩ (by first | omega | decide) (show (19 < 40 ∨ 101 ≤ 19) ∧ True from ⟨Or.inl (by decide), trivial⟩) (show (39 < 40 ∨ 101 ≤ 39) ∧ (20 < 40 ∨ 101 ≤ 20) ∧ True from ⟨Or.inl (by decide), Or.inl (by decide), trivial⟩) (Nat.le_of_ble_eq_true rfl) dX1_init_40 (pc' := 43) rfl ?_
  refine PG.aast (t := 0) (ci := 4) (j := 3) (Or.inl ⟨rfl, rfl⟩) dX1_init_43 (pc' := 44) rfl rfl (by first | omega | decide) rfl (by first | omega | decide) rfl rfl (by decide) (by decide) rfl ?_
  refine PG.iinc (v := 4) (L' := [_, _]) (pc' := 47) dX1_init_44 rfl rfl (by decide) (by decide) rfl ?_
  refine PG.goto (tgt := 25) dX1_init_47 (by decide) ?_
  refine PG.iload_n (pc' := 26) dX1_init_25 rfl rfl ?_
  refine PG.bipush (v := 8) (pc' := 28) dX1_init_26 rfl rfl ?_
  refine PG.icmp_ge (tgt := 50) (pc' := 31) dX1_init_28 rfl (by decide) (fun c_ => absurd c_ (by decide)) (fun _ => ?_)
  refine PG.aload_n (pc' := 32) dX1_init_31 rfl rfl ?_
  refine PG.getR f_X1_11 dX1_init_32 (pc' := 35) rfl rfl (by first | omega | decide) rfl rfl rfl ?_
  refine PG.iload_n (pc' := 36) dX1_init_35 rfl rfl ?_
  refine PG.new (ci := 4) rfl rfl zinX4 tyX4_ok zdfX4 cl_X1_9 in_X4 ini_X4 (Nat.le_of_ble_eq_true rfl) (Nat.le_of_ble_eq_true rfl) (by first | omega | decide) (show (19 < 45 ∨ 101 ≤ 19) ∧ True from ⟨Or.inl (by decide), trivial⟩) (show (20 < 45 ∨ 101 ≤ 20) ∧ True from ⟨Or.inl (by decide), trivial⟩) dX1_init_36 (pc' := 39) rfl ?_
  refine PG.dup (pc' := 40) dX1_init_39 rfl rfl ?_
  refine PG.callN (i_X4 (o := 45) (by simp [isS])) rfl im_X4 b_X4_init (fun U q => q.2.2.2.1) (by first | omega | decide) ⟨rfl, rfl, ⟨Nat.le_of_ble_eq_true rfl, Nat.le_of_ble_eq_true rfl⟩, ⟨Nat.le_of_ble_eq_true rfl, Nat.le_of_ble_eq_true rfl⟩⟩ (by first | omega | decide) (show (19 < 46 ∨ 101 ≤ 19) ∧ True from ⟨Or.inl (by decide), trivial⟩) (show (45 < 46 ∨ 101 ≤ 45) ∧ (20 < 46 ∨ 101 ≤ 20) ∧ True from ⟨Or.inl (by decide), Or.inl (by decide), trivial⟩) (Nat.le_of_ble_eq_true rfl) dX1_init_40 (pc' := 43) rfl ?_
  refine PG.aast (t := 0) (ci := 4) (j := 4) (Or.inl ⟨rfl, rfl⟩) dX1_init_43 (pc' := 44) rfl rfl (by first | omega | decide) rfl (by first | omega | decide) rfl rfl (by decide) (by decide) rfl ?_
  refine PG.iinc (v := 5) (L' := [_, _]) (pc' := 47) dX1_init_44 rfl rfl (by decide) (by decide) rfl ?_
  refine PG.goto (tgt := 25) dX1_init_47 (by decide) ?_
  refine PG.iload_n (pc' := 26) dX1_init_25 rfl rfl ?_
  refine PG.bipush (v := 8) (pc' := 28) dX1_init_26 rfl rfl ?_
  refine PG.icmp_ge (tgt := 50) (pc' := 31) dX1_init_28 rfl (by decide) (fun c_ => absurd c_ (by decide)) (fun _ => ?_)
  refine PG.aload_n (pc' := 32) dX1_init_31 rfl rfl ?_
  refine PG.getR f_X1_11 dX1_init_32 (pc' := 35) rfl rfl (by first | omega | decide) rfl rfl rfl ?_
  refine PG.iload_n (pc' := 36) dX1_init_35 rfl rfl ?_
  refine PG.new (ci := 4) rfl rfl zinX4 tyX4_ok zdfX4 cl_X1_9 in_X4 ini_X4 (Nat.le_of_ble_eq_true rfl) (Nat.le_of_ble_eq_true rfl) (by first | omega | decide) (show (19 < 51 ∨ 101 ≤ 19) ∧ True from ⟨Or.inl (by decide), trivial⟩) (show (20 < 51 ∨ 101 ≤ 20) ∧ True from ⟨Or.inl (by decide), trivial⟩) dX1_init_36 (pc' := 39) rfl ?_
  refine PG.dup (pc' := 40) dX1_init_39 rfl rfl ?_
  refine PG.callN (i_X4 (o := 51) (by simp [isS])) rfl im_X4 b_X4_init (fun U q => q.2.2.2.1) (by first | omega | decide) ⟨rfl, rfl, ⟨Nat.le_of_ble_eq_true rfl, Nat.le_of_ble_eq_true rfl⟩, ⟨Nat.le_of_ble_eq_true rfl, Nat.le_of_ble_eq_true rfl⟩⟩ (by first | omega | decide) (show (19 < 52 ∨ 101 ≤ 19) ∧ True from ⟨Or.inl (by decide), trivial⟩) (show (51 < 52 ∨ 101 ≤ 51) ∧ (20 < 52 ∨ 101 ≤ 20) ∧ True from ⟨Or.inl (by decide), Or.inl (by decide), trivial⟩) (Nat.le_of_ble_eq_true rfl) dX1_init_40 (pc' := 43) rfl ?_
  refine PG.aast (t := 0) (ci := 4) (j := 5) (Or.inl ⟨rfl, rfl⟩) dX1_init_43 (pc' := 44) rfl rfl (by first | omega | decide) rfl (by first | omega | decide) rfl rfl (by decide) (by decide) rfl ?_
  refine PG.iinc (v := 6) (L' := [_, _]) (pc' := 47) dX1_init_44 rfl rfl (by decide) (by decide) rfl ?_
  refine PG.goto (tgt := 25) dX1_init_47 (by decide) ?_
  refine PG.iload_n (pc' := 26) dX1_init_25 rfl rfl ?_
  refine PG.bipush (v := 8) (pc' := 28) dX1_init_26 rfl rfl ?_
  refine PG.icmp_ge (tgt := 50) (pc' := 31) dX1_init_28 rfl (by decide) (fun c_ => absurd c_ (by decide)) (fun _ => ?_)
  refine PG.aload_n (pc' := 32) dX1_init_31 rfl rfl ?_
  refine PG.getR f_X1_11 dX1_init_32 (pc' := 35) rfl rfl (by first | omega | decide) rfl rfl rfl ?_
  refine PG.iload_n (pc' := 36) dX1_init_35 rfl rfl ?_
  refine PG.new (ci := 4) rfl rfl zinX4 tyX4_ok zdfX4 cl_X1_9 in_X4 ini_X4 (Nat.le_of_ble_eq_true rfl) (Nat.le_of_ble_eq_true rfl) (by first | omega | decide) (show (19 < 57 ∨ 101 ≤ 19) ∧ True from ⟨Or.inl (by decide), trivial⟩) (show (20 < 57 ∨ 101 ≤ 20) ∧ True from ⟨Or.inl (by decide), trivial⟩) dX1_init_36 (pc' := 39) rfl ?_
  refine PG.dup (pc' := 40) dX1_init_39 rfl rfl ?_
  refine PG.callN (i_X4 (o := 57) (by simp [isS])) rfl im_X4 b_X4_init (fun U q => q.2.2.2.1) (by first | omega | decide) ⟨rfl, rfl, ⟨Nat.le_of_ble_eq_true rfl, Nat.le_of_ble_eq_true rfl⟩, ⟨Nat.le_of_ble_eq_true rfl, Nat.le_of_ble_eq_true rfl⟩⟩ (by first | omega | decide) (show (19 < 58 ∨ 101 ≤ 19) ∧ True from ⟨Or.inl (by decide), trivial⟩) (show (57 < 58 ∨ 101 ≤ 57) ∧ (20 < 58 ∨ 101 ≤ 20) ∧ True from ⟨Or.inl (by decide), Or.inl (by decide), trivial⟩) (Nat.le_of_ble_eq_true rfl) dX1_init_40 (pc' := 43) rfl ?_
  refine PG.aast (t := 0) (ci := 4) (j := 6) (Or.inl ⟨rfl, rfl⟩) dX1_init_43 (pc' := 44) rfl rfl (by first | omega | decide) rfl (by first | omega | decide) rfl rfl (by decide) (by decide) rfl ?_
  refine PG.iinc (v := 7) (L' := [_, _]) (pc' := 47) dX1_init_44 rfl rfl (by decide) (by decide) rfl ?_
  refine PG.goto (tgt := 25) dX1_init_47 (by decide) ?_
  refine PG.iload_n (pc' := 26) dX1_init_25 rfl rfl ?_
  refine PG.bipush (v := 8) (pc' := 28) dX1_init_26 rfl rfl ?_
  refine PG.icmp_ge (tgt := 50) (pc' := 31) dX1_init_28 rfl (by decide) (fun c_ => absurd c_ (by decide)) (fun _ => ?_)
  refine PG.aload_n (pc' := 32) dX1_init_31 rfl rfl ?_
  refine PG.getR f_X1_11 dX1_init_32 (pc' := 35) rfl rfl (by first | omega | decide) rfl rfl rfl ?_
  refine PG.iload_n (pc' := 36) dX1_init_35 rfl rfl ?_
  refine PG.new (ci := 4) rfl rfl zinX4 tyX4_ok zdfX4 cl_X1_9 in_X4 ini_X4 (Nat.le_of_ble_eq_true rfl) (Nat.le_of_ble_eq_true rfl) (by first | omega | decide) (show (19 < 63 ∨ 101 ≤ 19) ∧ True from ⟨Or.inl (by decide), trivial⟩) (show (20 < 63 ∨ 101 ≤ 20) ∧ True from ⟨Or.inl (by decide), trivial⟩) dX1_init_36 (pc' := 39) rfl ?_
  refine PG.dup (pc' := 40) dX1_init_39 rfl rfl ?_
  refine PG.callN (i_X4 (o := 63) (by simp [isS])) rfl im_X4 b_X4_init (fun U q => q.2.2.2.1) (by first | omega | decide) ⟨rfl, rfl, ⟨Nat.le_of_ble_eq_true rfl, Nat.le_of_ble_eq_true rfl⟩, ⟨Nat.le_of_ble_eq_true rfl, Nat.le_of_ble_eq_true rfl⟩⟩ (by first | omega | decide) (show (19 < 64 ∨ 101 ≤ 19) ∧ True from ⟨Or.inl (by decide), trivial⟩) (show (63 < 64 ∨ 101 ≤ 63) ∧ (20 < 64 ∨ 101 ≤ 20) ∧ True from ⟨Or.inl (by decide), Or.inl (by decide), trivial⟩) (Nat.le_of_ble_eq_true rfl) dX1_init_40 (pc' := 43) rfl ?_
  refine PG.aast (t := 0) (ci := 4) (j := 7) (Or.inl ⟨rfl, rfl⟩) dX1_init_43 (pc' := 44) rfl rfl (by first | omega | decide) rfl (by first | omega | decide) rfl rfl (by decide) (by decide) rfl ?_
  refine PG.iinc (v := 8) (L' := [_, _]) (pc' := 47) dX1_init_44 rfl rfl (by decide) (by decide) rfl ?_
  refine PG.goto (tgt := 25) dX1_init_47 (by decide) ?_
  refine PG.iload_n (pc' := 26) dX1_init_25 rfl rfl ?_
  refine PG.bipush (v := 8) (pc' := 28) dX1_init_26 rfl rfl ?_
  refine PG.icmp_ge (tgt := 50) (pc' := 31) dX1_init_28 rfl (by decide) (fun _ => ?_) (fun c_ => absurd (by decide) c_)
  exact PG.vret dX1_init_50 rfl
def rm_X6_init : Room := { frames := 1, cells := 14, slots := 732, locals := 12 }
def zh_X6 (h : zH) : zH := (zI (zI (zI h 97 0 (-1)) 97 1 (-1)) 97 2 (-1))
def zr_X6 (rn : zR) : zR := (zrs (zrs (zrs (zrs (zrs (zrs (zrs (zrs (zrs (zrs (zrs (zrs (zrs (zrs rn 86 1) 86 2) 86 3) 86 5) 86 6) 86 10) 86 11) 86 13) 86 14) 86 15) 86 18) 86 19) 86 20) 86 21)
set_option maxHeartbeats 8000000 in
set_option maxRecDepth 100000 in
theorem i_X6 {h : zH} {rn : zR} : CP yX6_init cX6_init 1 rm_X6_init 86 87 101 14 732 h (zh_X6 h) rn (zr_X6 rn) := by
  refine CP.of rfl rfl (Nat.le_of_ble_eq_true rfl) rfl ?_
  refine PG.aload_n (pc' := 1) dX6_init_0 rfl rfl ?_
  refine PG.objInit oi_X6_17 zoi_i zoi_c dX6_init_1 (pc' := 4) rfl (Nat.le_of_ble_eq_true rfl) (Nat.le_of_ble_eq_true rfl) ?_
  refine PG.aload_n (pc' := 5) dX6_init_4 rfl rfl ?_
  refine PG.bipush (v := 7) (pc' := 7) dX6_init_5 rfl rfl ?_
  refine PG.newI (n := 7) rfl wcI (by decide) (Nat.le_of_ble_eq_true rfl) (Nat.le_of_ble_eq_true rfl) (by first | omega | decide) (show (86 < 87 ∨ 101 ≤ 86) ∧ True from ⟨Or.inl (by decide), trivial⟩) (show (86 < 87 ∨ 101 ≤ 86) ∧ True from ⟨Or.inl (by decide), trivial⟩) dX6_init_7 (pc' := 9) rfl ?_
  refine PG.putR pf_X6_7 rfl dX6_init_9 (pc' := 12) rfl rfl (by first | omega | decide) rfl rfl (by first | omega | decide) ?_
  refine PG.aload_n (pc' := 13) dX6_init_12 rfl rfl ?_
  refine PG.bipush (v := 41) (pc' := 15) dX6_init_13 rfl rfl ?_
  refine PG.newI (n := 41) rfl wcI (by decide) (Nat.le_of_ble_eq_true rfl) (Nat.le_of_ble_eq_true rfl) (by first | omega | decide) (show (86 < 88 ∨ 101 ≤ 86) ∧ True from ⟨Or.inl (by decide), trivial⟩) (show (86 < 88 ∨ 101 ≤ 86) ∧ True from ⟨Or.inl (by decide), trivial⟩) dX6_init_15 (pc' := 17) rfl ?_
  refine PG.putR pf_X6_23 rfl dX6_init_17 (pc' := 20) rfl rfl (by first | omega | decide) rfl rfl (by first | omega | decide) ?_
  refine PG.aload_n (pc' := 21) dX6_init_20 rfl rfl ?_
  refine PG.sipush (v := 328) (pc' := 24) dX6_init_21 rfl rfl ?_
  refine PG.newI (n := 328) rfl wcI (by decide) (Nat.le_of_ble_eq_true rfl) (Nat.le_of_ble_eq_true rfl) (by first | omega | decide) (show (86 < 89 ∨ 101 ≤ 86) ∧ True from ⟨Or.inl (by decide), trivial⟩) (show (86 < 89 ∨ 101 ≤ 86) ∧ True from ⟨Or.inl (by decide), trivial⟩) dX6_init_24 (pc' := 26) rfl ?_
  refine PG.putR pf_X6_26 rfl dX6_init_26 (pc' := 29) rfl rfl (by first | omega | decide) rfl rfl (by first | omega | decide) ?_
  refine PG.aload_n (pc' := 30) dX6_init_29 rfl rfl ?_
  refine PG.bipush (v := 41) (pc' := 32) dX6_init_30 rfl rfl ?_
  refine PG.newI (n := 41) rfl wcI (by decide) (Nat.le_of_ble_eq_true rfl) (Nat.le_of_ble_eq_true rfl) (by first | omega | decide) (show (86 < 90 ∨ 101 ≤ 86) ∧ True from ⟨Or.inl (by decide), trivial⟩) (show (86 < 90 ∨ 101 ≤ 86) ∧ True from ⟨Or.inl (by decide), trivial⟩) dX6_init_32 (pc' := 34) rfl ?_
  refine PG.putR pf_X6_29 rfl dX6_init_34 (pc' := 37) rfl rfl (by first | omega | decide) rfl rfl (by first | omega | decide) ?_
  refine PG.aload_n (pc' := 38) dX6_init_37 rfl rfl ?_
  refine PG.bipush (v := 120) (pc' := 40) dX6_init_38 rfl rfl ?_
  refine PG.newI (n := 120) rfl wcI (by decide) (Nat.le_of_ble_eq_true rfl) (Nat.le_of_ble_eq_true rfl) (by first | omega | decide) (show (86 < 91 ∨ 101 ≤ 86) ∧ True from ⟨Or.inl (by decide), trivial⟩) (show (86 < 91 ∨ 101 ≤ 86) ∧ True from ⟨Or.inl (by decide), trivial⟩) dX6_init_40 (pc' := 42) rfl ?_
  refine PG.putR pf_X6_32 rfl dX6_init_42 (pc' := 45) rfl rfl (by first | omega | decide) rfl rfl (by first | omega | decide) ?_
  refine PG.aload_n (pc' := 46) dX6_init_45 rfl rfl ?_
  refine PG.iconst (v := 4) (pc' := 47) dX6_init_46 rfl rfl ?_
  refine PG.newI (n := 4) rfl wcI (by decide) (Nat.le_of_ble_eq_true rfl) (Nat.le_of_ble_eq_true rfl) (by first | omega | decide) (show (86 < 92 ∨ 101 ≤ 86) ∧ True from ⟨Or.inl (by decide), trivial⟩) (show (86 < 92 ∨ 101 ≤ 86) ∧ True from ⟨Or.inl (by decide), trivial⟩) dX6_init_47 (pc' := 49) rfl ?_
  refine PG.putR pf_X6_35 rfl dX6_init_49 (pc' := 52) rfl rfl (by first | omega | decide) rfl rfl (by first | omega | decide) ?_
  refine PG.aload_n (pc' := 53) dX6_init_52 rfl rfl ?_
  refine PG.bipush (v := 41) (pc' := 55) dX6_init_53 rfl rfl ?_
  refine PG.newI (n := 41) rfl wcI (by decide) (Nat.le_of_ble_eq_true rfl) (Nat.le_of_ble_eq_true rfl) (by first | omega | decide) (show (86 < 93 ∨ 101 ≤ 86) ∧ True from ⟨Or.inl (by decide), trivial⟩) (show (86 < 93 ∨ 101 ≤ 86) ∧ True from ⟨Or.inl (by decide), trivial⟩) dX6_init_55 (pc' := 57) rfl ?_
  refine PG.putR pf_X6_38 rfl dX6_init_57 (pc' := 60) rfl rfl (by first | omega | decide) rfl rfl (by first | omega | decide) ?_
  refine PG.aload_n (pc' := 61) dX6_init_60 rfl rfl ?_
  refine PG.bipush (v := 16) (pc' := 63) dX6_init_61 rfl rfl ?_
  refine PG.newL (n := 16) rfl wcL (by decide) (Nat.le_of_ble_eq_true rfl) (Nat.le_of_ble_eq_true rfl) (by first | omega | decide) (show (86 < 94 ∨ 101 ≤ 86) ∧ True from ⟨Or.inl (by decide), trivial⟩) (show (86 < 94 ∨ 101 ≤ 86) ∧ True from ⟨Or.inl (by decide), trivial⟩) dX6_init_63 (pc' := 65) rfl ?_
  refine PG.putR pf_X6_41 rfl dX6_init_65 (pc' := 68) rfl rfl (by first | omega | decide) rfl rfl (by first | omega | decide) ?_
  refine PG.aload_n (pc' := 69) dX6_init_68 rfl rfl ?_
  refine PG.bipush (v := 18) (pc' := 71) dX6_init_69 rfl rfl ?_
  refine PG.newL (n := 18) rfl wcL (by decide) (Nat.le_of_ble_eq_true rfl) (Nat.le_of_ble_eq_true rfl) (by first | omega | decide) (show (86 < 95 ∨ 101 ≤ 86) ∧ True from ⟨Or.inl (by decide), trivial⟩) (show (86 < 95 ∨ 101 ≤ 86) ∧ True from ⟨Or.inl (by decide), trivial⟩) dX6_init_71 (pc' := 73) rfl ?_
  refine PG.putR pf_X6_45 rfl dX6_init_73 (pc' := 76) rfl rfl (by first | omega | decide) rfl rfl (by first | omega | decide) ?_
  refine PG.aload_n (pc' := 77) dX6_init_76 rfl rfl ?_
  refine PG.bipush (v := 9) (pc' := 79) dX6_init_77 rfl rfl ?_
  refine PG.newI (n := 9) rfl wcI (by decide) (Nat.le_of_ble_eq_true rfl) (Nat.le_of_ble_eq_true rfl) (by first | omega | decide) (show (86 < 96 ∨ 101 ≤ 86) ∧ True from ⟨Or.inl (by decide), trivial⟩) (show (86 < 96 ∨ 101 ≤ 86) ∧ True from ⟨Or.inl (by decide), trivial⟩) dX6_init_79 (pc' := 81) rfl ?_
  refine PG.putR pf_X6_48 rfl dX6_init_81 (pc' := 84) rfl rfl (by first | omega | decide) rfl rfl (by first | omega | decide) ?_
  refine PG.aload_n (pc' := 85) dX6_init_84 rfl rfl ?_
  refine PG.iconst (v := 3) (pc' := 86) dX6_init_85 rfl rfl ?_
  refine PG.newI (n := 3) rfl wcI (by decide) (Nat.le_of_ble_eq_true rfl) (Nat.le_of_ble_eq_true rfl) (by first | omega | decide) (show (86 < 97 ∨ 101 ≤ 86) ∧ True from ⟨Or.inl (by decide), trivial⟩) (show (86 < 97 ∨ 101 ≤ 86) ∧ True from ⟨Or.inl (by decide), trivial⟩) dX6_init_86 (pc' := 88) rfl ?_
  refine PG.dup (pc' := 89) dX6_init_88 rfl rfl ?_
  refine PG.iconst (v := 0) (pc' := 90) dX6_init_89 rfl rfl ?_
  refine PG.iconst (v := -1) (pc' := 91) dX6_init_90 rfl rfl ?_
  refine PG.iast (j := 0) dX6_init_91 (pc' := 92) rfl rfl (by first | omega | decide) rfl (by decide) (by decide) ?_
  refine PG.dup (pc' := 93) dX6_init_92 rfl rfl ?_
  refine PG.iconst (v := 1) (pc' := 94) dX6_init_93 rfl rfl ?_
  refine PG.iconst (v := -1) (pc' := 95) dX6_init_94 rfl rfl ?_
  refine PG.iast (j := 1) dX6_init_95 (pc' := 96) rfl rfl (by first | omega | decide) rfl (by decide) (by decide) ?_
  refine PG.dup (pc' := 97) dX6_init_96 rfl rfl ?_
  refine PG.iconst (v := 2) (pc' := 98) dX6_init_97 rfl rfl ?_
  refine PG.iconst (v := -1) (pc' := 99) dX6_init_98 rfl rfl ?_
  refine PG.iast (j := 2) dX6_init_99 (pc' := 100) rfl rfl (by first | omega | decide) rfl (by decide) (by decide) ?_
  refine PG.putR pf_X6_51 rfl dX6_init_100 (pc' := 103) rfl rfl (by first | omega | decide) rfl rfl (by first | omega | decide) ?_
  refine PG.aload_n (pc' := 104) dX6_init_103 rfl rfl ?_
  refine PG.iconst (v := 3) (pc' := 105) dX6_init_104 rfl rfl ?_
  refine PG.newI (n := 3) rfl wcI (by decide) (Nat.le_of_ble_eq_true rfl) (Nat.le_of_ble_eq_true rfl) (by first | omega | decide) (show (86 < 98 ∨ 101 ≤ 86) ∧ True from ⟨Or.inl (by decide), trivial⟩) (show (86 < 98 ∨ 101 ≤ 86) ∧ True from ⟨Or.inl (by decide), trivial⟩) dX6_init_105 (pc' := 107) rfl ?_
  refine PG.putR pf_X6_54 rfl dX6_init_107 (pc' := 110) rfl rfl (by first | omega | decide) rfl rfl (by first | omega | decide) ?_
  refine PG.aload_n (pc' := 111) dX6_init_110 rfl rfl ?_
  refine PG.bipush (v := 60) (pc' := 113) dX6_init_111 rfl rfl ?_
  refine PG.newL (n := 60) rfl wcL (by decide) (Nat.le_of_ble_eq_true rfl) (Nat.le_of_ble_eq_true rfl) (by first | omega | decide) (show (86 < 99 ∨ 101 ≤ 86) ∧ True from ⟨Or.inl (by decide), trivial⟩) (show (86 < 99 ∨ 101 ≤ 86) ∧ True from ⟨Or.inl (by decide), trivial⟩) dX6_init_113 (pc' := 115) rfl ?_
  refine PG.putR pf_X6_57 rfl dX6_init_115 (pc' := 118) rfl rfl (by first | omega | decide) rfl rfl (by first | omega | decide) ?_
  refine PG.aload_n (pc' := 119) dX6_init_118 rfl rfl ?_
  refine PG.bipush (v := 41) (pc' := 121) dX6_init_119 rfl rfl ?_
  refine PG.newI (n := 41) rfl wcI (by decide) (Nat.le_of_ble_eq_true rfl) (Nat.le_of_ble_eq_true rfl) (by first | omega | decide) (show (86 < 100 ∨ 101 ≤ 86) ∧ True from ⟨Or.inl (by decide), trivial⟩) (show (86 < 100 ∨ 101 ≤ 86) ∧ True from ⟨Or.inl (by decide), trivial⟩) dX6_init_121 (pc' := 123) rfl ?_
  refine PG.putR pf_X6_60 rfl dX6_init_123 (pc' := 126) rfl rfl (by first | omega | decide) rfl rfl (by first | omega | decide) ?_
  exact PG.vret dX6_init_126 rfl
def rm_X5_init : Room := { frames := 3, cells := 85, slots := 773, locals := 53 }
def zh_X5 (h : zH) : zH := (zh_X3 (zh_X3 (zh_X3 (zI (zI (zh_X2 (zh_X0 (zh_X1 (zI (zh_X4 (zh_X4 (zh_X4 h 1) 7) 13) 0 3 (0))))) 0 8 (0)) 0 10 (0)) 80) 82) 84)
def zr_X5 (rn : zR) : zR := (zrs (zr_X3 (zrs (zr_X3 (zrs (zr_X3 (zrs (zrs (zrs (zrs (zrs (zr_X2 (zrs (zr_X0 (zrs (zr_X1 (zrs (zr_X4 (zrs (zr_X4 (zrs (zr_X4 rn 1) 0 0) 7) 0 1) 13) 0 2)) 0 4)) 0 5)) 0 6) 0 7) 0 9) 0 11) 0 12) 80) 78 0) 82) 78 1) 84) 78 2)
set_option maxHeartbeats 8000000 in
set_option maxRecDepth 100000 in
theorem i_X5 {h : zH} {rn : zR} : CP yX5_init cX5_init 2 rm_X5_init 0 1 86 85 773 h (zh_X5 h) rn (zr_X5 rn) := by
  refine CP.of rfl rfl (Nat.le_of_ble_eq_true rfl) rfl ?_
  refine PG.aload_n (pc' := 1) dX5_init_0 rfl rfl ?_
  refine PG.objInit oi_X5_1 zoi_i zoi_c dX5_init_1 (pc' := 4) rfl (Nat.le_of_ble_eq_true rfl) (Nat.le_of_ble_eq_true rfl) ?_
  refine PG.aload_n (pc' := 5) dX5_init_4 rfl rfl ?_
  refine PG.new (ci := 4) rfl rfl zinX4 tyX4_ok zdfX4 cl_X5_7 in_X4 ini_X4 (Nat.le_of_ble_eq_true rfl) (Nat.le_of_ble_eq_true rfl) (by first | omega | decide) (show (0 < 1 ∨ 101 ≤ 0) ∧ True from ⟨Or.inl (by decide), trivial⟩) (show (0 < 1 ∨ 101 ≤ 0) ∧ True from ⟨Or.inl (by decide), trivial⟩) dX5_init_5 (pc' := 8) rfl ?_
  refine PG.dup (pc' := 9) dX5_init_8 rfl rfl ?_
  refine PG.callN (i_X4 (o := 1) (by simp [isS])) rfl im_X4 b_X4_init (fun U q => q.2.2.1) (by first | omega | decide) ⟨rfl, rfl, ⟨Nat.le_of_ble_eq_true rfl, Nat.le_of_ble_eq_true rfl⟩, ⟨Nat.le_of_ble_eq_true rfl, Nat.le_of_ble_eq_true rfl⟩⟩ (by first | omega | decide) (show (0 < 2 ∨ 101 ≤ 0) ∧ True from ⟨Or.inl (by decide), trivial⟩) (show (1 < 2 ∨ 101 ≤ 1) ∧ (0 < 2 ∨ 101 ≤ 0) ∧ True from ⟨Or.inl (by decide), Or.inl (by decide), trivial⟩) (Nat.le_of_ble_eq_true rfl) dX5_init_9 (pc' := 12) rfl ?_
  refine PG.putR pf_X5_10 rfl dX5_init_12 (pc' := 15) rfl rfl (by first | omega | decide) rfl rfl (by first | omega | decide) ?_
  refine PG.aload_n (pc' := 16) dX5_init_15 rfl rfl ?_
  refine PG.new (ci := 4) rfl rfl zinX4 tyX4_ok zdfX4 cl_X5_7 in_X4 ini_X4 (Nat.le_of_ble_eq_true rfl) (Nat.le_of_ble_eq_true rfl) (by first | omega | decide) (show (0 < 7 ∨ 101 ≤ 0) ∧ True from ⟨Or.inl (by decide), trivial⟩) (show (0 < 7 ∨ 101 ≤ 0) ∧ True from ⟨Or.inl (by decide), trivial⟩) dX5_init_16 (pc' := 19) rfl ?_
  refine PG.dup (pc' := 20) dX5_init_19 rfl rfl ?_
  refine PG.callN (i_X4 (o := 7) (by simp [isS])) rfl im_X4 b_X4_init (fun U q => q.2.2.1) (by first | omega | decide) ⟨rfl, rfl, ⟨Nat.le_of_ble_eq_true rfl, Nat.le_of_ble_eq_true rfl⟩, ⟨Nat.le_of_ble_eq_true rfl, Nat.le_of_ble_eq_true rfl⟩⟩ (by first | omega | decide) (show (0 < 8 ∨ 101 ≤ 0) ∧ True from ⟨Or.inl (by decide), trivial⟩) (show (7 < 8 ∨ 101 ≤ 7) ∧ (0 < 8 ∨ 101 ≤ 0) ∧ True from ⟨Or.inl (by decide), Or.inl (by decide), trivial⟩) (Nat.le_of_ble_eq_true rfl) dX5_init_20 (pc' := 23) rfl ?_
  refine PG.putR pf_X5_16 rfl dX5_init_23 (pc' := 26) rfl rfl (by first | omega | decide) rfl rfl (by first | omega | decide) ?_
  refine PG.aload_n (pc' := 27) dX5_init_26 rfl rfl ?_
  refine PG.new (ci := 4) rfl rfl zinX4 tyX4_ok zdfX4 cl_X5_7 in_X4 ini_X4 (Nat.le_of_ble_eq_true rfl) (Nat.le_of_ble_eq_true rfl) (by first | omega | decide) (show (0 < 13 ∨ 101 ≤ 0) ∧ True from ⟨Or.inl (by decide), trivial⟩) (show (0 < 13 ∨ 101 ≤ 0) ∧ True from ⟨Or.inl (by decide), trivial⟩) dX5_init_27 (pc' := 30) rfl ?_
  refine PG.dup (pc' := 31) dX5_init_30 rfl rfl ?_
  refine PG.callN (i_X4 (o := 13) (by simp [isS])) rfl im_X4 b_X4_init (fun U q => q.2.2.1) (by first | omega | decide) ⟨rfl, rfl, ⟨Nat.le_of_ble_eq_true rfl, Nat.le_of_ble_eq_true rfl⟩, ⟨Nat.le_of_ble_eq_true rfl, Nat.le_of_ble_eq_true rfl⟩⟩ (by first | omega | decide) (show (0 < 14 ∨ 101 ≤ 0) ∧ True from ⟨Or.inl (by decide), trivial⟩) (show (13 < 14 ∨ 101 ≤ 13) ∧ (0 < 14 ∨ 101 ≤ 0) ∧ True from ⟨Or.inl (by decide), Or.inl (by decide), trivial⟩) (Nat.le_of_ble_eq_true rfl) dX5_init_31 (pc' := 34) rfl ?_
  refine PG.putR pf_X5_19 rfl dX5_init_34 (pc' := 37) rfl rfl (by first | omega | decide) rfl rfl (by first | omega | decide) ?_
  refine PG.aload_n (pc' := 38) dX5_init_37 rfl rfl ?_
  refine PG.iconst (v := 0) (pc' := 39) dX5_init_38 rfl rfl ?_
  refine PG.putI p_X5_22 dX5_init_39 (pc' := 42) rfl rfl (by first | omega | decide) rfl rfl rfl ?_
  refine PG.aload_n (pc' := 43) dX5_init_42 rfl rfl ?_
  refine PG.new (ci := 1) rfl rfl zinX1 tyX1_ok zdfX1 cl_X5_26 in_X1 ini_X1 (Nat.le_of_ble_eq_true rfl) (Nat.le_of_ble_eq_true rfl) (by first | omega | decide) (show (0 < 19 ∨ 101 ≤ 0) ∧ True from ⟨Or.inl (by decide), trivial⟩) (show (0 < 19 ∨ 101 ≤ 0) ∧ True from ⟨Or.inl (by decide), trivial⟩) dX5_init_43 (pc' := 46) rfl ?_
  refine PG.dup (pc' := 47) dX5_init_46 rfl rfl ?_
  refine PG.callI i_X1 rfl im_X1 b_X1_init ml_X5_28 (by first | omega | decide) ⟨rfl, rfl, ⟨Nat.le_of_ble_eq_true rfl, Nat.le_of_ble_eq_true rfl⟩, ⟨Nat.le_of_ble_eq_true rfl, Nat.le_of_ble_eq_true rfl⟩⟩ (by first | omega | decide) (show (0 < 20 ∨ 101 ≤ 0) ∧ True from ⟨Or.inl (by decide), trivial⟩) (show (19 < 20 ∨ 101 ≤ 19) ∧ (0 < 20 ∨ 101 ≤ 0) ∧ True from ⟨Or.inl (by decide), Or.inl (by decide), trivial⟩) (Nat.le_of_ble_eq_true rfl) dX5_init_47 (pc' := 50) rfl ?_
  refine PG.putR pf_X5_29 rfl dX5_init_50 (pc' := 53) rfl rfl (by first | omega | decide) rfl rfl (by first | omega | decide) ?_
  refine PG.aload_n (pc' := 54) dX5_init_53 rfl rfl ?_
  refine PG.new (ci := 0) rfl rfl zinX0 tyX0_ok zdfX0 cl_X5_33 in_X0 ini_X0 (Nat.le_of_ble_eq_true rfl) (Nat.le_of_ble_eq_true rfl) (by first | omega | decide) (show (0 < 69 ∨ 101 ≤ 0) ∧ True from ⟨Or.inl (by decide), trivial⟩) (show (0 < 69 ∨ 101 ≤ 0) ∧ True from ⟨Or.inl (by decide), trivial⟩) dX5_init_54 (pc' := 57) rfl ?_
  refine PG.dup (pc' := 58) dX5_init_57 rfl rfl ?_
  refine PG.callN i_X0 rfl im_X0 b_X0_init (fun U q => q.2.2.2.2.1) (by first | omega | decide) ⟨rfl, rfl, ⟨Nat.le_of_ble_eq_true rfl, Nat.le_of_ble_eq_true rfl⟩, ⟨Nat.le_of_ble_eq_true rfl, Nat.le_of_ble_eq_true rfl⟩⟩ (by first | omega | decide) (show (0 < 70 ∨ 101 ≤ 0) ∧ True from ⟨Or.inl (by decide), trivial⟩) (show (69 < 70 ∨ 101 ≤ 69) ∧ (0 < 70 ∨ 101 ≤ 0) ∧ True from ⟨Or.inl (by decide), Or.inl (by decide), trivial⟩) (Nat.le_of_ble_eq_true rfl) dX5_init_58 (pc' := 61) rfl ?_
  refine PG.putR pf_X5_36 rfl dX5_init_61 (pc' := 64) rfl rfl (by first | omega | decide) rfl rfl (by first | omega | decide) ?_
  refine PG.aload_n (pc' := 65) dX5_init_64 rfl rfl ?_
  refine PG.new (ci := 2) rfl rfl zinX2 tyX2_ok zdfX2 cl_X5_40 in_X2 ini_X2 (Nat.le_of_ble_eq_true rfl) (Nat.le_of_ble_eq_true rfl) (by first | omega | decide) (show (0 < 74 ∨ 101 ≤ 0) ∧ True from ⟨Or.inl (by decide), trivial⟩) (show (0 < 74 ∨ 101 ≤ 0) ∧ True from ⟨Or.inl (by decide), trivial⟩) dX5_init_65 (pc' := 68) rfl ?_
  refine PG.dup (pc' := 69) dX5_init_68 rfl rfl ?_
  refine PG.callN i_X2 rfl im_X2 b_X2_init (fun U q => q.2.2.2.2.2.1) (by first | omega | decide) ⟨rfl, rfl, ⟨Nat.le_of_ble_eq_true rfl, Nat.le_of_ble_eq_true rfl⟩, ⟨Nat.le_of_ble_eq_true rfl, Nat.le_of_ble_eq_true rfl⟩⟩ (by first | omega | decide) (show (0 < 75 ∨ 101 ≤ 0) ∧ True from ⟨Or.inl (by decide), trivial⟩) (show (74 < 75 ∨ 101 ≤ 74) ∧ (0 < 75 ∨ 101 ≤ 0) ∧ True from ⟨Or.inl (by decide), Or.inl (by decide), trivial⟩) (Nat.le_of_ble_eq_true rfl) dX5_init_69 (pc' := 72) rfl ?_
  refine PG.putR pf_X5_43 rfl dX5_init_72 (pc' := 75) rfl rfl (by first | omega | decide) rfl rfl (by first | omega | decide) ?_
  refine PG.aload_n (pc' := 76) dX5_init_75 rfl rfl ?_
  refine PG.bipush (v := 120) (pc' := 78) dX5_init_76 rfl rfl ?_
  refine PG.newI (n := 120) rfl wcI (by decide) (Nat.le_of_ble_eq_true rfl) (Nat.le_of_ble_eq_true rfl) (by first | omega | decide) (show (0 < 76 ∨ 101 ≤ 0) ∧ True from ⟨Or.inl (by decide), trivial⟩) (show (0 < 76 ∨ 101 ≤ 0) ∧ True from ⟨Or.inl (by decide), trivial⟩) dX5_init_78 (pc' := 80) rfl ?_
  refine PG.putR pf_X5_47 rfl dX5_init_80 (pc' := 83) rfl rfl (by first | omega | decide) rfl rfl (by first | omega | decide) ?_
  refine PG.aload_n (pc' := 84) dX5_init_83 rfl rfl ?_
  refine PG.iconst (v := 0) (pc' := 85) dX5_init_84 rfl rfl ?_
  refine PG.putI p_X5_51 dX5_init_85 (pc' := 88) rfl rfl (by first | omega | decide) rfl rfl rfl ?_
  refine PG.aload_n (pc' := 89) dX5_init_88 rfl rfl ?_
  refine PG.bipush (v := 9) (pc' := 91) dX5_init_89 rfl rfl ?_
  refine PG.newI (n := 9) rfl wcI (by decide) (Nat.le_of_ble_eq_true rfl) (Nat.le_of_ble_eq_true rfl) (by first | omega | decide) (show (0 < 77 ∨ 101 ≤ 0) ∧ True from ⟨Or.inl (by decide), trivial⟩) (show (0 < 77 ∨ 101 ≤ 0) ∧ True from ⟨Or.inl (by decide), trivial⟩) dX5_init_91 (pc' := 93) rfl ?_
  refine PG.putR pf_X5_55 rfl dX5_init_93 (pc' := 96) rfl rfl (by first | omega | decide) rfl rfl (by first | omega | decide) ?_
  refine PG.aload_n (pc' := 97) dX5_init_96 rfl rfl ?_
  refine PG.iconst (v := 0) (pc' := 98) dX5_init_97 rfl rfl ?_
  refine PG.putI p_X5_58 dX5_init_98 (pc' := 101) rfl rfl (by first | omega | decide) rfl rfl rfl ?_
  refine PG.aload_n (pc' := 102) dX5_init_101 rfl rfl ?_
  refine PG.iconst (v := 3) (pc' := 103) dX5_init_102 rfl rfl ?_
  refine PG.newQ (t := 1) (n := 3) (Or.inr ⟨rfl, rfl⟩) rfl cl_X5_61 (by decide) (Nat.le_of_ble_eq_true rfl) (Nat.le_of_ble_eq_true rfl) (by first | omega | decide) (show (0 < 78 ∨ 101 ≤ 0) ∧ True from ⟨Or.inl (by decide), trivial⟩) (show (0 < 78 ∨ 101 ≤ 0) ∧ True from ⟨Or.inl (by decide), trivial⟩) dX5_init_103 (pc' := 106) rfl ?_
  refine PG.putR pf_X5_63 rfl dX5_init_106 (pc' := 109) rfl rfl (by first | omega | decide) rfl rfl (by first | omega | decide) ?_
  refine PG.aload_n (pc' := 110) dX5_init_109 rfl rfl ?_
  refine PG.bipush (v := 7) (pc' := 112) dX5_init_110 rfl rfl ?_
  refine PG.newI (n := 7) rfl wcI (by decide) (Nat.le_of_ble_eq_true rfl) (Nat.le_of_ble_eq_true rfl) (by first | omega | decide) (show (0 < 79 ∨ 101 ≤ 0) ∧ True from ⟨Or.inl (by decide), trivial⟩) (show (0 < 79 ∨ 101 ≤ 0) ∧ True from ⟨Or.inl (by decide), trivial⟩) dX5_init_112 (pc' := 114) rfl ?_
  refine PG.putR pf_X5_67 rfl dX5_init_114 (pc' := 117) rfl rfl (by first | omega | decide) rfl rfl (by first | omega | decide) ?_
  refine PG.iconst (v := 0) (pc' := 118) dX5_init_117 rfl rfl ?_
  refine PG.istore_n (L' := [_, _]) (pc' := 119) dX5_init_118 rfl (by decide) rfl ?_
  refine PG.iload_n (pc' := 120) dX5_init_119 rfl rfl ?_
  refine PG.iconst (v := 3) (pc' := 121) dX5_init_120 rfl rfl ?_
  refine PG.icmp_ge (tgt := 143) (pc' := 124) dX5_init_121 rfl (by decide) (fun c_ => absurd c_ (by decide)) (fun _ => ?_)
  refine PG.aload_n (pc' := 125) dX5_init_124 rfl rfl ?_
  refine PG.getR f_X5_63 dX5_init_125 (pc' := 128) rfl rfl (by first | omega | decide) rfl rfl rfl ?_
  refine PG.iload_n (pc' := 129) dX5_init_128 rfl rfl ?_
  refine PG.new (ci := 3) rfl rfl zinX3 tyX3_ok zdfX3 cl_X5_61 in_X3 ini_X3 (Nat.le_of_ble_eq_true rfl) (Nat.le_of_ble_eq_true rfl) (by first | omega | decide) (show (0 < 80 ∨ 101 ≤ 0) ∧ True from ⟨Or.inl (by decide), trivial⟩) (show (78 < 80 ∨ 101 ≤ 78) ∧ True from ⟨Or.inl (by decide), trivial⟩) dX5_init_129 (pc' := 132) rfl ?_
  refine PG.dup (pc' := 133) dX5_init_132 rfl rfl ?_
  refine PG.callN (i_X3 (o := 80) (by simp [isRp])) rfl im_X3 b_X3_init (fun U q => q.2.2.2.2.2.2) (by first | omega | decide) ⟨rfl, rfl, ⟨Nat.le_of_ble_eq_true rfl, Nat.le_of_ble_eq_true rfl⟩, ⟨Nat.le_of_ble_eq_true rfl, Nat.le_of_ble_eq_true rfl⟩⟩ (by first | omega | decide) (show (0 < 81 ∨ 101 ≤ 0) ∧ True from ⟨Or.inl (by decide), trivial⟩) (show (80 < 81 ∨ 101 ≤ 80) ∧ (78 < 81 ∨ 101 ≤ 78) ∧ True from ⟨Or.inl (by decide), Or.inl (by decide), trivial⟩) (Nat.le_of_ble_eq_true rfl) dX5_init_133 (pc' := 136) rfl ?_
  refine PG.aast (t := 1) (ci := 3) (j := 0) (Or.inr ⟨rfl, rfl⟩) dX5_init_136 (pc' := 137) rfl rfl (by first | omega | decide) rfl (by first | omega | decide) rfl rfl (by decide) (by decide) rfl ?_
  refine PG.iinc (v := 1) (L' := [_, _]) (pc' := 140) dX5_init_137 rfl rfl (by decide) (by decide) rfl ?_
  refine PG.goto (tgt := 119) dX5_init_140 (by decide) ?_
  refine PG.iload_n (pc' := 120) dX5_init_119 rfl rfl ?_
  refine PG.iconst (v := 3) (pc' := 121) dX5_init_120 rfl rfl ?_
  refine PG.icmp_ge (tgt := 143) (pc' := 124) dX5_init_121 rfl (by decide) (fun c_ => absurd c_ (by decide)) (fun _ => ?_)
  refine PG.aload_n (pc' := 125) dX5_init_124 rfl rfl ?_
  refine PG.getR f_X5_63 dX5_init_125 (pc' := 128) rfl rfl (by first | omega | decide) rfl rfl rfl ?_
  refine PG.iload_n (pc' := 129) dX5_init_128 rfl rfl ?_
  refine PG.new (ci := 3) rfl rfl zinX3 tyX3_ok zdfX3 cl_X5_61 in_X3 ini_X3 (Nat.le_of_ble_eq_true rfl) (Nat.le_of_ble_eq_true rfl) (by first | omega | decide) (show (0 < 82 ∨ 101 ≤ 0) ∧ True from ⟨Or.inl (by decide), trivial⟩) (show (78 < 82 ∨ 101 ≤ 78) ∧ True from ⟨Or.inl (by decide), trivial⟩) dX5_init_129 (pc' := 132) rfl ?_
  refine PG.dup (pc' := 133) dX5_init_132 rfl rfl ?_
  refine PG.callN (i_X3 (o := 82) (by simp [isRp])) rfl im_X3 b_X3_init (fun U q => q.2.2.2.2.2.2) (by first | omega | decide) ⟨rfl, rfl, ⟨Nat.le_of_ble_eq_true rfl, Nat.le_of_ble_eq_true rfl⟩, ⟨Nat.le_of_ble_eq_true rfl, Nat.le_of_ble_eq_true rfl⟩⟩ (by first | omega | decide) (show (0 < 83 ∨ 101 ≤ 0) ∧ True from ⟨Or.inl (by decide), trivial⟩) (show (82 < 83 ∨ 101 ≤ 82) ∧ (78 < 83 ∨ 101 ≤ 78) ∧ True from ⟨Or.inl (by decide), Or.inl (by decide), trivial⟩) (Nat.le_of_ble_eq_true rfl) dX5_init_133 (pc' := 136) rfl ?_
  refine PG.aast (t := 1) (ci := 3) (j := 1) (Or.inr ⟨rfl, rfl⟩) dX5_init_136 (pc' := 137) rfl rfl (by first | omega | decide) rfl (by first | omega | decide) rfl rfl (by decide) (by decide) rfl ?_
  refine PG.iinc (v := 2) (L' := [_, _]) (pc' := 140) dX5_init_137 rfl rfl (by decide) (by decide) rfl ?_
  refine PG.goto (tgt := 119) dX5_init_140 (by decide) ?_
  refine PG.iload_n (pc' := 120) dX5_init_119 rfl rfl ?_
  refine PG.iconst (v := 3) (pc' := 121) dX5_init_120 rfl rfl ?_
  refine PG.icmp_ge (tgt := 143) (pc' := 124) dX5_init_121 rfl (by decide) (fun c_ => absurd c_ (by decide)) (fun _ => ?_)
  refine PG.aload_n (pc' := 125) dX5_init_124 rfl rfl ?_
  refine PG.getR f_X5_63 dX5_init_125 (pc' := 128) rfl rfl (by first | omega | decide) rfl rfl rfl ?_
  refine PG.iload_n (pc' := 129) dX5_init_128 rfl rfl ?_
  refine PG.new (ci := 3) rfl rfl zinX3 tyX3_ok zdfX3 cl_X5_61 in_X3 ini_X3 (Nat.le_of_ble_eq_true rfl) (Nat.le_of_ble_eq_true rfl) (by first | omega | decide) (show (0 < 84 ∨ 101 ≤ 0) ∧ True from ⟨Or.inl (by decide), trivial⟩) (show (78 < 84 ∨ 101 ≤ 78) ∧ True from ⟨Or.inl (by decide), trivial⟩) dX5_init_129 (pc' := 132) rfl ?_
  refine PG.dup (pc' := 133) dX5_init_132 rfl rfl ?_
  refine PG.callN (i_X3 (o := 84) (by simp [isRp])) rfl im_X3 b_X3_init (fun U q => q.2.2.2.2.2.2) (by first | omega | decide) ⟨rfl, rfl, ⟨Nat.le_of_ble_eq_true rfl, Nat.le_of_ble_eq_true rfl⟩, ⟨Nat.le_of_ble_eq_true rfl, Nat.le_of_ble_eq_true rfl⟩⟩ (by first | omega | decide) (show (0 < 85 ∨ 101 ≤ 0) ∧ True from ⟨Or.inl (by decide), trivial⟩) (show (84 < 85 ∨ 101 ≤ 84) ∧ (78 < 85 ∨ 101 ≤ 78) ∧ True from ⟨Or.inl (by decide), Or.inl (by decide), trivial⟩) (Nat.le_of_ble_eq_true rfl) dX5_init_133 (pc' := 136) rfl ?_
  refine PG.aast (t := 1) (ci := 3) (j := 2) (Or.inr ⟨rfl, rfl⟩) dX5_init_136 (pc' := 137) rfl rfl (by first | omega | decide) rfl (by first | omega | decide) rfl rfl (by decide) (by decide) rfl ?_
  refine PG.iinc (v := 3) (L' := [_, _]) (pc' := 140) dX5_init_137 rfl rfl (by decide) (by decide) rfl ?_
  refine PG.goto (tgt := 119) dX5_init_140 (by decide) ?_
  refine PG.iload_n (pc' := 120) dX5_init_119 rfl rfl ?_
  refine PG.iconst (v := 3) (pc' := 121) dX5_init_120 rfl rfl ?_
  refine PG.icmp_ge (tgt := 143) (pc' := 124) dX5_init_121 rfl (by decide) (fun _ => ?_) (fun c_ => absurd (by decide) c_)
  exact PG.vret dX5_init_143 rfl
