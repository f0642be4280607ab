/-! a traverse in cells: the Sides object k holds the n sides f (f i j: side i's kind, figure, east, north, times) -/
abbrev zf : Type := Nat → Nat → Int32
def RS (k n : Nat) (f : zf) (h : zH) : Prop := isS k ∧ n ≤ 8 ∧ h.1 k 5 = nI n ∧ ∀ i, i < n → ∀ j, j < 5 → h.1 (k + 1 + j) i = f i j
theorem RS.fr {j n k : Nat} {f : zf} {h h' : zH} (hS : RS j n f h) (hk : isS k) (hf : zFr (zRg k 6) h h') (hne : j ≠ k) : RS j n f h' := by
  obtain ⟨a, b, c, d⟩ := hS
  have ha := isS_apart a hk
  have e : ∀ o, j ≤ o → o < j + 6 → h'.1 o = h.1 o := fun o h1 h2 => hf.1 o (fun ⟨q1, q2⟩ => by omega)
  exact ⟨a, b, by rw [e j (by omega) (by omega)]; exact c, fun i hi q hq => by rw [e (j + 1 + q) (by omega) (by omega)]; exact d i hi q hq⟩
theorem RS.fo {j n : Nat} {f : zf} {P : Nat → Prop} {h h' : zH} (hS : RS j n f h) (hf : zFr P h h') (hP : ∀ o, P o → o < j ∨ j + 6 ≤ o) : RS j n f h' := by
  obtain ⟨a, b, c, d⟩ := hS
  have e : ∀ o, j ≤ o → o < j + 6 → h'.1 o = h.1 o := fun o h1 h2 => hf.1 o (fun q => by have := hP o q; omega)
  exact ⟨a, b, by rw [e j (by omega) (by omega)]; exact c, fun i hi q hq => by rw [e (j + 1 + q) (by omega) (by omega)]; exact d i hi q hq⟩
def zabs (x : Int32) : Int32 := if 0 ≤ x then x else 0 - x
def zwt (kd e n t : Int32) : Int32 := if kd = 2 ∨ kd = 5 then 2 * (t * (zabs e + zabs n)) else if kd = 3 then (if 1 < t * (zabs e + zabs n) / 2 then t * (zabs e + zabs n) / 2 else 1) else if kd = 4 then 0 else t * (zabs e + zabs n)
def zw (f : zf) (i : Nat) : Int32 := zwt (f i 0) (f i 2) (f i 3) (f i 4)
def zst (kd fg : Int32) : Int32 := if kd = 1 ∨ kd = 3 then 10 + fg else if kd = 5 then 10 - fg else 10
def zun (f : zf) (i a : Nat) : Int32 := zst (f i 0) (f i 1) * f i (2 + a)
def zsp (f : zf) (i a : Nat) : Int32 := f i 4 * zun f i a
def zall (n : Nat) : Int32 := ((1 : Int32) <<< (nI n &&& 31)) - 1
def zbut (n i : Nat) : Int32 := zall n &&& (((1 : Int32) <<< (nI i &&& 31)) ^^^ -1)
def zms (f : zf) (a : Nat) (m : Int32) (n : Nat) : Int32 := zsum (fun i => ((m >>> (nI i &&& 31)) &&& 1) * zsp f i a) n
set_option maxHeartbeats 4000000 in
set_option maxRecDepth 100000 in
theorem c_X4_weightOf (h : zH) (kd e n t : Int32) : K_X4_weightOf [.int kd, .int e, .int n, .int t] h (zD (some (.int (zwt kd e n t))) h) := by
  refine CT.of rfl rfl (Nat.le_of_ble_eq_true rfl) rfl ?_
  refine WG.iload_n (pc' := 1) dX4_weightOf_0 rfl rfl ?_
  refine WG.iload_n (pc' := 2) dX4_weightOf_1 rfl rfl ?_
  refine WG.mabs m_X4_63 (pc' := 5) dX4_weightOf_2 rfl (Nat.le_of_ble_eq_true rfl) (Nat.le_of_ble_eq_true rfl) (Nat.le_of_ble_eq_true rfl) (Nat.le_of_ble_eq_true rfl) ?_
  refine WG.iload_n (pc' := 6) dX4_weightOf_5 rfl rfl ?_
  refine WG.mabs m_X4_63 (pc' := 9) dX4_weightOf_6 rfl (Nat.le_of_ble_eq_true rfl) (Nat.le_of_ble_eq_true rfl) (Nat.le_of_ble_eq_true rfl) (Nat.le_of_ble_eq_true rfl) ?_
  refine WG.iadd (pc' := 10) dX4_weightOf_9 rfl ?_
  refine WG.imul (pc' := 11) dX4_weightOf_10 rfl ?_
  refine WG.istore (L' := [_, _, _, _, _]) (pc' := 13) dX4_weightOf_11 rfl (by decide) rfl ?_
  refine WG.iload_n (pc' := 14) dX4_weightOf_13 rfl rfl ?_
  by_cases e_14_2 : kd = 2
  · refine WG.tableE (v := 2) (tgt := 44) e_14_2 dX4_weightOf_14 (by decide) (by decide) rfl (by decide) ?_
    refine WG.iconst (v := 2) (pc' := 45) dX4_weightOf_44 rfl rfl ?_
    refine WG.iload (pc' := 47) dX4_weightOf_45 rfl rfl ?_
    refine WG.imul (pc' := 48) dX4_weightOf_47 rfl ?_
    refine WG.ireturn dX4_weightOf_48 rfl (by first | rfl | decide) ?_
    exact ⟨by simp [zwt, zabs, *], rfl⟩
  by_cases e_14_3 : kd = 3
  · refine WG.tableE (v := 3) (tgt := 49) e_14_3 dX4_weightOf_14 (by decide) (by decide) rfl (by decide) ?_
    refine WG.iconst (v := 1) (pc' := 50) dX4_weightOf_49 rfl rfl ?_
    refine WG.iload (pc' := 52) dX4_weightOf_50 rfl rfl ?_
    refine WG.iconst (v := 2) (pc' := 53) dX4_weightOf_52 rfl rfl ?_
    refine WG.idiv (pc' := 54) dX4_weightOf_53 rfl (by decide) ?_
    refine WG.mmax m_X4_68 (pc' := 57) dX4_weightOf_54 rfl (Nat.le_of_ble_eq_true rfl) (Nat.le_of_ble_eq_true rfl) (Nat.le_of_ble_eq_true rfl) (Nat.le_of_ble_eq_true rfl) ?_
    refine WG.ireturn dX4_weightOf_57 rfl (by first | rfl | decide) ?_
    exact ⟨by simp [zwt, zabs, *], rfl⟩
  by_cases e_14_4 : kd = 4
  · refine WG.tableE (v := 4) (tgt := 58) e_14_4 dX4_weightOf_14 (by decide) (by decide) rfl (by decide) ?_
    refine WG.iconst (v := 0) (pc' := 59) dX4_weightOf_58 rfl rfl ?_
    refine WG.ireturn dX4_weightOf_59 rfl (by first | rfl | decide) ?_
    exact ⟨by simp [zwt, zabs, *], rfl⟩
  by_cases e_14_5 : kd = 5
  · refine WG.tableE (v := 5) (tgt := 44) e_14_5 dX4_weightOf_14 (by decide) (by decide) rfl (by decide) ?_
    refine WG.iconst (v := 2) (pc' := 45) dX4_weightOf_44 rfl rfl ?_
    refine WG.iload (pc' := 47) dX4_weightOf_45 rfl rfl ?_
    refine WG.imul (pc' := 48) dX4_weightOf_47 rfl ?_
    refine WG.ireturn dX4_weightOf_48 rfl (by first | rfl | decide) ?_
    exact ⟨by simp [zwt, zabs, *], rfl⟩
  refine WG.tableOut (tgt := 60) dX4_weightOf_14 (zsw 2 4 (fun j hj => match j, hj with | 0, _ => e_14_2 | 1, _ => e_14_3 | 2, _ => e_14_4 | 3, _ => e_14_5 | a + 4, h9 => absurd h9 (by omega))) (by decide) ?_
  refine WG.iload (pc' := 62) dX4_weightOf_60 rfl rfl ?_
  refine WG.ireturn dX4_weightOf_62 rfl (by first | rfl | decide) ?_
  exact ⟨by simp [zwt, zabs, *], rfl⟩
set_option maxHeartbeats 4000000 in
set_option maxRecDepth 100000 in
theorem c_X4_weight {h : zH} {k n i : Nat} {f : zf} (hS : RS k n f h) (hi : i < n) : K_X4_weight [.ref k, .int (nI i)] h (zD (some (.int (zw f i))) h) := by
  obtain ⟨hk, hn, h5, hf⟩ := hS
  refine CT.of rfl rfl (Nat.le_of_ble_eq_true rfl) rfl ?_
  refine WG.aload_n (pc' := 1) dX4_weight_0 rfl rfl ?_
  refine WG.getR f_X4_9 (pc' := 4) dX4_weight_1 rfl (zSo (by assumption)) rfl (zSr (by assumption) 0) ?_
  refine WG.iload_n (pc' := 5) dX4_weight_4 rfl rfl ?_
  refine WG.ialoadN  (pc' := 6) dX4_weight_5 rfl (zSa (by assumption) (by decide)) (by first | rfl | assumption) (by first | assumption | omega) (by first | decide | omega) ?_
  refine WG.aload_n (pc' := 7) dX4_weight_6 rfl rfl ?_
  refine WG.getR f_X4_18 (pc' := 10) dX4_weight_7 rfl (zSo (by assumption)) rfl (zSr (by assumption) 2) ?_
  refine WG.iload_n (pc' := 11) dX4_weight_10 rfl rfl ?_
  refine WG.ialoadN  (pc' := 12) dX4_weight_11 rfl (zSa (by assumption) (by decide)) (by first | rfl | assumption) (by first | assumption | omega) (by first | decide | omega) ?_
  refine WG.aload_n (pc' := 13) dX4_weight_12 rfl rfl ?_
  refine WG.getR f_X4_21 (pc' := 16) dX4_weight_13 rfl (zSo (by assumption)) rfl (zSr (by assumption) 3) ?_
  refine WG.iload_n (pc' := 17) dX4_weight_16 rfl rfl ?_
  refine WG.ialoadN  (pc' := 18) dX4_weight_17 rfl (zSa (by assumption) (by decide)) (by first | rfl | assumption) (by first | assumption | omega) (by first | decide | omega) ?_
  refine WG.aload_n (pc' := 19) dX4_weight_18 rfl rfl ?_
  refine WG.getR f_X4_24 (pc' := 22) dX4_weight_19 rfl (zSo (by assumption)) rfl (zSr (by assumption) 4) ?_
  refine WG.iload_n (pc' := 23) dX4_weight_22 rfl rfl ?_
  refine WG.ialoadN  (pc' := 24) dX4_weight_23 rfl (zSa (by assumption) (by decide)) (by first | rfl | assumption) (by first | assumption | omega) (by first | decide | omega) ?_
  refine WG.callSd (c_X4_weightOf _ _ _ _ _) m_X4_72 b_X4_weightOf rfl (zrk_of rfl) rfl (Nat.le_of_ble_eq_true rfl) dX4_weight_24 (pc' := 27) rfl ?_
  refine WG.ireturn dX4_weight_27 rfl (by first | rfl | decide) ?_
  exact ⟨by rw [hf i hi 0 (by decide), hf i hi 2 (by decide), hf i hi 3 (by decide), hf i hi 4 (by decide)]; rfl, rfl⟩
set_option maxHeartbeats 4000000 in
set_option maxRecDepth 100000 in
theorem c_X4_weightOfAll {h : zH} {k n : Nat} {f : zf} (hS : RS k n f h) : K_X4_weightOfAll [.ref k] h (zD (some (.int (zsum (zw f) n))) h) := by
  have hS' := hS
  obtain ⟨hk, hn, h5, hf⟩ := hS
  refine CT.of rfl rfl (Nat.le_of_ble_eq_true rfl) rfl ?_
  have loop : ∀ (m i : Nat), i ≤ n → n - i < m → W_X4_weightOfAll (zD (some (.int (zsum (zw f) n))) h) 4 [some (.ref k), some (.int (zsum (zw f) i)), some (.int (nI i))] [] h := by
    intro m
    induction m with
    | zero => intro i h1 h2; omega
    | succ m ih =>
      intro i hi hm
      refine WG.iload_n (pc' := 5) dX4_weightOfAll_4 rfl rfl ?_
      refine WG.aload_n (pc' := 6) dX4_weightOfAll_5 rfl rfl ?_
      refine WG.getI f_X4_27 (pc' := 9) dX4_weightOfAll_6 rfl (zSo (by assumption)) rfl ?_
      refine WG.icmp_ge (tgt := 26) (pc' := 12) dX4_weightOfAll_9 rfl (by decide) (fun c_9 => ?_) (fun c_9 => ?_)
      · obtain rfl : i = n := by have := (zle h5 (by omega) (by omega)).mp c_9; omega
        refine WG.iload_n (pc' := 27) dX4_weightOfAll_26 rfl rfl ?_
        refine WG.ireturn dX4_weightOfAll_27 rfl (by first | rfl | decide) ?_
        exact ⟨rfl, rfl⟩
      · have hlt : i < n := by have := mt (zle h5 (by omega) (by omega)).mpr c_9; omega
        refine WG.iload_n (pc' := 13) dX4_weightOfAll_12 rfl rfl ?_
        refine WG.aload_n (pc' := 14) dX4_weightOfAll_13 rfl rfl ?_
        refine WG.iload_n (pc' := 15) dX4_weightOfAll_14 rfl rfl ?_
        refine WG.callVd (c_X4_weight hS' hlt) m_X4_76 b_X4_weight (zSo (by assumption)) rfl rfl (zrk_of rfl) rfl (Nat.le_of_ble_eq_true rfl) dX4_weightOfAll_15 (pc' := 18) rfl ?_
        refine WG.iadd (pc' := 19) dX4_weightOfAll_18 rfl ?_
        refine WG.istore_n (L' := [_, _, _]) (pc' := 20) dX4_weightOfAll_19 rfl (by decide) rfl ?_
        refine WG.iinc1 (L' := [_, _, _]) (pc' := 23) dX4_weightOfAll_20 rfl rfl (by decide) rfl ?_
        refine WG.goto (tgt := 4) dX4_weightOfAll_23 (by decide) ?_
        have q := ih (i + 1) hlt (by omega)
        rw [nI_succ] at q
        exact q
  refine WG.iconst (v := 0) (pc' := 1) dX4_weightOfAll_0 rfl rfl ?_
  refine WG.istore_n (L' := [_, _, _]) (pc' := 2) dX4_weightOfAll_1 rfl (by decide) rfl ?_
  refine WG.iconst (v := 0) (pc' := 3) dX4_weightOfAll_2 rfl rfl ?_
  refine WG.istore_n (L' := [_, _, _]) (pc' := 4) dX4_weightOfAll_3 rfl (by decide) rfl ?_
  exact loop (n + 1) 0 (by omega) (by omega)
def zsd (n : Nat) (x : Int32) : Prop := ¬ x < 0 ∧ x < nI n
set_option maxHeartbeats 4000000 in
set_option maxRecDepth 100000 in
theorem c_X4_has {h : zH} {k n : Nat} {f : zf} (hS : RS k n f h) (x : Int32) : K_X4_has [.ref k, .int x] h (zD (some (.int (zb (zsd n x)))) h) := by
  obtain ⟨hk, hn, h5, hf⟩ := hS
  refine CT.of rfl rfl (Nat.le_of_ble_eq_true rfl) rfl ?_
  refine WG.iload_n (pc' := 1) dX4_has_0 rfl rfl ?_
  refine WG.if_lt (tgt := 16) (pc' := 4) dX4_has_1 rfl (by decide) (fun c_1 => ?_) (fun c_1 => ?_)
  · refine WG.iconst (v := 0) (pc' := 17) dX4_has_16 rfl rfl ?_
    refine WG.ireturn dX4_has_17 rfl (by first | rfl | decide) ?_
    exact ⟨by first | (rw [zb_t (by unfold zsd; grind)]; done) | (rw [zb_f (by unfold zsd; grind)]; done), rfl⟩
  · refine WG.iload_n (pc' := 5) dX4_has_4 rfl rfl ?_
    refine WG.aload_n (pc' := 6) dX4_has_5 rfl rfl ?_
    refine WG.getI f_X4_27 (pc' := 9) dX4_has_6 rfl (zSo (by assumption)) rfl ?_
    refine WG.icmp_ge (tgt := 16) (pc' := 12) dX4_has_9 rfl (by decide) (fun c_9 => ?_) (fun c_9 => ?_)
    · rw [h5] at c_9
      refine WG.iconst (v := 0) (pc' := 17) dX4_has_16 rfl rfl ?_
      refine WG.ireturn dX4_has_17 rfl (by first | rfl | decide) ?_
      exact ⟨by first | (rw [zb_t (by unfold zsd; grind)]; done) | (rw [zb_f (by unfold zsd; grind)]; done), rfl⟩
    · rw [h5] at c_9
      refine WG.iconst (v := 1) (pc' := 13) dX4_has_12 rfl rfl ?_
      refine WG.goto (tgt := 17) dX4_has_13 (by decide) ?_
      refine WG.ireturn dX4_has_17 rfl (by first | rfl | decide) ?_
      exact ⟨by first | (rw [zb_t (by unfold zsd; grind)]; done) | (rw [zb_f (by unfold zsd; grind)]; done), rfl⟩
set_option maxHeartbeats 4000000 in
set_option maxRecDepth 100000 in
theorem c_X4_all {h : zH} {k n : Nat} {f : zf} (hS : RS k n f h) : K_X4_all [.ref k] h (zD (some (.int (zall n))) h) := by
  obtain ⟨hk, hn, h5, hf⟩ := hS
  refine CT.of rfl rfl (Nat.le_of_ble_eq_true rfl) rfl ?_
  refine WG.iconst (v := 1) (pc' := 1) dX4_all_0 rfl rfl ?_
  refine WG.aload_n (pc' := 2) dX4_all_1 rfl rfl ?_
  refine WG.getI f_X4_27 (pc' := 5) dX4_all_2 rfl (zSo (by assumption)) rfl ?_
  refine WG.ishl (pc' := 6) dX4_all_5 rfl ?_
  refine WG.iconst (v := 1) (pc' := 7) dX4_all_6 rfl rfl ?_
  refine WG.isub (pc' := 8) dX4_all_7 rfl ?_
  refine WG.ireturn dX4_all_8 rfl (by first | rfl | decide) ?_
  exact ⟨by rw [h5]; rfl, rfl⟩
set_option maxHeartbeats 4000000 in
set_option maxRecDepth 100000 in
theorem c_X4_allBut {h : zH} {k n i : Nat} {f : zf} (hS : RS k n f h) : K_X4_allBut [.ref k, .int (nI i)] h (zD (some (.int (zbut n i))) h) := by
  have hk := hS.1
  refine CT.of rfl rfl (Nat.le_of_ble_eq_true rfl) rfl ?_
  refine WG.aload_n (pc' := 1) dX4_allBut_0 rfl rfl ?_
  refine WG.callVd (c_X4_all hS) m_X4_31 b_X4_all (zSo (by assumption)) rfl rfl (zrk_of rfl) rfl (Nat.le_of_ble_eq_true rfl) dX4_allBut_1 (pc' := 4) rfl ?_
  refine WG.iconst (v := 1) (pc' := 5) dX4_allBut_4 rfl rfl ?_
  refine WG.iload_n (pc' := 6) dX4_allBut_5 rfl rfl ?_
  refine WG.ishl (pc' := 7) dX4_allBut_6 rfl ?_
  refine WG.iconst (v := -1) (pc' := 8) dX4_allBut_7 rfl rfl ?_
  refine WG.ixor (pc' := 9) dX4_allBut_8 rfl ?_
  refine WG.iand (pc' := 10) dX4_allBut_9 rfl ?_
  refine WG.ireturn dX4_allBut_10 rfl (by first | rfl | decide) ?_
  exact ⟨rfl, rfl⟩
set_option maxHeartbeats 4000000 in
set_option maxRecDepth 100000 in
theorem c_X4_stretch {h : zH} {k n i : Nat} {f : zf} (hS : RS k n f h) (hi : i < n) : K_X4_stretch [.ref k, .int (nI i)] h (zD (some (.int (zst (f i 0) (f i 1)))) h) := by
  obtain ⟨hk, hn, h5, hf⟩ := hS
  refine CT.of rfl rfl (Nat.le_of_ble_eq_true rfl) rfl ?_
  have q0 := hf i hi 0 (by decide)
  have q1 := hf i hi 1 (by decide)
  refine WG.aload_n (pc' := 1) dX4_stretch_0 rfl rfl ?_
  refine WG.getR f_X4_9 (pc' := 4) dX4_stretch_1 rfl (zSo (by assumption)) rfl (zSr (by assumption) 0) ?_
  refine WG.iload_n (pc' := 5) dX4_stretch_4 rfl rfl ?_
  refine WG.ialoadN  (pc' := 6) dX4_stretch_5 rfl (zSa (by assumption) (by decide)) (by first | rfl | assumption) (by first | assumption | omega) (by first | decide | omega) ?_
  rw [q0]
  by_cases e_6_1 : f i 0 = 1
  · refine WG.tableE (v := 1) (tgt := 40) e_6_1 dX4_stretch_6 (by decide) (by decide) rfl (by decide) ?_
    refine WG.bipush (v := 10) (pc' := 42) dX4_stretch_40 rfl rfl ?_
    refine WG.aload_n (pc' := 43) dX4_stretch_42 rfl rfl ?_
    refine WG.getR f_X4_15 (pc' := 46) dX4_stretch_43 rfl (zSo (by assumption)) rfl (zSr (by assumption) 1) ?_
    refine WG.iload_n (pc' := 47) dX4_stretch_46 rfl rfl ?_
    refine WG.ialoadN  (pc' := 48) dX4_stretch_47 rfl (zSa (by assumption) (by decide)) (by first | rfl | assumption) (by first | assumption | omega) (by first | decide | omega) ?_
    refine WG.iadd (pc' := 49) dX4_stretch_48 rfl ?_
    refine WG.ireturn dX4_stretch_49 rfl (by first | rfl | decide) ?_
    exact ⟨by rw [q1]; simp [zst, *], rfl⟩
  by_cases e_6_2 : f i 0 = 2
  · refine WG.tableE (v := 2) (tgt := 60) e_6_2 dX4_stretch_6 (by decide) (by decide) rfl (by decide) ?_
    refine WG.bipush (v := 10) (pc' := 62) dX4_stretch_60 rfl rfl ?_
    refine WG.ireturn dX4_stretch_62 rfl (by first | rfl | decide) ?_
    exact ⟨by simp [zst, *], rfl⟩
  by_cases e_6_3 : f i 0 = 3
  · refine WG.tableE (v := 3) (tgt := 40) e_6_3 dX4_stretch_6 (by decide) (by decide) rfl (by decide) ?_
    refine WG.bipush (v := 10) (pc' := 42) dX4_stretch_40 rfl rfl ?_
    refine WG.aload_n (pc' := 43) dX4_stretch_42 rfl rfl ?_
    refine WG.getR f_X4_15 (pc' := 46) dX4_stretch_43 rfl (zSo (by assumption)) rfl (zSr (by assumption) 1) ?_
    refine WG.iload_n (pc' := 47) dX4_stretch_46 rfl rfl ?_
    refine WG.ialoadN  (pc' := 48) dX4_stretch_47 rfl (zSa (by assumption) (by decide)) (by first | rfl | assumption) (by first | assumption | omega) (by first | decide | omega) ?_
    refine WG.iadd (pc' := 49) dX4_stretch_48 rfl ?_
    refine WG.ireturn dX4_stretch_49 rfl (by first | rfl | decide) ?_
    exact ⟨by rw [q1]; simp [zst, *], rfl⟩
  by_cases e_6_4 : f i 0 = 4
  · refine WG.tableE (v := 4) (tgt := 60) e_6_4 dX4_stretch_6 (by decide) (by decide) rfl (by decide) ?_
    refine WG.bipush (v := 10) (pc' := 62) dX4_stretch_60 rfl rfl ?_
    refine WG.ireturn dX4_stretch_62 rfl (by first | rfl | decide) ?_
    exact ⟨by simp [zst, *], rfl⟩
  by_cases e_6_5 : f i 0 = 5
  · refine WG.tableE (v := 5) (tgt := 50) e_6_5 dX4_stretch_6 (by decide) (by decide) rfl (by decide) ?_
    refine WG.bipush (v := 10) (pc' := 52) dX4_stretch_50 rfl rfl ?_
    refine WG.aload_n (pc' := 53) dX4_stretch_52 rfl rfl ?_
    refine WG.getR f_X4_15 (pc' := 56) dX4_stretch_53 rfl (zSo (by assumption)) rfl (zSr (by assumption) 1) ?_
    refine WG.iload_n (pc' := 57) dX4_stretch_56 rfl rfl ?_
    refine WG.ialoadN  (pc' := 58) dX4_stretch_57 rfl (zSa (by assumption) (by decide)) (by first | rfl | assumption) (by first | assumption | omega) (by first | decide | omega) ?_
    refine WG.isub (pc' := 59) dX4_stretch_58 rfl ?_
    refine WG.ireturn dX4_stretch_59 rfl (by first | rfl | decide) ?_
    exact ⟨by rw [q1]; simp [zst, *], rfl⟩
  refine WG.tableOut (tgt := 60) dX4_stretch_6 (zsw 1 5 (fun j hj => match j, hj with | 0, _ => e_6_1 | 1, _ => e_6_2 | 2, _ => e_6_3 | 3, _ => e_6_4 | 4, _ => e_6_5 | a + 5, h9 => absurd h9 (by omega))) (by decide) ?_
  refine WG.bipush (v := 10) (pc' := 62) dX4_stretch_60 rfl rfl ?_
  refine WG.ireturn dX4_stretch_62 rfl (by first | rfl | decide) ?_
  exact ⟨by simp [zst, *], rfl⟩
set_option maxHeartbeats 4000000 in
set_option maxRecDepth 100000 in
theorem c_X4_onceEast {h : zH} {k n i : Nat} {f : zf} (hS : RS k n f h) (hi : i < n) : K_X4_onceEast [.ref k, .int (nI i)] h (zD (some (.int (zun f i 0))) h) := by
  have hS' := hS
  obtain ⟨hk, hn, h5, hf⟩ := hS
  refine CT.of rfl rfl (Nat.le_of_ble_eq_true rfl) rfl ?_
  refine WG.aload_n (pc' := 1) dX4_onceEast_0 rfl rfl ?_
  refine WG.iload_n (pc' := 2) dX4_onceEast_1 rfl rfl ?_
  refine WG.callVd (c_X4_stretch hS' hi) m_X4_53 b_X4_stretch (zSo (by assumption)) rfl rfl (zrk_of rfl) rfl (Nat.le_of_ble_eq_true rfl) dX4_onceEast_2 (pc' := 5) rfl ?_
  refine WG.aload_n (pc' := 6) dX4_onceEast_5 rfl rfl ?_
  refine WG.getR f_X4_18 (pc' := 9) dX4_onceEast_6 rfl (zSo (by assumption)) rfl (zSr (by assumption) 2) ?_
  refine WG.iload_n (pc' := 10) dX4_onceEast_9 rfl rfl ?_
  refine WG.ialoadN  (pc' := 11) dX4_onceEast_10 rfl (zSa (by assumption) (by decide)) (by first | rfl | assumption) (by first | assumption | omega) (by first | decide | omega) ?_
  refine WG.imul (pc' := 12) dX4_onceEast_11 rfl ?_
  refine WG.ireturn dX4_onceEast_12 rfl (by first | rfl | decide) ?_
  exact ⟨by rw [hf i hi 2 (by decide)]; rfl, rfl⟩
set_option maxHeartbeats 4000000 in
set_option maxRecDepth 100000 in
theorem c_X4_onceNorth {h : zH} {k n i : Nat} {f : zf} (hS : RS k n f h) (hi : i < n) : K_X4_onceNorth [.ref k, .int (nI i)] h (zD (some (.int (zun f i 1))) h) := by
  have hS' := hS
  obtain ⟨hk, hn, h5, hf⟩ := hS
  refine CT.of rfl rfl (Nat.le_of_ble_eq_true rfl) rfl ?_
  refine WG.aload_n (pc' := 1) dX4_onceNorth_0 rfl rfl ?_
  refine WG.iload_n (pc' := 2) dX4_onceNorth_1 rfl rfl ?_
  refine WG.callVd (c_X4_stretch hS' hi) m_X4_53 b_X4_stretch (zSo (by assumption)) rfl rfl (zrk_of rfl) rfl (Nat.le_of_ble_eq_true rfl) dX4_onceNorth_2 (pc' := 5) rfl ?_
  refine WG.aload_n (pc' := 6) dX4_onceNorth_5 rfl rfl ?_
  refine WG.getR f_X4_21 (pc' := 9) dX4_onceNorth_6 rfl (zSo (by assumption)) rfl (zSr (by assumption) 3) ?_
  refine WG.iload_n (pc' := 10) dX4_onceNorth_9 rfl rfl ?_
  refine WG.ialoadN  (pc' := 11) dX4_onceNorth_10 rfl (zSa (by assumption) (by decide)) (by first | rfl | assumption) (by first | assumption | omega) (by first | decide | omega) ?_
  refine WG.imul (pc' := 12) dX4_onceNorth_11 rfl ?_
  refine WG.ireturn dX4_onceNorth_12 rfl (by first | rfl | decide) ?_
  exact ⟨by rw [hf i hi 3 (by decide)]; rfl, rfl⟩
set_option maxHeartbeats 4000000 in
set_option maxRecDepth 100000 in
theorem c_X4_stepEast {h : zH} {k n i : Nat} {f : zf} (hS : RS k n f h) (hi : i < n) : K_X4_stepEast [.ref k, .int (nI i)] h (zD (some (.int (zsp f i 0))) h) := by
  have hS' := hS
  obtain ⟨hk, hn, h5, hf⟩ := hS
  refine CT.of rfl rfl (Nat.le_of_ble_eq_true rfl) rfl ?_
  refine WG.aload_n (pc' := 1) dX4_stepEast_0 rfl rfl ?_
  refine WG.getR f_X4_24 (pc' := 4) dX4_stepEast_1 rfl (zSo (by assumption)) rfl (zSr (by assumption) 4) ?_
  refine WG.iload_n (pc' := 5) dX4_stepEast_4 rfl rfl ?_
  refine WG.ialoadN  (pc' := 6) dX4_stepEast_5 rfl (zSa (by assumption) (by decide)) (by first | rfl | assumption) (by first | assumption | omega) (by first | decide | omega) ?_
  refine WG.aload_n (pc' := 7) dX4_stepEast_6 rfl rfl ?_
  refine WG.iload_n (pc' := 8) dX4_stepEast_7 rfl rfl ?_
  refine WG.callVd (c_X4_onceEast hS' hi) m_X4_57 b_X4_onceEast (zSo (by assumption)) rfl rfl (zrk_of rfl) rfl (Nat.le_of_ble_eq_true rfl) dX4_stepEast_8 (pc' := 11) rfl ?_
  refine WG.imul (pc' := 12) dX4_stepEast_11 rfl ?_
  refine WG.ireturn dX4_stepEast_12 rfl (by first | rfl | decide) ?_
  exact ⟨by rw [hf i hi 4 (by decide)]; rfl, rfl⟩
set_option maxHeartbeats 4000000 in
set_option maxRecDepth 100000 in
theorem c_X4_stepNorth {h : zH} {k n i : Nat} {f : zf} (hS : RS k n f h) (hi : i < n) : K_X4_stepNorth [.ref k, .int (nI i)] h (zD (some (.int (zsp f i 1))) h) := by
  have hS' := hS
  obtain ⟨hk, hn, h5, hf⟩ := hS
  refine CT.of rfl rfl (Nat.le_of_ble_eq_true rfl) rfl ?_
  refine WG.aload_n (pc' := 1) dX4_stepNorth_0 rfl rfl ?_
  refine WG.getR f_X4_24 (pc' := 4) dX4_stepNorth_1 rfl (zSo (by assumption)) rfl (zSr (by assumption) 4) ?_
  refine WG.iload_n (pc' := 5) dX4_stepNorth_4 rfl rfl ?_
  refine WG.ialoadN  (pc' := 6) dX4_stepNorth_5 rfl (zSa (by assumption) (by decide)) (by first | rfl | assumption) (by first | assumption | omega) (by first | decide | omega) ?_
  refine WG.aload_n (pc' := 7) dX4_stepNorth_6 rfl rfl ?_
  refine WG.iload_n (pc' := 8) dX4_stepNorth_7 rfl rfl ?_
  refine WG.callVd (c_X4_onceNorth hS' hi) m_X4_60 b_X4_onceNorth (zSo (by assumption)) rfl rfl (zrk_of rfl) rfl (Nat.le_of_ble_eq_true rfl) dX4_stepNorth_8 (pc' := 11) rfl ?_
  refine WG.imul (pc' := 12) dX4_stepNorth_11 rfl ?_
  refine WG.ireturn dX4_stepNorth_12 rfl (by first | rfl | decide) ?_
  exact ⟨by rw [hf i hi 4 (by decide)]; rfl, rfl⟩
set_option maxHeartbeats 4000000 in
set_option maxRecDepth 100000 in
theorem c_X4_missEast {h : zH} {k n : Nat} {f : zf} (hS : RS k n f h) (b : Int32) : K_X4_missEast [.ref k, .int b] h (zD (some (.int (zms f 0 b n))) h) := by
  have hS' := hS
  obtain ⟨hk, hn, h5, hf⟩ := hS
  refine CT.of rfl rfl (Nat.le_of_ble_eq_true rfl) rfl ?_
  have loop : ∀ (m i : Nat), i ≤ n → n - i < m → W_X4_missEast (zD (some (.int (zms f 0 b n))) h) 4 [some (.ref k), some (.int b), some (.int (zms f 0 b i)), some (.int (nI i))] [] h := by
    intro m
    induction m with
    | zero => intro i h1 h2; omega
    | succ m ih =>
      intro i hi hm
      refine WG.iload_n (pc' := 5) dX4_missEast_4 rfl rfl ?_
      refine WG.aload_n (pc' := 6) dX4_missEast_5 rfl rfl ?_
      refine WG.getI f_X4_27 (pc' := 9) dX4_missEast_6 rfl (zSo (by assumption)) rfl ?_
      refine WG.icmp_ge (tgt := 32) (pc' := 12) dX4_missEast_9 rfl (by decide) (fun c_9 => ?_) (fun c_9 => ?_)
      · obtain rfl : i = n := by have := (zle h5 (by omega) (by omega)).mp c_9; omega
        refine WG.iload_n (pc' := 33) dX4_missEast_32 rfl rfl ?_
        refine WG.ireturn dX4_missEast_33 rfl (by first | rfl | decide) ?_
        exact ⟨rfl, rfl⟩
      · have hlt : i < n := by have := mt (zle h5 (by omega) (by omega)).mpr c_9; omega
        refine WG.iload_n (pc' := 13) dX4_missEast_12 rfl rfl ?_
        refine WG.iload_n (pc' := 14) dX4_missEast_13 rfl rfl ?_
        refine WG.iload_n (pc' := 15) dX4_missEast_14 rfl rfl ?_
        refine WG.ishr (pc' := 16) dX4_missEast_15 rfl ?_
        refine WG.iconst (v := 1) (pc' := 17) dX4_missEast_16 rfl rfl ?_
        refine WG.iand (pc' := 18) dX4_missEast_17 rfl ?_
        refine WG.aload_n (pc' := 19) dX4_missEast_18 rfl rfl ?_
        refine WG.iload_n (pc' := 20) dX4_missEast_19 rfl rfl ?_
        refine WG.callVd (c_X4_stepEast hS' hlt) m_X4_79 b_X4_stepEast (zSo (by assumption)) rfl rfl (zrk_of rfl) rfl (Nat.le_of_ble_eq_true rfl) dX4_missEast_20 (pc' := 23) rfl ?_
        refine WG.imul (pc' := 24) dX4_missEast_23 rfl ?_
        refine WG.iadd (pc' := 25) dX4_missEast_24 rfl ?_
        refine WG.istore_n (L' := [_, _, _, _]) (pc' := 26) dX4_missEast_25 rfl (by decide) rfl ?_
        refine WG.iinc1 (L' := [_, _, _, _]) (pc' := 29) dX4_missEast_26 rfl rfl (by decide) rfl ?_
        refine WG.goto (tgt := 4) dX4_missEast_29 (by decide) ?_
        have q := ih (i + 1) hlt (by omega)
        rw [nI_succ] at q
        exact q
  refine WG.iconst (v := 0) (pc' := 1) dX4_missEast_0 rfl rfl ?_
  refine WG.istore_n (L' := [_, _, _, _]) (pc' := 2) dX4_missEast_1 rfl (by decide) rfl ?_
  refine WG.iconst (v := 0) (pc' := 3) dX4_missEast_2 rfl rfl ?_
  refine WG.istore_n (L' := [_, _, _, _]) (pc' := 4) dX4_missEast_3 rfl (by decide) rfl ?_
  exact loop (n + 1) 0 (by omega) (by omega)
set_option maxHeartbeats 4000000 in
set_option maxRecDepth 100000 in
theorem c_X4_missNorth {h : zH} {k n : Nat} {f : zf} (hS : RS k n f h) (b : Int32) : K_X4_missNorth [.ref k, .int b] h (zD (some (.int (zms f 1 b n))) h) := by
  have hS' := hS
  obtain ⟨hk, hn, h5, hf⟩ := hS
  refine CT.of rfl rfl (Nat.le_of_ble_eq_true rfl) rfl ?_
  have loop : ∀ (m i : Nat), i ≤ n → n - i < m → W_X4_missNorth (zD (some (.int (zms f 1 b n))) h) 4 [some (.ref k), some (.int b), some (.int (zms f 1 b i)), some (.int (nI i))] [] h := by
    intro m
    induction m with
    | zero => intro i h1 h2; omega
    | succ m ih =>
      intro i hi hm
      refine WG.iload_n (pc' := 5) dX4_missNorth_4 rfl rfl ?_
      refine WG.aload_n (pc' := 6) dX4_missNorth_5 rfl rfl ?_
      refine WG.getI f_X4_27 (pc' := 9) dX4_missNorth_6 rfl (zSo (by assumption)) rfl ?_
      refine WG.icmp_ge (tgt := 32) (pc' := 12) dX4_missNorth_9 rfl (by decide) (fun c_9 => ?_) (fun c_9 => ?_)
      · obtain rfl : i = n := by have := (zle h5 (by omega) (by omega)).mp c_9; omega
        refine WG.iload_n (pc' := 33) dX4_missNorth_32 rfl rfl ?_
        refine WG.ireturn dX4_missNorth_33 rfl (by first | rfl | decide) ?_
        exact ⟨rfl, rfl⟩
      · have hlt : i < n := by have := mt (zle h5 (by omega) (by omega)).mpr c_9; omega
        refine WG.iload_n (pc' := 13) dX4_missNorth_12 rfl rfl ?_
        refine WG.iload_n (pc' := 14) dX4_missNorth_13 rfl rfl ?_
        refine WG.iload_n (pc' := 15) dX4_missNorth_14 rfl rfl ?_
        refine WG.ishr (pc' := 16) dX4_missNorth_15 rfl ?_
        refine WG.iconst (v := 1) (pc' := 17) dX4_missNorth_16 rfl rfl ?_
        refine WG.iand (pc' := 18) dX4_missNorth_17 rfl ?_
        refine WG.aload_n (pc' := 19) dX4_missNorth_18 rfl rfl ?_
        refine WG.iload_n (pc' := 20) dX4_missNorth_19 rfl rfl ?_
        refine WG.callVd (c_X4_stepNorth hS' hlt) m_X4_82 b_X4_stepNorth (zSo (by assumption)) rfl rfl (zrk_of rfl) rfl (Nat.le_of_ble_eq_true rfl) dX4_missNorth_20 (pc' := 23) rfl ?_
        refine WG.imul (pc' := 24) dX4_missNorth_23 rfl ?_
        refine WG.iadd (pc' := 25) dX4_missNorth_24 rfl ?_
        refine WG.istore_n (L' := [_, _, _, _]) (pc' := 26) dX4_missNorth_25 rfl (by decide) rfl ?_
        refine WG.iinc1 (L' := [_, _, _, _]) (pc' := 29) dX4_missNorth_26 rfl rfl (by decide) rfl ?_
        refine WG.goto (tgt := 4) dX4_missNorth_29 (by decide) ?_
        have q := ih (i + 1) hlt (by omega)
        rw [nI_succ] at q
        exact q
  refine WG.iconst (v := 0) (pc' := 1) dX4_missNorth_0 rfl rfl ?_
  refine WG.istore_n (L' := [_, _, _, _]) (pc' := 2) dX4_missNorth_1 rfl (by decide) rfl ?_
  refine WG.iconst (v := 0) (pc' := 3) dX4_missNorth_2 rfl rfl ?_
  refine WG.istore_n (L' := [_, _, _, _]) (pc' := 4) dX4_missNorth_3 rfl (by decide) rfl ?_
  exact loop (n + 1) 0 (by omega) (by omega)
def zmg (f : zf) (b : Int32) (n : Nat) : Int32 := zabs (zms f 0 b n) + zabs (zms f 1 b n)
set_option maxHeartbeats 4000000 in
set_option maxRecDepth 100000 in
theorem c_X4_missing {h : zH} {k n : Nat} {f : zf} (hS : RS k n f h) (b : Int32) : K_X4_missing [.ref k, .int b] h (zD (some (.int (zmg f b n))) h) := by
  have hk := hS.1
  refine CT.of rfl rfl (Nat.le_of_ble_eq_true rfl) rfl ?_
  refine WG.aload_n (pc' := 1) dX4_missing_0 rfl rfl ?_
  refine WG.iload_n (pc' := 2) dX4_missing_1 rfl rfl ?_
  refine WG.callVd (c_X4_missEast hS b) m_X4_85 b_X4_missEast (zSo (by assumption)) rfl rfl (zrk_of rfl) rfl (Nat.le_of_ble_eq_true rfl) dX4_missing_2 (pc' := 5) rfl ?_
  refine WG.mabs m_X4_63 (pc' := 8) dX4_missing_5 rfl (Nat.le_of_ble_eq_true rfl) (Nat.le_of_ble_eq_true rfl) (Nat.le_of_ble_eq_true rfl) (Nat.le_of_ble_eq_true rfl) ?_
  refine WG.aload_n (pc' := 9) dX4_missing_8 rfl rfl ?_
  refine WG.iload_n (pc' := 10) dX4_missing_9 rfl rfl ?_
  refine WG.callVd (c_X4_missNorth hS b) m_X4_88 b_X4_missNorth (zSo (by assumption)) rfl rfl (zrk_of rfl) rfl (Nat.le_of_ble_eq_true rfl) dX4_missing_10 (pc' := 13) rfl ?_
  refine WG.mabs m_X4_63 (pc' := 16) dX4_missing_13 rfl (Nat.le_of_ble_eq_true rfl) (Nat.le_of_ble_eq_true rfl) (Nat.le_of_ble_eq_true rfl) (Nat.le_of_ble_eq_true rfl) ?_
  refine WG.iadd (pc' := 17) dX4_missing_16 rfl ?_
  refine WG.ireturn dX4_missing_17 rfl (by first | rfl | decide) ?_
  exact ⟨rfl, rfl⟩
def zah (f : zf) (s : Nat) : Nat → Int32
  | 0 => 0
  | i + 1 => if 0 < zw f i - zw f s ∨ (zw f i - zw f s = 0 ∧ i < s) then zah f s i + 1 else zah f s i
set_option maxHeartbeats 4000000 in
set_option maxRecDepth 100000 in
theorem c_X4_aheadByWeight {h : zH} {k n s : Nat} {f : zf} (hS : RS k n f h) (hs : s < n) : K_X4_aheadByWeight [.ref k, .int (nI s)] h (zD (some (.int (zah f s n))) h) := by
  have hS' := hS
  obtain ⟨hk, hn, h5, hf⟩ := hS
  refine CT.of rfl rfl (Nat.le_of_ble_eq_true rfl) rfl ?_
  have loop : ∀ (m i : Nat) (w : Option Value), i ≤ n → n - i < m → W_X4_aheadByWeight (zD (some (.int (zah f s n))) h) 4 [some (.ref k), some (.int (nI s)), some (.int (zah f s i)), some (.int (nI i)), w] [] h := by
    intro m
    induction m with
    | zero => intro i w h1 h2; omega
    | succ m ih =>
      intro i w hi hm
      refine WG.iload_n (pc' := 5) dX4_aheadByWeight_4 rfl rfl ?_
      refine WG.aload_n (pc' := 6) dX4_aheadByWeight_5 rfl rfl ?_
      refine WG.getI f_X4_27 (pc' := 9) dX4_aheadByWeight_6 rfl (zSo (by assumption)) rfl ?_
      refine WG.icmp_ge (tgt := 49) (pc' := 12) dX4_aheadByWeight_9 rfl (by decide) (fun c_9 => ?_) (fun c_9 => ?_)
      · obtain rfl : i = n := by have := (zle h5 (by omega) (by omega)).mp c_9; omega
        refine WG.iload_n (pc' := 50) dX4_aheadByWeight_49 rfl rfl ?_
        refine WG.ireturn dX4_aheadByWeight_50 rfl (by first | rfl | decide) ?_
        exact ⟨rfl, rfl⟩
      · have hlt : i < n := by have := mt (zle h5 (by omega) (by omega)).mpr c_9; omega
        refine WG.aload_n (pc' := 13) dX4_aheadByWeight_12 rfl rfl ?_
        refine WG.iload_n (pc' := 14) dX4_aheadByWeight_13 rfl rfl ?_
        refine WG.callVd (c_X4_weight hS' hlt) m_X4_76 b_X4_weight (zSo (by assumption)) rfl rfl (zrk_of rfl) rfl (Nat.le_of_ble_eq_true rfl) dX4_aheadByWeight_14 (pc' := 17) rfl ?_
        refine WG.aload_n (pc' := 18) dX4_aheadByWeight_17 rfl rfl ?_
        refine WG.iload_n (pc' := 19) dX4_aheadByWeight_18 rfl rfl ?_
        refine WG.callVd (c_X4_weight hS' hs) m_X4_76 b_X4_weight (zSo (by assumption)) rfl rfl (zrk_of rfl) rfl (Nat.le_of_ble_eq_true rfl) dX4_aheadByWeight_19 (pc' := 22) rfl ?_
        refine WG.isub (pc' := 23) dX4_aheadByWeight_22 rfl ?_
        refine WG.istore (L' := [_, _, _, _, _]) (pc' := 25) dX4_aheadByWeight_23 rfl (by decide) rfl ?_
        refine WG.iload (pc' := 27) dX4_aheadByWeight_25 rfl rfl ?_
        refine WG.if_gt (tgt := 40) (pc' := 30) dX4_aheadByWeight_27 rfl (by decide) (fun c_27 => ?_) (fun c_27 => ?_)
        · refine WG.iinc1 (L' := [_, _, _, _, _]) (pc' := 43) dX4_aheadByWeight_40 rfl rfl (by decide) rfl ?_
          refine WG.iinc1 (L' := [_, _, _, _, _]) (pc' := 46) dX4_aheadByWeight_43 rfl rfl (by decide) rfl ?_
          refine WG.goto (tgt := 4) dX4_aheadByWeight_46 (by decide) ?_
          have q := fun w => ih (i + 1) w hlt (by omega)
          rw [nI_succ] at q
          first
            | (rw [show zah f s (i + 1) = zah f s i + 1 from if_pos (by first | exact Or.inl (by assumption) | exact Or.inr ⟨by assumption, by omega⟩)] at q; exact q _)
            | (rw [show zah f s (i + 1) = zah f s i from if_neg (by rintro (a | ⟨a, b⟩) <;> first | contradiction | omega)] at q; exact q _)
        · refine WG.iload (pc' := 32) dX4_aheadByWeight_30 rfl rfl ?_
          refine WG.if_ne (tgt := 43) (pc' := 35) dX4_aheadByWeight_32 rfl (by decide) (fun c_32 => ?_) (fun c_32 => ?_)
          · refine WG.iinc1 (L' := [_, _, _, _, _]) (pc' := 46) dX4_aheadByWeight_43 rfl rfl (by decide) rfl ?_
            refine WG.goto (tgt := 4) dX4_aheadByWeight_46 (by decide) ?_
            have q := fun w => ih (i + 1) w hlt (by omega)
            rw [nI_succ] at q
            first
              | (rw [show zah f s (i + 1) = zah f s i + 1 from if_pos (by first | exact Or.inl (by assumption) | exact Or.inr ⟨by assumption, by omega⟩)] at q; exact q _)
              | (rw [show zah f s (i + 1) = zah f s i from if_neg (by rintro (a | ⟨a, b⟩) <;> first | contradiction | omega)] at q; exact q _)
          · refine WG.iload_n (pc' := 36) dX4_aheadByWeight_35 rfl rfl ?_
            refine WG.iload_n (pc' := 37) dX4_aheadByWeight_36 rfl rfl ?_
            refine WG.icmp_ge (tgt := 43) (pc' := 40) dX4_aheadByWeight_37 rfl (by decide) (fun c_37 => ?_) (fun c_37 => ?_)
            · have c37 := (nI_leI (by omega) (by omega)).mp c_37
              refine WG.iinc1 (L' := [_, _, _, _, _]) (pc' := 46) dX4_aheadByWeight_43 rfl rfl (by decide) rfl ?_
              refine WG.goto (tgt := 4) dX4_aheadByWeight_46 (by decide) ?_
              have q := fun w => ih (i + 1) w hlt (by omega)
              rw [nI_succ] at q
              first
                | (rw [show zah f s (i + 1) = zah f s i + 1 from if_pos (by first | exact Or.inl (by assumption) | exact Or.inr ⟨by assumption, by omega⟩)] at q; exact q _)
                | (rw [show zah f s (i + 1) = zah f s i from if_neg (by rintro (a | ⟨a, b⟩) <;> first | contradiction | omega)] at q; exact q _)
            · have c37 := mt (nI_leI (by omega) (by omega)).mpr c_37
              refine WG.iinc1 (L' := [_, _, _, _, _]) (pc' := 43) dX4_aheadByWeight_40 rfl rfl (by decide) rfl ?_
              refine WG.iinc1 (L' := [_, _, _, _, _]) (pc' := 46) dX4_aheadByWeight_43 rfl rfl (by decide) rfl ?_
              refine WG.goto (tgt := 4) dX4_aheadByWeight_46 (by decide) ?_
              have q := fun w => ih (i + 1) w hlt (by omega)
              rw [nI_succ] at q
              first
                | (rw [show zah f s (i + 1) = zah f s i + 1 from if_pos (by first | exact Or.inl (by assumption) | exact Or.inr ⟨by assumption, by omega⟩)] at q; exact q _)
                | (rw [show zah f s (i + 1) = zah f s i from if_neg (by rintro (a | ⟨a, b⟩) <;> first | contradiction | omega)] at q; exact q _)
  refine WG.iconst (v := 0) (pc' := 1) dX4_aheadByWeight_0 rfl rfl ?_
  refine WG.istore_n (L' := [_, _, _, _, _]) (pc' := 2) dX4_aheadByWeight_1 rfl (by decide) rfl ?_
  refine WG.iconst (v := 0) (pc' := 3) dX4_aheadByWeight_2 rfl rfl ?_
  refine WG.istore_n (L' := [_, _, _, _, _]) (pc' := 4) dX4_aheadByWeight_3 rfl (by decide) rfl ?_
  exact loop (n + 1) 0 _ (by omega) (by omega)
