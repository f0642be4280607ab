section zLay3
variable {n : Nat} {w : Int64} {ux uy px py : Nat → Int64} {h : zH}
def zcs (n : Nat) (px py : Nat → Int64) : Nat → Int64
  | 0 => 0
  | i + 1 => zcs n px py i + zcp px py i (zro n (i + 1))
set_option maxHeartbeats 4000000 in
set_option maxRecDepth 100000 in
theorem c_X0_crossSum (hL : RLay n w ux uy px py h) : K_X0_crossSum [.ref 69] h (zD (some (.long (zcs n px py n))) h) := by
  have hn := hL.1
  have h4 := hL.2.1
  refine CT.of rfl rfl (Nat.le_of_ble_eq_true rfl) rfl ?_
  have loop : ∀ (m i : Nat), i ≤ n → n - i < m → W_X0_crossSum (zD (some (.long (zcs n px py n))) h) 4 [some (.ref 69), some (.long (zcs n px py i)), none, some (.int (nI i))] [] h := by
    intro m
    induction m with
    | zero => intro i h1 h2; omega
    | succ m ih =>
      intro i hi hm
      refine WG.iload_n (pc' := 5) dX0_crossSum_4 rfl rfl ?_
      refine WG.aload_n (pc' := 6) dX0_crossSum_5 rfl rfl ?_
      refine WG.getI f_X0_24 (pc' := 9) dX0_crossSum_6 rfl rfl rfl ?_
      refine WG.icmp_ge (tgt := 33) (pc' := 12) dX0_crossSum_9 rfl (by decide) (fun c_9 => ?_) (fun c_9 => ?_)
      · obtain rfl : i = n := by have := (zle h4 (by omega) (by omega)).mp c_9; omega
        refine WG.lload_n (pc' := 34) dX0_crossSum_33 rfl rfl ?_
        refine WG.lreturn dX0_crossSum_34 rfl ?_
        exact ⟨rfl, rfl⟩
      · have hlt : i < n := by have := mt (zle (i := i) h4 (by omega) (by omega)).mpr c_9; omega
        refine WG.lload_n (pc' := 13) dX0_crossSum_12 rfl rfl ?_
        refine WG.aload_n (pc' := 14) dX0_crossSum_13 rfl rfl ?_
        refine WG.iload_n (pc' := 15) dX0_crossSum_14 rfl rfl ?_
        refine WG.aload_n (pc' := 16) dX0_crossSum_15 rfl rfl ?_
        refine WG.iload_n (pc' := 17) dX0_crossSum_16 rfl rfl ?_
        refine WG.iconst (v := 1) (pc' := 18) dX0_crossSum_17 rfl rfl ?_
        refine WG.iadd (pc' := 19) dX0_crossSum_18 rfl ?_
        rw [nI_1]
        refine WG.callVd (c_X0_round hL (by omega)) m_X0_60 b_X0_round rfl rfl rfl (zrk_of rfl) rfl (Nat.le_of_ble_eq_true rfl) dX0_crossSum_19 (pc' := 22) rfl ?_
        refine WG.callVd (c_X0_crossProduct hL hlt (zro_lt hlt)) m_X0_63 b_X0_crossProduct rfl rfl rfl (zrk_of rfl) rfl (Nat.le_of_ble_eq_true rfl) dX0_crossSum_22 (pc' := 25) rfl ?_
        refine WG.ladd (pc' := 26) dX0_crossSum_25 rfl ?_
        refine WG.lstore_n (L' := [_, _, _, _]) (pc' := 27) dX0_crossSum_26 rfl (by decide) rfl ?_
        refine WG.iinc1 (L' := [_, _, _, _]) (pc' := 30) dX0_crossSum_27 rfl rfl (by decide) rfl ?_
        refine WG.goto (tgt := 4) dX0_crossSum_30 (by decide) ?_
        have q := ih (i + 1) hlt (by omega)
        rw [nI_succ] at q
        exact q
  refine WG.lconst (v := 0) (pc' := 1) dX0_crossSum_0 rfl rfl ?_
  refine WG.lstore_n (L' := [_, _, _, _]) (pc' := 2) dX0_crossSum_1 rfl (by decide) rfl ?_
  refine WG.iconst (v := 0) (pc' := 3) dX0_crossSum_2 rfl rfl ?_
  refine WG.istore_n (L' := [_, _, _, _]) (pc' := 4) dX0_crossSum_3 rfl (by decide) rfl ?_
  exact loop (n + 1) 0 (by omega) (by omega)
def zfs (px py : Nat → Int64) (c : Nat) : Prop := ∀ i, i < c → ¬ zsm px py i c
set_option maxHeartbeats 4000000 in
set_option maxRecDepth 100000 in
theorem c_X0_isFirst (hL : RLay n w ux uy px py h) {c : Nat} (hc : c < n) : K_X0_isFirstAtItsPoint [.ref 69, .int (nI c)] h (zD (some (.int (zb (zfs px py c)))) h) := by
  have hn := hL.1
  refine CT.of rfl rfl (Nat.le_of_ble_eq_true rfl) rfl ?_
  have loop : ∀ (m i : Nat), i ≤ c → c - i < m → (∀ j, j < i → ¬ zsm px py j c) → W_X0_isFirstAtItsPoint (zD (some (.int (zb (zfs px py c)))) h) 2 [some (.ref 69), some (.int (nI c)), some (.int (nI i))] [] h := by
    intro m
    induction m with
    | zero => intro i h1 h2; omega
    | succ m ih =>
      intro i hi hm hp
      refine WG.iload_n (pc' := 3) dX0_isFirstAtItsPoint_2 rfl rfl ?_
      refine WG.iload_n (pc' := 4) dX0_isFirstAtItsPoint_3 rfl rfl ?_
      refine WG.icmp_ge (tgt := 24) (pc' := 7) dX0_isFirstAtItsPoint_4 rfl (by decide) (fun c_4 => ?_) (fun c_4 => ?_)
      · obtain rfl : i = c := by have := (nI_leI (by omega) (by omega)).mp c_4; omega
        refine WG.iconst (v := 1) (pc' := 25) dX0_isFirstAtItsPoint_24 rfl rfl ?_
        refine WG.ireturn dX0_isFirstAtItsPoint_25 rfl (by first | rfl | decide) ?_
        exact ⟨by rw [zb_t (show zfs px py _ from hp)], rfl⟩
      · have hlt : i < c := by have := mt (nI_leI (a := c) (b := i) (by omega) (by omega)).mpr c_4; omega
        refine WG.aload_n (pc' := 8) dX0_isFirstAtItsPoint_7 rfl rfl ?_
        refine WG.iload_n (pc' := 9) dX0_isFirstAtItsPoint_8 rfl rfl ?_
        refine WG.iload_n (pc' := 10) dX0_isFirstAtItsPoint_9 rfl rfl ?_
        refine WG.callVd (c_X0_areAtOnePoint hL (by omega) hc) m_X0_97 b_X0_areAtOnePoint rfl rfl rfl (zrk_of rfl) rfl (Nat.le_of_ble_eq_true rfl) dX0_isFirstAtItsPoint_10 (pc' := 13) rfl ?_
        refine WG.if_eq (tgt := 18) (pc' := 16) dX0_isFirstAtItsPoint_13 rfl (by decide) (fun c_13 => ?_) (fun c_13 => ?_)
        · rw [zb_eq] at c_13
          refine WG.iinc1 (L' := [_, _, _]) (pc' := 21) dX0_isFirstAtItsPoint_18 rfl rfl (by decide) rfl ?_
          refine WG.goto (tgt := 2) dX0_isFirstAtItsPoint_21 (by decide) ?_
          rw [nI_1]
          exact ih (i + 1) hlt (by omega) (fun j hj => by rcases (show j < i ∨ j = i by omega) with q | rfl; exact hp j q; exact c_13)
        · rw [zb_nn] at c_13
          refine WG.iconst (v := 0) (pc' := 17) dX0_isFirstAtItsPoint_16 rfl rfl ?_
          refine WG.ireturn dX0_isFirstAtItsPoint_17 rfl (by first | rfl | decide) ?_
          exact ⟨by rw [zb_f (fun q => q i hlt c_13)], rfl⟩
  refine WG.iconst (v := 0) (pc' := 1) dX0_isFirstAtItsPoint_0 rfl rfl ?_
  refine WG.istore_n (L' := [_, _, _]) (pc' := 2) dX0_isFirstAtItsPoint_1 rfl (by decide) rfl ?_
  exact loop (n + 1) 0 (by omega) (by omega) (fun j hj => by omega)
/-- of those elsewhere none lies right of the line from a to b, or behind a on it -/
def zed (px py : Nat → Int64) (a b c : Nat) : Prop := zsm px py a c ∨ 0 < zlf px py a b c ∨ (zlf px py a b c = 0 ∧ ¬ zbw px py b c a)
def zea (n : Nat) (px py : Nat → Int64) (a b : Nat) : Prop := ∀ c, c < n → zed px py a b c
set_option maxHeartbeats 4000000 in
set_option maxRecDepth 100000 in
theorem c_X0_isEdge (hL : RLay n w ux uy px py h) {a b : Nat} (ha : a < n) (hb : b < n) : K_X0_isEdgeOfAll [.ref 69, .int (nI a), .int (nI b)] h (zD (some (.int (zb (zea n px py a b)))) h) := by
  have hn := hL.1
  have h4 := hL.2.1
  refine CT.of rfl rfl (Nat.le_of_ble_eq_true rfl) rfl ?_
  have loop : ∀ (m i : Nat) (v1 v2 v3 : Option Value), i ≤ n → n - i < m → (∀ j, j < i → zed px py a b j) → W_X0_isEdgeOfAll (zD (some (.int (zb (zea n px py a b)))) h) 2 [some (.ref 69), some (.int (nI a)), some (.int (nI b)), some (.int (nI i)), v1, v2, v3] [] h := by
    intro m
    induction m with
    | zero => intro i v1 v2 v3 h1 h2; omega
    | succ m ih =>
      intro i v1 v2 v3 hi hm hp
      have J : ∀ (u : Int32) (v2 : Option Value), i < n → (u ≠ 0 ↔ zlf px py a b i = 0 ∧ ¬ zbw px py b i a) → W_X0_isEdgeOfAll (zD (some (.int (zb (zea n px py a b)))) h) 43 [some (.ref 69), some (.int (nI a)), some (.int (nI b)), some (.int (nI i)), some (.long (zlf px py a b i)), v2, some (.int u)] [] h := by
        intro u v2 hlt hu
        refine WG.aload_n (pc' := 44) dX0_isEdgeOfAll_43 rfl rfl ?_
        refine WG.iload_n (pc' := 45) dX0_isEdgeOfAll_44 rfl rfl ?_
        refine WG.iload_n (pc' := 46) dX0_isEdgeOfAll_45 rfl rfl ?_
        refine WG.callVd (c_X0_areAtOnePoint hL ha hlt) m_X0_97 b_X0_areAtOnePoint rfl rfl rfl (zrk_of rfl) rfl (Nat.le_of_ble_eq_true rfl) dX0_isEdgeOfAll_46 (pc' := 49) rfl ?_
        refine WG.if_ne (tgt := 66) (pc' := 52) dX0_isEdgeOfAll_49 rfl (by decide) (fun c_49 => ?_) (fun c_49 => ?_)
        · rw [zb_ne] at c_49
          refine WG.iinc1 (L' := [_, _, _, _, _, _, _]) (pc' := 69) dX0_isEdgeOfAll_66 rfl rfl (by decide) rfl ?_
          refine WG.goto (tgt := 2) dX0_isEdgeOfAll_69 (by decide) ?_
          rw [nI_1]
          exact ih (i + 1) _ _ _ hlt (by omega) (fun j hj => by rcases (show j < i ∨ j = i by omega) with q | rfl; exact hp j q; clear ih hp hL; unfold zed; grind)
        · rw [zb_eq] at c_49
          refine WG.lload (pc' := 54) dX0_isEdgeOfAll_52 rfl rfl ?_
          refine WG.lconst (v := 0) (pc' := 55) dX0_isEdgeOfAll_54 rfl rfl ?_
          refine WG.lif_gt (tgt := 66) (pc1 := 56) (pc' := 59) dX0_isEdgeOfAll_55 rfl dX0_isEdgeOfAll_56 rfl (by decide) (fun c_56 => ?_) (fun c_56 => ?_)
          · refine WG.iinc1 (L' := [_, _, _, _, _, _, _]) (pc' := 69) dX0_isEdgeOfAll_66 rfl rfl (by decide) rfl ?_
            refine WG.goto (tgt := 2) dX0_isEdgeOfAll_69 (by decide) ?_
            rw [nI_1]
            exact ih (i + 1) _ _ _ hlt (by omega) (fun j hj => by rcases (show j < i ∨ j = i by omega) with q | rfl; exact hp j q; clear ih hp hL; unfold zed; grind)
          · refine WG.iload (pc' := 61) dX0_isEdgeOfAll_59 rfl rfl ?_
            refine WG.if_ne (tgt := 66) (pc' := 64) dX0_isEdgeOfAll_61 rfl (by decide) (fun c_61 => ?_) (fun c_61 => ?_)
            · refine WG.iinc1 (L' := [_, _, _, _, _, _, _]) (pc' := 69) dX0_isEdgeOfAll_66 rfl rfl (by decide) rfl ?_
              refine WG.goto (tgt := 2) dX0_isEdgeOfAll_69 (by decide) ?_
              rw [nI_1]
              exact ih (i + 1) _ _ _ hlt (by omega) (fun j hj => by rcases (show j < i ∨ j = i by omega) with q | rfl; exact hp j q; clear ih hp hL; unfold zed; grind)
            · refine WG.iconst (v := 0) (pc' := 65) dX0_isEdgeOfAll_64 rfl rfl ?_
              refine WG.ireturn dX0_isEdgeOfAll_65 rfl (by first | rfl | decide) ?_
              exact ⟨by rw [zb_f (fun q => by have q2 := q i hlt; clear ih hp hL q; unfold zed at q2; grind)], rfl⟩
      refine WG.iload_n (pc' := 3) dX0_isEdgeOfAll_2 rfl rfl ?_
      refine WG.aload_n (pc' := 4) dX0_isEdgeOfAll_3 rfl rfl ?_
      refine WG.getI f_X0_24 (pc' := 7) dX0_isEdgeOfAll_4 rfl rfl rfl ?_
      refine WG.icmp_ge (tgt := 72) (pc' := 10) dX0_isEdgeOfAll_7 rfl (by decide) (fun c_7 => ?_) (fun c_7 => ?_)
      · obtain rfl : i = n := by have := (zle h4 (by omega) (by omega)).mp c_7; omega
        refine WG.iconst (v := 1) (pc' := 73) dX0_isEdgeOfAll_72 rfl rfl ?_
        refine WG.ireturn dX0_isEdgeOfAll_73 rfl (by first | rfl | decide) ?_
        exact ⟨by rw [zb_t (show zea _ px py a b from hp)], rfl⟩
      · have hlt : i < n := by have := mt (zle (i := i) h4 (by omega) (by omega)).mpr c_7; omega
        refine WG.aload_n (pc' := 11) dX0_isEdgeOfAll_10 rfl rfl ?_
        refine WG.iload_n (pc' := 12) dX0_isEdgeOfAll_11 rfl rfl ?_
        refine WG.iload_n (pc' := 13) dX0_isEdgeOfAll_12 rfl rfl ?_
        refine WG.iload_n (pc' := 14) dX0_isEdgeOfAll_13 rfl rfl ?_
        refine WG.callVd (c_X0_leftness hL ha hb hlt) m_X0_67 b_X0_leftness rfl rfl rfl (zrk_of rfl) rfl (Nat.le_of_ble_eq_true rfl) dX0_isEdgeOfAll_14 (pc' := 17) rfl ?_
        refine WG.lstore (L' := [_, _, _, _, _, _, _]) (pc' := 19) dX0_isEdgeOfAll_17 rfl (by decide) rfl ?_
        refine WG.lload (pc' := 21) dX0_isEdgeOfAll_19 rfl rfl ?_
        refine WG.lconst (v := 0) (pc' := 22) dX0_isEdgeOfAll_21 rfl rfl ?_
        refine WG.lif_ne (tgt := 40) (pc1 := 23) (pc' := 26) dX0_isEdgeOfAll_22 rfl dX0_isEdgeOfAll_23 rfl (by decide) (fun c_23 => ?_) (fun c_23 => ?_)
        · refine WG.iconst (v := 0) (pc' := 41) dX0_isEdgeOfAll_40 rfl rfl ?_
          refine WG.istore (L' := [_, _, _, _, _, _, _]) (pc' := 43) dX0_isEdgeOfAll_41 rfl (by decide) rfl ?_
          exact J _ _ hlt (by clear ih hp hL J; grind)
        · refine WG.aload_n (pc' := 27) dX0_isEdgeOfAll_26 rfl rfl ?_
          refine WG.iload_n (pc' := 28) dX0_isEdgeOfAll_27 rfl rfl ?_
          refine WG.iload_n (pc' := 29) dX0_isEdgeOfAll_28 rfl rfl ?_
          refine WG.iload_n (pc' := 30) dX0_isEdgeOfAll_29 rfl rfl ?_
          refine WG.callVd (c_X0_isBetween hL hb hlt ha) m_X0_77 b_X0_isBetween rfl rfl rfl (zrk_of rfl) rfl (Nat.le_of_ble_eq_true rfl) dX0_isEdgeOfAll_30 (pc' := 33) rfl ?_
          refine WG.if_ne (tgt := 40) (pc' := 36) dX0_isEdgeOfAll_33 rfl (by decide) (fun c_33 => ?_) (fun c_33 => ?_)
          · rw [zb_ne] at c_33
            refine WG.iconst (v := 0) (pc' := 41) dX0_isEdgeOfAll_40 rfl rfl ?_
            refine WG.istore (L' := [_, _, _, _, _, _, _]) (pc' := 43) dX0_isEdgeOfAll_41 rfl (by decide) rfl ?_
            exact J _ _ hlt (by clear ih hp hL J; grind)
          · rw [zb_eq] at c_33
            refine WG.iconst (v := 1) (pc' := 37) dX0_isEdgeOfAll_36 rfl rfl ?_
            refine WG.goto (tgt := 41) dX0_isEdgeOfAll_37 (by decide) ?_
            refine WG.istore (L' := [_, _, _, _, _, _, _]) (pc' := 43) dX0_isEdgeOfAll_41 rfl (by decide) rfl ?_
            exact J _ _ hlt (by clear ih hp hL J; grind)
  refine WG.iconst (v := 0) (pc' := 1) dX0_isEdgeOfAll_0 rfl rfl ?_
  refine WG.istore_n (L' := [_, _, _, _, _, _, _]) (pc' := 2) dX0_isEdgeOfAll_1 rfl (by decide) rfl ?_
  exact loop (n + 1) 0 _ _ _ (by omega) (by omega) (fun j hj => by omega)
def zao (n : Nat) (px py : Nat → Int64) (c : Nat) : Prop := (∃ i, i < n ∧ ¬ zsm px py c i ∧ zea n px py c i) ∨ ∀ i, i < n → zsm px py c i
set_option maxHeartbeats 4000000 in
set_option maxRecDepth 100000 in
theorem c_X0_isAtOutline (hL : RLay n w ux uy px py h) {c : Nat} (hc : c < n) : K_X0_isAtOutline [.ref 69, .int (nI c)] h (zD (some (.int (zb (zao n px py c)))) h) := by
  have hn := hL.1
  have h4 := hL.2.1
  refine CT.of rfl rfl (Nat.le_of_ble_eq_true rfl) rfl ?_
  have loop : ∀ (m i : Nat), i ≤ n → n - i < m → (∀ j, j < i → zsm px py c j ∨ ¬ zea n px py c j) → W_X0_isAtOutline (zD (some (.int (zb (zao n px py c)))) h) 4 [some (.ref 69), some (.int (nI c)), some (.int (zb (∀ j, j < i → zsm px py c j))), some (.int (nI i))] [] h := by
    intro m
    induction m with
    | zero => intro i h1 h2; omega
    | succ m ih =>
      intro i hi hm hp
      refine WG.iload_n (pc' := 5) dX0_isAtOutline_4 rfl rfl ?_
      refine WG.aload_n (pc' := 6) dX0_isAtOutline_5 rfl rfl ?_
      refine WG.getI f_X0_24 (pc' := 9) dX0_isAtOutline_6 rfl rfl rfl ?_
      refine WG.icmp_ge (tgt := 40) (pc' := 12) dX0_isAtOutline_9 rfl (by decide) (fun c_9 => ?_) (fun c_9 => ?_)
      · obtain rfl : i = n := by have := (zle h4 (by omega) (by omega)).mp c_9; omega
        refine WG.iload_n (pc' := 41) dX0_isAtOutline_40 rfl rfl ?_
        refine WG.ireturn dX0_isAtOutline_41 rfl (zb_n _) ?_
        exact ⟨by rw [zb_i (show zao _ px py c ↔ _ from ⟨fun q => q.elim (fun ⟨j, h1, h2, h3⟩ => absurd h3 ((hp j h1).resolve_left h2)) id, Or.inr⟩)], rfl⟩
      · have hlt : i < n := by have := mt (zle (i := i) h4 (by omega) (by omega)).mpr c_9; omega
        refine WG.aload_n (pc' := 13) dX0_isAtOutline_12 rfl rfl ?_
        refine WG.iload_n (pc' := 14) dX0_isAtOutline_13 rfl rfl ?_
        refine WG.iload_n (pc' := 15) dX0_isAtOutline_14 rfl rfl ?_
        refine WG.callVd (c_X0_areAtOnePoint hL hc hlt) m_X0_97 b_X0_areAtOnePoint rfl rfl rfl (zrk_of rfl) rfl (Nat.le_of_ble_eq_true rfl) dX0_isAtOutline_15 (pc' := 18) rfl ?_
        refine WG.if_ne (tgt := 34) (pc' := 21) dX0_isAtOutline_18 rfl (by decide) (fun c_18 => ?_) (fun c_18 => ?_)
        · rw [zb_ne] at c_18
          have e := ih (i + 1) hlt (by omega) (fun j hj => by rcases (show j < i ∨ j = i by omega) with q | rfl; exact hp j q; exact Or.inl c_18)
          rw [nI_succ, zb_i (show (∀ j, j < i + 1 → zsm px py c j) ↔ ∀ j, j < i → zsm px py c j from ⟨fun q j hj => q j (by omega), fun q j hj => by rcases (show j < i ∨ j = i by omega) with z | rfl; exact q j z; exact c_18⟩)] at e
          refine WG.iinc1 (L' := [_, _, _, _]) (pc' := 37) dX0_isAtOutline_34 rfl rfl (by decide) rfl ?_
          refine WG.goto (tgt := 4) dX0_isAtOutline_37 (by decide) ?_
          exact e
        · rw [zb_eq] at c_18
          refine WG.iconst (v := 0) (pc' := 22) dX0_isAtOutline_21 rfl rfl ?_
          refine WG.istore_n (L' := [_, _, _, _]) (pc' := 23) dX0_isAtOutline_22 rfl (by decide) rfl ?_
          refine WG.aload_n (pc' := 24) dX0_isAtOutline_23 rfl rfl ?_
          refine WG.iload_n (pc' := 25) dX0_isAtOutline_24 rfl rfl ?_
          refine WG.iload_n (pc' := 26) dX0_isAtOutline_25 rfl rfl ?_
          refine WG.callVd (c_X0_isEdge hL hc hlt) m_X0_100 b_X0_isEdgeOfAll rfl rfl rfl (zrk_of rfl) rfl (Nat.le_of_ble_eq_true rfl) dX0_isAtOutline_26 (pc' := 29) rfl ?_
          refine WG.if_eq (tgt := 34) (pc' := 32) dX0_isAtOutline_29 rfl (by decide) (fun c_29 => ?_) (fun c_29 => ?_)
          · rw [zb_eq] at c_29
            have e := ih (i + 1) hlt (by omega) (fun j hj => by rcases (show j < i ∨ j = i by omega) with q | rfl; exact hp j q; exact Or.inr c_29)
            rw [nI_succ, zb_f (P := ∀ j, j < i + 1 → zsm px py c j) (fun q => c_18 (q i (by omega)))] at e
            refine WG.iinc1 (L' := [_, _, _, _]) (pc' := 37) dX0_isAtOutline_34 rfl rfl (by decide) rfl ?_
            refine WG.goto (tgt := 4) dX0_isAtOutline_37 (by decide) ?_
            exact e
          · rw [zb_nn] at c_29
            refine WG.iconst (v := 1) (pc' := 33) dX0_isAtOutline_32 rfl rfl ?_
            refine WG.ireturn dX0_isAtOutline_33 rfl (by first | rfl | decide) ?_
            exact ⟨by rw [zb_t (show zao n px py c from Or.inl ⟨i, hlt, c_18, c_29⟩)], rfl⟩
  refine WG.iconst (v := 1) (pc' := 1) dX0_isAtOutline_0 rfl rfl ?_
  refine WG.istore_n (L' := [_, _, _, _]) (pc' := 2) dX0_isAtOutline_1 rfl (by decide) rfl ?_
  refine WG.iconst (v := 0) (pc' := 3) dX0_isAtOutline_2 rfl rfl ?_
  refine WG.istore_n (L' := [_, _, _, _]) (pc' := 4) dX0_isAtOutline_3 rfl (by decide) rfl ?_
  have e := loop (n + 1) 0 (by omega) (by omega) (fun j hj => by omega)
  rw [zb_t (fun j hj => by omega)] at e
  exact e
noncomputable def zob (n : Nat) (px py : Nat → Int64) : Nat → Int32
  | 0 => 0
  | i + 1 => @ite Int32 (zfs px py i ∧ zao n px py i) (Classical.propDecidable _) (zob n px py i ||| ((1 : Int32) <<< (nI i &&& 31))) (zob n px py i)
set_option maxHeartbeats 4000000 in
set_option maxRecDepth 100000 in
theorem c_X0_outlineBits (hL : RLay n w ux uy px py h) : K_X0_outlineBits [.ref 69] h (zD (some (.int (zob n px py n))) h) := by
  have hn := hL.1
  have h4 := hL.2.1
  refine CT.of rfl rfl (Nat.le_of_ble_eq_true rfl) rfl ?_
  have loop : ∀ (m i : Nat), i ≤ n → n - i < m → W_X0_outlineBits (zD (some (.int (zob n px py n))) h) 4 [some (.ref 69), some (.int (zob n px py i)), some (.int (nI i))] [] h := by
    intro m
    induction m with
    | zero => intro i h1 h2; omega
    | succ m ih =>
      intro i hi hm
      refine WG.iload_n (pc' := 5) dX0_outlineBits_4 rfl rfl ?_
      refine WG.aload_n (pc' := 6) dX0_outlineBits_5 rfl rfl ?_
      refine WG.getI f_X0_24 (pc' := 9) dX0_outlineBits_6 rfl rfl rfl ?_
      refine WG.icmp_ge (tgt := 40) (pc' := 12) dX0_outlineBits_9 rfl (by decide) (fun c_9 => ?_) (fun c_9 => ?_)
      · obtain rfl : i = n := by have := (zle h4 (by omega) (by omega)).mp c_9; omega
        refine WG.iload_n (pc' := 41) dX0_outlineBits_40 rfl rfl ?_
        refine WG.ireturn dX0_outlineBits_41 rfl (by first | rfl | decide) ?_
        exact ⟨rfl, rfl⟩
      · have hlt : i < n := by have := mt (zle (i := i) h4 (by omega) (by omega)).mpr c_9; omega
        have e := ih (i + 1) hlt (by omega)
        rw [nI_succ] at e
        refine WG.aload_n (pc' := 13) dX0_outlineBits_12 rfl rfl ?_
        refine WG.iload_n (pc' := 14) dX0_outlineBits_13 rfl rfl ?_
        refine WG.callVd (c_X0_isFirst hL hlt) m_X0_103 b_X0_isFirstAtItsPoint rfl rfl rfl (zrk_of rfl) rfl (Nat.le_of_ble_eq_true rfl) dX0_outlineBits_14 (pc' := 17) rfl ?_
        refine WG.if_eq (tgt := 34) (pc' := 20) dX0_outlineBits_17 rfl (by decide) (fun c_17 => ?_) (fun c_17 => ?_)
        · rw [zb_eq] at c_17
          rw [show zob n px py (i + 1) = zob n px py i from if_neg (fun q => c_17 q.1)] at e
          refine WG.iinc1 (L' := [_, _, _]) (pc' := 37) dX0_outlineBits_34 rfl rfl (by decide) rfl ?_
          refine WG.goto (tgt := 4) dX0_outlineBits_37 (by decide) ?_
          exact e
        · rw [zb_nn] at c_17
          refine WG.aload_n (pc' := 21) dX0_outlineBits_20 rfl rfl ?_
          refine WG.iload_n (pc' := 22) dX0_outlineBits_21 rfl rfl ?_
          refine WG.callVd (c_X0_isAtOutline hL hlt) m_X0_107 b_X0_isAtOutline rfl rfl rfl (zrk_of rfl) rfl (Nat.le_of_ble_eq_true rfl) dX0_outlineBits_22 (pc' := 25) rfl ?_
          refine WG.if_eq (tgt := 34) (pc' := 28) dX0_outlineBits_25 rfl (by decide) (fun c_25 => ?_) (fun c_25 => ?_)
          · rw [zb_eq] at c_25
            rw [show zob n px py (i + 1) = zob n px py i from if_neg (fun q => c_25 q.2)] at e
            refine WG.iinc1 (L' := [_, _, _]) (pc' := 37) dX0_outlineBits_34 rfl rfl (by decide) rfl ?_
            refine WG.goto (tgt := 4) dX0_outlineBits_37 (by decide) ?_
            exact e
          · rw [zb_nn] at c_25
            rw [show zob n px py (i + 1) = zob n px py i ||| ((1 : Int32) <<< (nI i &&& 31)) from if_pos ⟨c_17, c_25⟩] at e
            refine WG.iload_n (pc' := 29) dX0_outlineBits_28 rfl rfl ?_
            refine WG.iconst (v := 1) (pc' := 30) dX0_outlineBits_29 rfl rfl ?_
            refine WG.iload_n (pc' := 31) dX0_outlineBits_30 rfl rfl ?_
            refine WG.ishl (pc' := 32) dX0_outlineBits_31 rfl ?_
            refine WG.ior (pc' := 33) dX0_outlineBits_32 rfl ?_
            refine WG.istore_n (L' := [_, _, _]) (pc' := 34) dX0_outlineBits_33 rfl (by decide) rfl ?_
            refine WG.iinc1 (L' := [_, _, _]) (pc' := 37) dX0_outlineBits_34 rfl rfl (by decide) rfl ?_
            refine WG.goto (tgt := 4) dX0_outlineBits_37 (by decide) ?_
            exact e
  refine WG.iconst (v := 0) (pc' := 1) dX0_outlineBits_0 rfl rfl ?_
  refine WG.istore_n (L' := [_, _, _]) (pc' := 2) dX0_outlineBits_1 rfl (by decide) rfl ?_
  refine WG.iconst (v := 0) (pc' := 3) dX0_outlineBits_2 rfl rfl ?_
  refine WG.istore_n (L' := [_, _, _]) (pc' := 4) dX0_outlineBits_3 rfl (by decide) rfl ?_
  exact loop (n + 1) 0 (by omega) (by omega)
def zbit (s : Int32) (a : Nat) : Prop := (s >>> (nI a &&& 31)) &&& 1 = 1
noncomputable def zhi (n : Nat) (px py : Nat → Int64) (s : Int32) (a : Nat) : Nat → Int64
  | 0 => 0
  | b + 1 => zhi n px py s a b + @ite Int64 (a ≠ b ∧ zbit s a ∧ zbit s b ∧ zea n px py a b) (Classical.propDecidable _) (zcp px py a b) 0
noncomputable def zho (n : Nat) (px py : Nat → Int64) (s : Int32) : Nat → Int64
  | 0 => 0
  | a + 1 => zho n px py s a + zhi n px py s a n
set_option maxHeartbeats 4000000 in
set_option maxRecDepth 100000 in
theorem c_X0_hullSum (hL : RLay n w ux uy px py h) : K_X0_hullSum [.ref 69] h (zD (some (.long (zho n px py (zob n px py n) n))) h) := by
  have hn := hL.1
  have h4 := hL.2.1
  refine CT.of rfl rfl (Nat.le_of_ble_eq_true rfl) rfl ?_
  have loop : ∀ (s : Int32) (m a : Nat) (v5 v6 : Option Value), a ≤ n → n - a < m → W_X0_hullSum (zD (some (.long (zho n px py s n))) h) 10 [some (.ref 69), some (.int s), some (.long (zho n px py s a)), none, some (.int (nI a)), v5, v6] [] h := by
    intro s m
    induction m with
    | zero => intro a v5 v6 h1 h2; omega
    | succ m ih =>
      intro a v5 v6 ha hm
      have inner : ∀ (m2 b : Nat) (v6 : Option Value), a < n → b ≤ n → n - b < m2 → W_X0_hullSum (zD (some (.long (zho n px py s n))) h) 22 [some (.ref 69), some (.int s), some (.long (zho n px py s a + zhi n px py s a b)), none, some (.int (nI a)), some (.int (nI b)), v6] [] h := by
        intro m2
        induction m2 with
        | zero => intro b v6 h1 h2 h3; omega
        | succ m2 ih2 =>
          intro b v6 hlt hb hm2
          have J : ∀ u : Int32, b < n → (u ≠ 0 ↔ zbit s a ∧ zbit s b) → W_X0_hullSum (zD (some (.long (zho n px py s n))) h) 58 [some (.ref 69), some (.int s), some (.long (zho n px py s a + zhi n px py s a b)), none, some (.int (nI a)), some (.int (nI b)), some (.int u)] [] h := by
            intro u hbl hu
            have e := fun v => ih2 (b + 1) v hlt hbl (by omega)
            rw [nI_succ] at e
            have e0 : ¬ (a ≠ b ∧ zbit s a ∧ zbit s b ∧ zea n px py a b) → zhi n px py s a (b + 1) = zhi n px py s a b := fun q => by show zhi n px py s a b + _ = _; rw [if_neg q]; exact Int64.add_zero _
            refine WG.iload (pc' := 60) dX0_hullSum_58 rfl rfl ?_
            refine WG.iload (pc' := 62) dX0_hullSum_60 rfl rfl ?_
            refine WG.icmp_eq (tgt := 92) (pc' := 65) dX0_hullSum_62 rfl (by decide) (fun c_62 => ?_) (fun c_62 => ?_)
            · rw [e0 (fun q => q.1 ((nI_eq (by omega) (by omega)).mp c_62))] at e
              refine WG.iinc1 (L' := [_, _, _, _, _, _, _]) (pc' := 95) dX0_hullSum_92 rfl rfl (by decide) rfl ?_
              refine WG.goto (tgt := 22) dX0_hullSum_95 (by decide) ?_
              exact e _
            · have c62 := mt (nI_eq (a := a) (b := b) (by omega) (by omega)).mpr c_62
              refine WG.iload (pc' := 67) dX0_hullSum_65 rfl rfl ?_
              refine WG.if_eq (tgt := 92) (pc' := 70) dX0_hullSum_67 rfl (by decide) (fun c_67 => ?_) (fun c_67 => ?_)
              · rw [e0 (fun q => absurd c_67 (hu.mpr ⟨q.2.1, q.2.2.1⟩))] at e
                refine WG.iinc1 (L' := [_, _, _, _, _, _, _]) (pc' := 95) dX0_hullSum_92 rfl rfl (by decide) rfl ?_
                refine WG.goto (tgt := 22) dX0_hullSum_95 (by decide) ?_
                exact e _
              · have c67 := hu.mp c_67
                refine WG.aload_n (pc' := 71) dX0_hullSum_70 rfl rfl ?_
                refine WG.iload (pc' := 73) dX0_hullSum_71 rfl rfl ?_
                refine WG.iload (pc' := 75) dX0_hullSum_73 rfl rfl ?_
                refine WG.callVd (c_X0_isEdge hL hlt hbl) m_X0_100 b_X0_isEdgeOfAll rfl rfl rfl (zrk_of rfl) rfl (Nat.le_of_ble_eq_true rfl) dX0_hullSum_75 (pc' := 78) rfl ?_
                refine WG.if_eq (tgt := 92) (pc' := 81) dX0_hullSum_78 rfl (by decide) (fun c_78 => ?_) (fun c_78 => ?_)
                · rw [zb_eq] at c_78
                  rw [e0 (fun q => c_78 q.2.2.2)] at e
                  refine WG.iinc1 (L' := [_, _, _, _, _, _, _]) (pc' := 95) dX0_hullSum_92 rfl rfl (by decide) rfl ?_
                  refine WG.goto (tgt := 22) dX0_hullSum_95 (by decide) ?_
                  exact e _
                · rw [zb_nn] at c_78
                  rw [show zhi n px py s a (b + 1) = zhi n px py s a b + zcp px py a b by show zhi n px py s a b + _ = _; rw [if_pos ⟨c62, c67.1, c67.2, c_78⟩], ← Int64.add_assoc] at e
                  refine WG.lload_n (pc' := 82) dX0_hullSum_81 rfl rfl ?_
                  refine WG.aload_n (pc' := 83) dX0_hullSum_82 rfl rfl ?_
                  refine WG.iload (pc' := 85) dX0_hullSum_83 rfl rfl ?_
                  refine WG.iload (pc' := 87) dX0_hullSum_85 rfl rfl ?_
                  refine WG.callVd (c_X0_crossProduct hL hlt hbl) m_X0_63 b_X0_crossProduct rfl rfl rfl (zrk_of rfl) rfl (Nat.le_of_ble_eq_true rfl) dX0_hullSum_87 (pc' := 90) rfl ?_
                  refine WG.ladd (pc' := 91) dX0_hullSum_90 rfl ?_
                  refine WG.lstore_n (L' := [_, _, _, _, _, _, _]) (pc' := 92) dX0_hullSum_91 rfl (by decide) rfl ?_
                  refine WG.iinc1 (L' := [_, _, _, _, _, _, _]) (pc' := 95) dX0_hullSum_92 rfl rfl (by decide) rfl ?_
                  refine WG.goto (tgt := 22) dX0_hullSum_95 (by decide) ?_
                  exact e _
          refine WG.iload (pc' := 24) dX0_hullSum_22 rfl rfl ?_
          refine WG.aload_n (pc' := 25) dX0_hullSum_24 rfl rfl ?_
          refine WG.getI f_X0_24 (pc' := 28) dX0_hullSum_25 rfl rfl rfl ?_
          refine WG.icmp_ge (tgt := 98) (pc' := 31) dX0_hullSum_28 rfl (by decide) (fun c_28 => ?_) (fun c_28 => ?_)
          · obtain rfl : b = n := by have := (zle h4 (by omega) (by omega)).mp c_28; omega
            refine WG.iinc1 (L' := [_, _, _, _, _, _, _]) (pc' := 101) dX0_hullSum_98 rfl rfl (by decide) rfl ?_
            refine WG.goto (tgt := 10) dX0_hullSum_101 (by decide) ?_
            rw [nI_1]
            exact ih (a + 1) _ _ hlt (by omega)
          · have hbl : b < n := by have := mt (zle (i := b) h4 (by omega) (by omega)).mpr c_28; omega
            refine WG.iload_n (pc' := 32) dX0_hullSum_31 rfl rfl ?_
            refine WG.iload (pc' := 34) dX0_hullSum_32 rfl rfl ?_
            refine WG.ishr (pc' := 35) dX0_hullSum_34 rfl ?_
            refine WG.iconst (v := 1) (pc' := 36) dX0_hullSum_35 rfl rfl ?_
            refine WG.iand (pc' := 37) dX0_hullSum_36 rfl ?_
            refine WG.iconst (v := 1) (pc' := 38) dX0_hullSum_37 rfl rfl ?_
            refine WG.icmp_ne (tgt := 55) (pc' := 41) dX0_hullSum_38 rfl (by decide) (fun c_38 => ?_) (fun c_38 => ?_)
            · refine WG.iconst (v := 0) (pc' := 56) dX0_hullSum_55 rfl rfl ?_
              refine WG.istore (L' := [_, _, _, _, _, _, _]) (pc' := 58) dX0_hullSum_56 rfl (by decide) rfl ?_
              exact J _ hbl (by unfold zbit; clear J ih2 ih hL; grind)
            · refine WG.iload_n (pc' := 42) dX0_hullSum_41 rfl rfl ?_
              refine WG.iload (pc' := 44) dX0_hullSum_42 rfl rfl ?_
              refine WG.ishr (pc' := 45) dX0_hullSum_44 rfl ?_
              refine WG.iconst (v := 1) (pc' := 46) dX0_hullSum_45 rfl rfl ?_
              refine WG.iand (pc' := 47) dX0_hullSum_46 rfl ?_
              refine WG.iconst (v := 1) (pc' := 48) dX0_hullSum_47 rfl rfl ?_
              refine WG.icmp_ne (tgt := 55) (pc' := 51) dX0_hullSum_48 rfl (by decide) (fun c_48 => ?_) (fun c_48 => ?_)
              · refine WG.iconst (v := 0) (pc' := 56) dX0_hullSum_55 rfl rfl ?_
                refine WG.istore (L' := [_, _, _, _, _, _, _]) (pc' := 58) dX0_hullSum_56 rfl (by decide) rfl ?_
                exact J _ hbl (by unfold zbit; clear J ih2 ih hL; grind)
              · refine WG.iconst (v := 1) (pc' := 52) dX0_hullSum_51 rfl rfl ?_
                refine WG.goto (tgt := 56) dX0_hullSum_52 (by decide) ?_
                refine WG.istore (L' := [_, _, _, _, _, _, _]) (pc' := 58) dX0_hullSum_56 rfl (by decide) rfl ?_
                exact J _ hbl (by unfold zbit; clear J ih2 ih hL; grind)
      refine WG.iload (pc' := 12) dX0_hullSum_10 rfl rfl ?_
      refine WG.aload_n (pc' := 13) dX0_hullSum_12 rfl rfl ?_
      refine WG.getI f_X0_24 (pc' := 16) dX0_hullSum_13 rfl rfl rfl ?_
      refine WG.icmp_ge (tgt := 104) (pc' := 19) dX0_hullSum_16 rfl (by decide) (fun c_16 => ?_) (fun c_16 => ?_)
      · obtain rfl : a = n := by have := (zle h4 (by omega) (by omega)).mp c_16; omega
        refine WG.lload_n (pc' := 105) dX0_hullSum_104 rfl rfl ?_
        refine WG.lreturn dX0_hullSum_105 rfl ?_
        exact ⟨rfl, rfl⟩
      · have hlt : a < n := by have := mt (zle (i := a) h4 (by omega) (by omega)).mpr c_16; omega
        refine WG.iconst (v := 0) (pc' := 20) dX0_hullSum_19 rfl rfl ?_
        refine WG.istore (L' := [_, _, _, _, _, _, _]) (pc' := 22) dX0_hullSum_20 rfl (by decide) rfl ?_
        have e := inner (n + 1) 0 v6 hlt (by omega) (by omega)
        rw [show zho n px py s a + zhi n px py s a 0 = zho n px py s a from Int64.add_zero _] at e
        exact e
  refine WG.aload_n (pc' := 1) dX0_hullSum_0 rfl rfl ?_
  refine WG.callVd (c_X0_outlineBits hL) m_X0_110 b_X0_outlineBits rfl rfl rfl (zrk_of rfl) rfl (Nat.le_of_ble_eq_true rfl) dX0_hullSum_1 (pc' := 4) rfl ?_
  refine WG.istore_n (L' := [_, _, _, _, _, _, _]) (pc' := 5) dX0_hullSum_4 rfl (by decide) rfl ?_
  refine WG.lconst (v := 0) (pc' := 6) dX0_hullSum_5 rfl rfl ?_
  refine WG.lstore_n (L' := [_, _, _, _, _, _, _]) (pc' := 7) dX0_hullSum_6 rfl (by decide) rfl ?_
  refine WG.iconst (v := 0) (pc' := 8) dX0_hullSum_7 rfl rfl ?_
  refine WG.istore (L' := [_, _, _, _, _, _, _]) (pc' := 10) dX0_hullSum_8 rfl (by decide) rfl ?_
  exact loop _ (n + 1) 0 _ _ (by omega) (by omega)
end zLay3
section zLay4
variable {n : Nat} {w : Int64} {ux uy px py : Nat → Int64} {h : zH}
/-- a parcel of k triangles from corner c on (its cross sums) -/
def zpa (n : Nat) (px py : Nat → Int64) (c : Nat) : Nat → Int64
  | 0 => 0
  | j + 1 => zpa n px py c j + zlf px py c (zro n (c + (j + 1))) (zro n (c + (j + 1) + 1))
theorem zro_lt2 {n i : Nat} (ha : i < 2 * n) : zro n i < n := by unfold zro; split <;> omega
set_option maxHeartbeats 4000000 in
set_option maxRecDepth 100000 in
theorem c_X0_parcelSum (hL : RLay n w ux uy px py h) {c k : Nat} (hc : c < n) (hk : k + 2 ≤ n) : K_X0_parcelSum [.ref 69, .int (nI c), .int (nI k)] h (zD (some (.long (zpa n px py c k))) h) := by
  have hn := hL.1
  refine CT.of rfl rfl (Nat.le_of_ble_eq_true rfl) rfl ?_
  have loop : ∀ (m j : Nat), j ≤ k → k - j < m → W_X0_parcelSum (zD (some (.long (zpa n px py c k))) h) 5 [some (.ref 69), some (.int (nI c)), some (.int (nI k)), some (.long (zpa n px py c j)), none, some (.int (nI (j + 1)))] [] h := by
    intro m
    induction m with
    | zero => intro i h1 h2; omega
    | succ m ih =>
      intro j hj hm
      refine WG.iload (pc' := 7) dX0_parcelSum_5 rfl rfl ?_
      refine WG.iload_n (pc' := 8) dX0_parcelSum_7 rfl rfl ?_
      refine WG.icmp_gt (tgt := 43) (pc' := 11) dX0_parcelSum_8 rfl (by decide) (fun c_8 => ?_) (fun c_8 => ?_)
      · obtain rfl : j = k := by have := (nI_ltI (by omega) (by omega)).mp c_8; omega
        refine WG.lload_n (pc' := 44) dX0_parcelSum_43 rfl rfl ?_
        refine WG.lreturn dX0_parcelSum_44 rfl ?_
        exact ⟨rfl, rfl⟩
      · have hlt : j < k := by have := mt (nI_ltI (a := k) (b := j + 1) (by omega) (by omega)).mpr c_8; omega
        refine WG.lload_n (pc' := 12) dX0_parcelSum_11 rfl rfl ?_
        refine WG.aload_n (pc' := 13) dX0_parcelSum_12 rfl rfl ?_
        refine WG.iload_n (pc' := 14) dX0_parcelSum_13 rfl rfl ?_
        refine WG.aload_n (pc' := 15) dX0_parcelSum_14 rfl rfl ?_
        refine WG.iload_n (pc' := 16) dX0_parcelSum_15 rfl rfl ?_
        refine WG.iload (pc' := 18) dX0_parcelSum_16 rfl rfl ?_
        refine WG.iadd (pc' := 19) dX0_parcelSum_18 rfl ?_
        rw [nI_add]
        refine WG.callVd (c_X0_round hL (by omega)) m_X0_60 b_X0_round rfl rfl rfl (zrk_of rfl) rfl (Nat.le_of_ble_eq_true rfl) dX0_parcelSum_19 (pc' := 22) rfl ?_
        refine WG.aload_n (pc' := 23) dX0_parcelSum_22 rfl rfl ?_
        refine WG.iload_n (pc' := 24) dX0_parcelSum_23 rfl rfl ?_
        refine WG.iload (pc' := 26) dX0_parcelSum_24 rfl rfl ?_
        refine WG.iadd (pc' := 27) dX0_parcelSum_26 rfl ?_
        refine WG.iconst (v := 1) (pc' := 28) dX0_parcelSum_27 rfl rfl ?_
        refine WG.iadd (pc' := 29) dX0_parcelSum_28 rfl ?_
        rw [nI_add, nI_1]
        refine WG.callVd (c_X0_round hL (by omega)) m_X0_60 b_X0_round rfl rfl rfl (zrk_of rfl) rfl (Nat.le_of_ble_eq_true rfl) dX0_parcelSum_29 (pc' := 32) rfl ?_
        refine WG.callVd (c_X0_leftness hL hc (zro_lt2 (by omega)) (zro_lt2 (by omega))) m_X0_67 b_X0_leftness rfl rfl rfl (zrk_of rfl) rfl (Nat.le_of_ble_eq_true rfl) dX0_parcelSum_32 (pc' := 35) rfl ?_
        refine WG.ladd (pc' := 36) dX0_parcelSum_35 rfl ?_
        refine WG.lstore_n (L' := [_, _, _, _, _, _]) (pc' := 37) dX0_parcelSum_36 rfl (by decide) rfl ?_
        refine WG.iinc1 (L' := [_, _, _, _, _, _]) (pc' := 40) dX0_parcelSum_37 rfl rfl (by decide) rfl ?_
        refine WG.goto (tgt := 5) dX0_parcelSum_40 (by decide) ?_
        have q := ih (j + 1) hlt (by omega)
        rw [nI_succ (j + 1)] at q
        exact q
  refine WG.lconst (v := 0) (pc' := 1) dX0_parcelSum_0 rfl rfl ?_
  refine WG.lstore_n (L' := [_, _, _, _, _, _]) (pc' := 2) dX0_parcelSum_1 rfl (by decide) rfl ?_
  refine WG.iconst (v := 1) (pc' := 3) dX0_parcelSum_2 rfl rfl ?_
  refine WG.istore (L' := [_, _, _, _, _, _]) (pc' := 5) dX0_parcelSum_3 rfl (by decide) rfl ?_
  exact loop (k + 1) 0 (by omega) (by omega)
def zrc (v s : Int64) : Prop := v = 0 ∨ (0 < v ∧ v ≤ s) ∨ (v < 0 ∧ s ≤ v)
/-- the first triangle by which v is reached; -9 -/
noncomputable def ztr (n : Nat) (px py : Nat → Int64) (c : Nat) (v : Int64) (j : Nat) : Nat → Int32
  | 0 => -9
  | m + 1 => @ite Int32 (zrc v (zpa n px py c (j + 1))) (Classical.propDecidable _) (nI (j + 1)) (ztr n px py c v (j + 1) m)
set_option maxHeartbeats 4000000 in
set_option maxRecDepth 100000 in
theorem c_X0_triangle (hL : RLay n w ux uy px py h) {c : Nat} (hc : c < n) (v : Int64) : K_X0_triangleReaching [.ref 69, .int (nI c), .long v] h (zD (some (.int (ztr n px py c v 0 (n - 2)))) h) := by
  have hn := hL.1
  have h4 := hL.2.1
  refine CT.of rfl rfl (Nat.le_of_ble_eq_true rfl) rfl ?_
  have h42 : nI n - 2 < nI 1 ∨ ∃ d, n = d + 2 ∧ nI n - 2 = nI d := by
    by_cases q : 2 ≤ n
    · right; exact ⟨n - 2, by omega, pk_sub (b := 2) q⟩
    · left
      rcases (show n = 0 ∨ n = 1 by omega) with rfl | rfl <;> decide
  have loop : ∀ (m j : Nat) (v5 v6 v7 : Option Value), (0 < j → j + 2 ≤ n) → n - 2 - j = m → W_X0_triangleReaching (zD (some (.int (ztr n px py c v j m))) h) 3 [some (.ref 69), some (.int (nI c)), some (.long v), none, some (.int (nI (j + 1))), v5, v6, v7] [] h := by
    intro m
    induction m with
    | zero =>
      intro j v5 v6 v7 hj hm
      have hgt : h.1 69 4 - 2 < nI (j + 1) := by
        rw [h4]
        rcases h42 with q | ⟨d, e1, e2⟩
        · have := nI_leI (a := 1) (b := j + 1) (by omega) (by by_cases z : 0 < j; (have := hj z; omega); omega)
          grind
        · rw [e2, nI_ltI (by omega) (by by_cases z : 0 < j; (have := hj z; omega); omega)]
          omega
      refine WG.iload (pc' := 5) dX0_triangleReaching_3 rfl rfl ?_
      refine WG.aload_n (pc' := 6) dX0_triangleReaching_5 rfl rfl ?_
      refine WG.getI f_X0_24 (pc' := 9) dX0_triangleReaching_6 rfl rfl rfl ?_
      refine WG.iconst (v := 2) (pc' := 10) dX0_triangleReaching_9 rfl rfl ?_
      refine WG.isub (pc' := 11) dX0_triangleReaching_10 rfl ?_
      refine WG.icmp_gt (tgt := 76) (pc' := 14) dX0_triangleReaching_11 rfl (by decide) (fun c_11 => ?_) (fun c_11 => ?_)
      · refine WG.bipush (v := -9) (pc' := 78) dX0_triangleReaching_76 rfl rfl ?_
        refine WG.ireturn dX0_triangleReaching_78 rfl (by first | rfl | decide) ?_
        exact ⟨rfl, rfl⟩
      · exact absurd hgt c_11
    | succ m ih =>
      intro j v5 v6 v7 hj hm
      have hle : ¬ h.1 69 4 - 2 < nI (j + 1) := by
        rw [h4]
        rcases h42 with q | ⟨d, e1, e2⟩
        · exfalso
          rcases (show 2 ≤ n by omega) with z
          rw [show nI n - 2 = nI (n - 2) from pk_sub (b := 2) z, nI_ltI (by omega) (by omega)] at q
          omega
        · rw [e2, nI_ltI (by omega) (by omega)]
          omega
      have J : ∀ (u : Int32) (v6 : Option Value), (u ≠ 0 ↔ (0 < v ∧ v ≤ zpa n px py c (j + 1)) ∨ (v < 0 ∧ zpa n px py c (j + 1) ≤ v)) → W_X0_triangleReaching (zD (some (.int (ztr n px py c v j (m + 1)))) h) 56 [some (.ref 69), some (.int (nI c)), some (.long v), none, some (.int (nI (j + 1))), some (.long (zpa n px py c (j + 1))), v6, some (.int u)] [] h := by
        intro u v6 hu
        have e0 : ∀ z : zrc v (zpa n px py c (j + 1)), ztr n px py c v j (m + 1) = nI (j + 1) := fun z => if_pos z
        have e1 : ∀ z : ¬ zrc v (zpa n px py c (j + 1)), ztr n px py c v j (m + 1) = ztr n px py c v (j + 1) m := fun z => if_neg z
        refine WG.lload_n (pc' := 57) dX0_triangleReaching_56 rfl rfl ?_
        refine WG.lconst (v := 0) (pc' := 58) dX0_triangleReaching_57 rfl rfl ?_
        refine WG.lif_eq (tgt := 67) (pc1 := 59) (pc' := 62) dX0_triangleReaching_58 rfl dX0_triangleReaching_59 rfl (by decide) (fun c_59 => ?_) (fun c_59 => ?_)
        · refine WG.iload (pc' := 69) dX0_triangleReaching_67 rfl rfl ?_
          refine WG.ireturn dX0_triangleReaching_69 rfl (by first | rfl | decide) ?_
          exact ⟨by rw [e0 (by clear ih hL e0 e1; unfold zrc; grind)], rfl⟩
        · refine WG.iload (pc' := 64) dX0_triangleReaching_62 rfl rfl ?_
          refine WG.if_eq (tgt := 70) (pc' := 67) dX0_triangleReaching_64 rfl (by decide) (fun c_64 => ?_) (fun c_64 => ?_)
          · refine WG.iinc1 (L' := [_, _, _, _, _, _, _, _]) (pc' := 73) dX0_triangleReaching_70 rfl rfl (by decide) rfl ?_
            refine WG.goto (tgt := 3) dX0_triangleReaching_73 (by decide) ?_
            rw [e1 (by clear ih hL e0 e1; unfold zrc; grind)]
            have q := fun v5 v6 v7 => ih (j + 1) v5 v6 v7 (fun _ => by omega) (by omega)
            rw [nI_succ (j + 1)] at q
            exact q _ _ _
          · refine WG.iload (pc' := 69) dX0_triangleReaching_67 rfl rfl ?_
            refine WG.ireturn dX0_triangleReaching_69 rfl (by first | rfl | decide) ?_
            exact ⟨by rw [e0 (by clear ih hL e0 e1; unfold zrc; grind)], rfl⟩
      refine WG.iload (pc' := 5) dX0_triangleReaching_3 rfl rfl ?_
      refine WG.aload_n (pc' := 6) dX0_triangleReaching_5 rfl rfl ?_
      refine WG.getI f_X0_24 (pc' := 9) dX0_triangleReaching_6 rfl rfl rfl ?_
      refine WG.iconst (v := 2) (pc' := 10) dX0_triangleReaching_9 rfl rfl ?_
      refine WG.isub (pc' := 11) dX0_triangleReaching_10 rfl ?_
      refine WG.icmp_gt (tgt := 76) (pc' := 14) dX0_triangleReaching_11 rfl (by decide) (fun c_11 => ?_) (fun c_11 => ?_)
      · exact absurd c_11 hle
      · refine WG.aload_n (pc' := 15) dX0_triangleReaching_14 rfl rfl ?_
        refine WG.iload_n (pc' := 16) dX0_triangleReaching_15 rfl rfl ?_
        refine WG.iload (pc' := 18) dX0_triangleReaching_16 rfl rfl ?_
        refine WG.callVd (c_X0_parcelSum hL hc (by omega)) m_X0_113 b_X0_parcelSum rfl rfl rfl (zrk_of rfl) rfl (Nat.le_of_ble_eq_true rfl) dX0_triangleReaching_18 (pc' := 21) rfl ?_
        refine WG.lstore (L' := [_, _, _, _, _, _, _, _]) (pc' := 23) dX0_triangleReaching_21 rfl (by decide) rfl ?_
        refine WG.lload_n (pc' := 24) dX0_triangleReaching_23 rfl rfl ?_
        refine WG.lconst (v := 0) (pc' := 25) dX0_triangleReaching_24 rfl rfl ?_
        refine WG.lif_le (tgt := 36) (pc1 := 26) (pc' := 29) dX0_triangleReaching_25 rfl dX0_triangleReaching_26 rfl (by decide) (fun c_26 => ?_) (fun c_26 => ?_)
        · refine WG.lload_n (pc' := 37) dX0_triangleReaching_36 rfl rfl ?_
          refine WG.lconst (v := 0) (pc' := 38) dX0_triangleReaching_37 rfl rfl ?_
          refine WG.lif_ge (tgt := 53) (pc1 := 39) (pc' := 42) dX0_triangleReaching_38 rfl dX0_triangleReaching_39 rfl (by decide) (fun c_39 => ?_) (fun c_39 => ?_)
          · refine WG.iconst (v := 0) (pc' := 54) dX0_triangleReaching_53 rfl rfl ?_
            refine WG.istore (L' := [_, _, _, _, _, _, _, _]) (pc' := 56) dX0_triangleReaching_54 rfl (by decide) rfl ?_
            exact J _ _ (by clear ih hL J; grind)
          · refine WG.lload (pc' := 44) dX0_triangleReaching_42 rfl rfl ?_
            refine WG.lload_n (pc' := 45) dX0_triangleReaching_44 rfl rfl ?_
            refine WG.lif_gt (tgt := 53) (pc1 := 46) (pc' := 49) dX0_triangleReaching_45 rfl dX0_triangleReaching_46 rfl (by decide) (fun c_46 => ?_) (fun c_46 => ?_)
            · refine WG.iconst (v := 0) (pc' := 54) dX0_triangleReaching_53 rfl rfl ?_
              refine WG.istore (L' := [_, _, _, _, _, _, _, _]) (pc' := 56) dX0_triangleReaching_54 rfl (by decide) rfl ?_
              exact J _ _ (by clear ih hL J; grind)
            · refine WG.iconst (v := 1) (pc' := 50) dX0_triangleReaching_49 rfl rfl ?_
              refine WG.goto (tgt := 54) dX0_triangleReaching_50 (by decide) ?_
              refine WG.istore (L' := [_, _, _, _, _, _, _, _]) (pc' := 56) dX0_triangleReaching_54 rfl (by decide) rfl ?_
              exact J _ _ (by clear ih hL J; grind)
        · refine WG.lload (pc' := 31) dX0_triangleReaching_29 rfl rfl ?_
          refine WG.lload_n (pc' := 32) dX0_triangleReaching_31 rfl rfl ?_
          refine WG.lif_ge (tgt := 49) (pc1 := 33) (pc' := 36) dX0_triangleReaching_32 rfl dX0_triangleReaching_33 rfl (by decide) (fun c_33 => ?_) (fun c_33 => ?_)
          · refine WG.iconst (v := 1) (pc' := 50) dX0_triangleReaching_49 rfl rfl ?_
            refine WG.goto (tgt := 54) dX0_triangleReaching_50 (by decide) ?_
            refine WG.istore (L' := [_, _, _, _, _, _, _, _]) (pc' := 56) dX0_triangleReaching_54 rfl (by decide) rfl ?_
            exact J _ _ (by clear ih hL J; grind)
          · refine WG.lload_n (pc' := 37) dX0_triangleReaching_36 rfl rfl ?_
            refine WG.lconst (v := 0) (pc' := 38) dX0_triangleReaching_37 rfl rfl ?_
            refine WG.lif_ge (tgt := 53) (pc1 := 39) (pc' := 42) dX0_triangleReaching_38 rfl dX0_triangleReaching_39 rfl (by decide) (fun c_39 => ?_) (fun c_39 => ?_)
            · refine WG.iconst (v := 0) (pc' := 54) dX0_triangleReaching_53 rfl rfl ?_
              refine WG.istore (L' := [_, _, _, _, _, _, _, _]) (pc' := 56) dX0_triangleReaching_54 rfl (by decide) rfl ?_
              exact J _ _ (by clear ih hL J; grind)
            · refine WG.lload (pc' := 44) dX0_triangleReaching_42 rfl rfl ?_
              refine WG.lload_n (pc' := 45) dX0_triangleReaching_44 rfl rfl ?_
              refine WG.lif_gt (tgt := 53) (pc1 := 46) (pc' := 49) dX0_triangleReaching_45 rfl dX0_triangleReaching_46 rfl (by decide) (fun c_46 => ?_) (fun c_46 => ?_)
              · refine WG.iconst (v := 0) (pc' := 54) dX0_triangleReaching_53 rfl rfl ?_
                refine WG.istore (L' := [_, _, _, _, _, _, _, _]) (pc' := 56) dX0_triangleReaching_54 rfl (by decide) rfl ?_
                exact J _ _ (by clear ih hL J; grind)
              · refine WG.iconst (v := 1) (pc' := 50) dX0_triangleReaching_49 rfl rfl ?_
                refine WG.goto (tgt := 54) dX0_triangleReaching_50 (by decide) ?_
                refine WG.istore (L' := [_, _, _, _, _, _, _, _]) (pc' := 56) dX0_triangleReaching_54 rfl (by decide) rfl ?_
                exact J _ _ (by clear ih hL J; grind)
  refine WG.iconst (v := 1) (pc' := 1) dX0_triangleReaching_0 rfl rfl ?_
  refine WG.istore (L' := [_, _, _, _, _, _, _, _]) (pc' := 3) dX0_triangleReaching_1 rfl (by decide) rfl ?_
  exact loop (n - 2) 0 _ _ _ (by omega) rfl
/-- the turn at a corner: by the spread steps to it and from it -/
def ztn (ax ay bx by_ : Int64) : Int32 := if (ax = 0 ∧ ay = 0) ∨ (bx = 0 ∧ by_ = 0) then 4 else if 0 < ax * by_ - ay * bx then 1 else if ¬ ax * by_ - ay * bx = 0 then 2 else if 0 < ax * bx + ay * by_ then 0 else 3
set_option maxHeartbeats 4000000 in
set_option maxRecDepth 100000 in
theorem c_X0_turnAt (hL : RLay n w ux uy px py h) {c t : Nat} (hc : c < n) (ht : t = if c = 0 then n - 1 else c - 1) : K_X0_turnAt [.ref 69, .int (nI c)] h (zD (some (.int (ztn (ux t) (uy t) (ux c) (uy c)))) h) := by
  obtain ⟨hn, h4, h5, d0, d1, d2, d3⟩ := hL
  have htn : t < n := by rw [ht]; split <;> omega
  have t0 := d0 t htn
  have t1 := d1 t htn
  have s0 := d0 c hc
  have s1 := d1 c hc
  refine CT.of rfl rfl (Nat.le_of_ble_eq_true rfl) rfl ?_
  generalize ux t = ax at t0 ⊢
  generalize uy t = ay at t1 ⊢
  generalize ux c = bx at s0 ⊢
  generalize uy c = by_ at s1 ⊢
  have hz : nI c = 0 ↔ c = 0 := nI_eq (a := c) (b := 0) (by omega) (by omega)
  have J2 : ∀ (u : Int32) (v4 v5 v6 v7 : Option Value), (u ≠ 0 ↔ (ax = 0 ∧ ay = 0) ∨ (bx = 0 ∧ by_ = 0)) → W_X0_turnAt (zD (some (.int (ztn ax ay bx by_))) h) 67 [some (.ref 69), some (.int (nI c)), some (.int (nI t)), some (.int u), v4, v5, v6, v7] [] h := by
    intro u v4 v5 v6 v7 hu
    refine WG.iload_n (pc' := 68) dX0_turnAt_67 rfl rfl ?_
    refine WG.if_eq (tgt := 73) (pc' := 71) dX0_turnAt_68 rfl (by decide) (fun c_68 => ?_) (fun c_68 => ?_)
    · refine WG.aload_n (pc' := 74) dX0_turnAt_73 rfl rfl ?_
      refine WG.getR (r := 70) f_X0_9 (pc' := 77) dX0_turnAt_74 rfl rfl rfl rfl ?_
      refine WG.iload_n (pc' := 78) dX0_turnAt_77 rfl rfl ?_
      refine WG.laloadN  (pc' := 79) dX0_turnAt_78 rfl rfl (by first | rfl | assumption) (by first | assumption | omega) (by first | decide | omega) ?_
      rw [t0]
      refine WG.aload_n (pc' := 80) dX0_turnAt_79 rfl rfl ?_
      refine WG.getR (r := 71) f_X0_15 (pc' := 83) dX0_turnAt_80 rfl rfl rfl rfl ?_
      refine WG.iload_n (pc' := 84) dX0_turnAt_83 rfl rfl ?_
      refine WG.laloadN  (pc' := 85) dX0_turnAt_84 rfl rfl (by first | rfl | assumption) (by first | assumption | omega) (by first | decide | omega) ?_
      rw [s1]
      refine WG.lmul (pc' := 86) dX0_turnAt_85 rfl ?_
      refine WG.aload_n (pc' := 87) dX0_turnAt_86 rfl rfl ?_
      refine WG.getR (r := 71) f_X0_15 (pc' := 90) dX0_turnAt_87 rfl rfl rfl rfl ?_
      refine WG.iload_n (pc' := 91) dX0_turnAt_90 rfl rfl ?_
      refine WG.laloadN  (pc' := 92) dX0_turnAt_91 rfl rfl (by first | rfl | assumption) (by first | assumption | omega) (by first | decide | omega) ?_
      rw [t1]
      refine WG.aload_n (pc' := 93) dX0_turnAt_92 rfl rfl ?_
      refine WG.getR (r := 70) f_X0_9 (pc' := 96) dX0_turnAt_93 rfl rfl rfl rfl ?_
      refine WG.iload_n (pc' := 97) dX0_turnAt_96 rfl rfl ?_
      refine WG.laloadN  (pc' := 98) dX0_turnAt_97 rfl rfl (by first | rfl | assumption) (by first | assumption | omega) (by first | decide | omega) ?_
      rw [s0]
      refine WG.lmul (pc' := 99) dX0_turnAt_98 rfl ?_
      refine WG.lsub (pc' := 100) dX0_turnAt_99 rfl ?_
      refine WG.lstore (L' := [_, _, _, _, _, _, _, _]) (pc' := 102) dX0_turnAt_100 rfl (by decide) rfl ?_
      refine WG.lload (pc' := 104) dX0_turnAt_102 rfl rfl ?_
      refine WG.lconst (v := 0) (pc' := 105) dX0_turnAt_104 rfl rfl ?_
      refine WG.lif_eq (tgt := 122) (pc1 := 106) (pc' := 109) dX0_turnAt_105 rfl dX0_turnAt_106 rfl (by decide) (fun c_106 => ?_) (fun c_106 => ?_)
      · refine WG.aload_n (pc' := 123) dX0_turnAt_122 rfl rfl ?_
        refine WG.getR (r := 70) f_X0_9 (pc' := 126) dX0_turnAt_123 rfl rfl rfl rfl ?_
        refine WG.iload_n (pc' := 127) dX0_turnAt_126 rfl rfl ?_
        refine WG.laloadN  (pc' := 128) dX0_turnAt_127 rfl rfl (by first | rfl | assumption) (by first | assumption | omega) (by first | decide | omega) ?_
        rw [t0]
        refine WG.aload_n (pc' := 129) dX0_turnAt_128 rfl rfl ?_
        refine WG.getR (r := 70) f_X0_9 (pc' := 132) dX0_turnAt_129 rfl rfl rfl rfl ?_
        refine WG.iload_n (pc' := 133) dX0_turnAt_132 rfl rfl ?_
        refine WG.laloadN  (pc' := 134) dX0_turnAt_133 rfl rfl (by first | rfl | assumption) (by first | assumption | omega) (by first | decide | omega) ?_
        rw [s0]
        refine WG.lmul (pc' := 135) dX0_turnAt_134 rfl ?_
        refine WG.aload_n (pc' := 136) dX0_turnAt_135 rfl rfl ?_
        refine WG.getR (r := 71) f_X0_15 (pc' := 139) dX0_turnAt_136 rfl rfl rfl rfl ?_
        refine WG.iload_n (pc' := 140) dX0_turnAt_139 rfl rfl ?_
        refine WG.laloadN  (pc' := 141) dX0_turnAt_140 rfl rfl (by first | rfl | assumption) (by first | assumption | omega) (by first | decide | omega) ?_
        rw [t1]
        refine WG.aload_n (pc' := 142) dX0_turnAt_141 rfl rfl ?_
        refine WG.getR (r := 71) f_X0_15 (pc' := 145) dX0_turnAt_142 rfl rfl rfl rfl ?_
        refine WG.iload_n (pc' := 146) dX0_turnAt_145 rfl rfl ?_
        refine WG.laloadN  (pc' := 147) dX0_turnAt_146 rfl rfl (by first | rfl | assumption) (by first | assumption | omega) (by first | decide | omega) ?_
        rw [s1]
        refine WG.lmul (pc' := 148) dX0_turnAt_147 rfl ?_
        refine WG.ladd (pc' := 149) dX0_turnAt_148 rfl ?_
        refine WG.lstore (L' := [_, _, _, _, _, _, _, _]) (pc' := 151) dX0_turnAt_149 rfl (by decide) rfl ?_
        refine WG.lload (pc' := 153) dX0_turnAt_151 rfl rfl ?_
        refine WG.lconst (v := 0) (pc' := 154) dX0_turnAt_153 rfl rfl ?_
        refine WG.lif_le (tgt := 162) (pc1 := 155) (pc' := 158) dX0_turnAt_154 rfl dX0_turnAt_155 rfl (by decide) (fun c_155 => ?_) (fun c_155 => ?_)
        · refine WG.iconst (v := 3) (pc' := 163) dX0_turnAt_162 rfl rfl ?_
          refine WG.ireturn dX0_turnAt_163 rfl (by first | rfl | decide) ?_
          exact ⟨by clear d0 d1 d2 d3; unfold ztn; grind, rfl⟩
        · refine WG.iconst (v := 0) (pc' := 159) dX0_turnAt_158 rfl rfl ?_
          refine WG.goto (tgt := 163) dX0_turnAt_159 (by decide) ?_
          refine WG.ireturn dX0_turnAt_163 rfl (by first | rfl | decide) ?_
          exact ⟨by clear d0 d1 d2 d3; unfold ztn; grind, rfl⟩
      · refine WG.lload (pc' := 111) dX0_turnAt_109 rfl rfl ?_
        refine WG.lconst (v := 0) (pc' := 112) dX0_turnAt_111 rfl rfl ?_
        refine WG.lif_le (tgt := 120) (pc1 := 113) (pc' := 116) dX0_turnAt_112 rfl dX0_turnAt_113 rfl (by decide) (fun c_113 => ?_) (fun c_113 => ?_)
        · refine WG.iconst (v := 2) (pc' := 121) dX0_turnAt_120 rfl rfl ?_
          refine WG.ireturn dX0_turnAt_121 rfl (by first | rfl | decide) ?_
          exact ⟨by clear d0 d1 d2 d3; unfold ztn; grind, rfl⟩
        · refine WG.iconst (v := 1) (pc' := 117) dX0_turnAt_116 rfl rfl ?_
          refine WG.goto (tgt := 121) dX0_turnAt_117 (by decide) ?_
          refine WG.ireturn dX0_turnAt_121 rfl (by first | rfl | decide) ?_
          exact ⟨by clear d0 d1 d2 d3; unfold ztn; grind, rfl⟩
    · refine WG.iconst (v := 4) (pc' := 72) dX0_turnAt_71 rfl rfl ?_
      refine WG.ireturn dX0_turnAt_72 rfl (by first | rfl | decide) ?_
      exact ⟨by clear d0 d1 d2 d3; unfold ztn; grind, rfl⟩
  have J : ∀ (v3 v4 v5 v6 v7 : Option Value), W_X0_turnAt (zD (some (.int (ztn ax ay bx by_))) h) 17 [some (.ref 69), some (.int (nI c)), some (.int (nI t)), v3, v4, v5, v6, v7] [] h := by
    intro v3 v4 v5 v6 v7
    refine WG.aload_n (pc' := 18) dX0_turnAt_17 rfl rfl ?_
    refine WG.getR (r := 70) f_X0_9 (pc' := 21) dX0_turnAt_18 rfl rfl rfl rfl ?_
    refine WG.iload_n (pc' := 22) dX0_turnAt_21 rfl rfl ?_
    refine WG.laloadN  (pc' := 23) dX0_turnAt_22 rfl rfl (by first | rfl | assumption) (by first | assumption | omega) (by first | decide | omega) ?_
    rw [t0]
    refine WG.lconst (v := 0) (pc' := 24) dX0_turnAt_23 rfl rfl ?_
    refine WG.lif_ne (tgt := 39) (pc1 := 25) (pc' := 28) dX0_turnAt_24 rfl dX0_turnAt_25 rfl (by decide) (fun c_25 => ?_) (fun c_25 => ?_)
    · refine WG.aload_n (pc' := 40) dX0_turnAt_39 rfl rfl ?_
      refine WG.getR (r := 70) f_X0_9 (pc' := 43) dX0_turnAt_40 rfl rfl rfl rfl ?_
      refine WG.iload_n (pc' := 44) dX0_turnAt_43 rfl rfl ?_
      refine WG.laloadN  (pc' := 45) dX0_turnAt_44 rfl rfl (by first | rfl | assumption) (by first | assumption | omega) (by first | decide | omega) ?_
      rw [s0]
      refine WG.lconst (v := 0) (pc' := 46) dX0_turnAt_45 rfl rfl ?_
      refine WG.lif_ne (tgt := 65) (pc1 := 47) (pc' := 50) dX0_turnAt_46 rfl dX0_turnAt_47 rfl (by decide) (fun c_47 => ?_) (fun c_47 => ?_)
      · refine WG.iconst (v := 0) (pc' := 66) dX0_turnAt_65 rfl rfl ?_
        refine WG.istore_n (L' := [_, _, _, _, _, _, _, _]) (pc' := 67) dX0_turnAt_66 rfl (by decide) rfl ?_
        exact J2 _ _ _ _ _ (by clear d0 d1 d2 d3 J2; grind)
      · refine WG.aload_n (pc' := 51) dX0_turnAt_50 rfl rfl ?_
        refine WG.getR (r := 71) f_X0_15 (pc' := 54) dX0_turnAt_51 rfl rfl rfl rfl ?_
        refine WG.iload_n (pc' := 55) dX0_turnAt_54 rfl rfl ?_
        refine WG.laloadN  (pc' := 56) dX0_turnAt_55 rfl rfl (by first | rfl | assumption) (by first | assumption | omega) (by first | decide | omega) ?_
        rw [s1]
        refine WG.lconst (v := 0) (pc' := 57) dX0_turnAt_56 rfl rfl ?_
        refine WG.lif_ne (tgt := 65) (pc1 := 58) (pc' := 61) dX0_turnAt_57 rfl dX0_turnAt_58 rfl (by decide) (fun c_58 => ?_) (fun c_58 => ?_)
        · refine WG.iconst (v := 0) (pc' := 66) dX0_turnAt_65 rfl rfl ?_
          refine WG.istore_n (L' := [_, _, _, _, _, _, _, _]) (pc' := 67) dX0_turnAt_66 rfl (by decide) rfl ?_
          exact J2 _ _ _ _ _ (by clear d0 d1 d2 d3 J2; grind)
        · refine WG.iconst (v := 1) (pc' := 62) dX0_turnAt_61 rfl rfl ?_
          refine WG.goto (tgt := 66) dX0_turnAt_62 (by decide) ?_
          refine WG.istore_n (L' := [_, _, _, _, _, _, _, _]) (pc' := 67) dX0_turnAt_66 rfl (by decide) rfl ?_
          exact J2 _ _ _ _ _ (by clear d0 d1 d2 d3 J2; grind)
    · refine WG.aload_n (pc' := 29) dX0_turnAt_28 rfl rfl ?_
      refine WG.getR (r := 71) f_X0_15 (pc' := 32) dX0_turnAt_29 rfl rfl rfl rfl ?_
      refine WG.iload_n (pc' := 33) dX0_turnAt_32 rfl rfl ?_
      refine WG.laloadN  (pc' := 34) dX0_turnAt_33 rfl rfl (by first | rfl | assumption) (by first | assumption | omega) (by first | decide | omega) ?_
      rw [t1]
      refine WG.lconst (v := 0) (pc' := 35) dX0_turnAt_34 rfl rfl ?_
      refine WG.lif_eq (tgt := 61) (pc1 := 36) (pc' := 39) dX0_turnAt_35 rfl dX0_turnAt_36 rfl (by decide) (fun c_36 => ?_) (fun c_36 => ?_)
      · refine WG.iconst (v := 1) (pc' := 62) dX0_turnAt_61 rfl rfl ?_
        refine WG.goto (tgt := 66) dX0_turnAt_62 (by decide) ?_
        refine WG.istore_n (L' := [_, _, _, _, _, _, _, _]) (pc' := 67) dX0_turnAt_66 rfl (by decide) rfl ?_
        exact J2 _ _ _ _ _ (by clear d0 d1 d2 d3 J2; grind)
      · refine WG.aload_n (pc' := 40) dX0_turnAt_39 rfl rfl ?_
        refine WG.getR (r := 70) f_X0_9 (pc' := 43) dX0_turnAt_40 rfl rfl rfl rfl ?_
        refine WG.iload_n (pc' := 44) dX0_turnAt_43 rfl rfl ?_
        refine WG.laloadN  (pc' := 45) dX0_turnAt_44 rfl rfl (by first | rfl | assumption) (by first | assumption | omega) (by first | decide | omega) ?_
        rw [s0]
        refine WG.lconst (v := 0) (pc' := 46) dX0_turnAt_45 rfl rfl ?_
        refine WG.lif_ne (tgt := 65) (pc1 := 47) (pc' := 50) dX0_turnAt_46 rfl dX0_turnAt_47 rfl (by decide) (fun c_47 => ?_) (fun c_47 => ?_)
        · refine WG.iconst (v := 0) (pc' := 66) dX0_turnAt_65 rfl rfl ?_
          refine WG.istore_n (L' := [_, _, _, _, _, _, _, _]) (pc' := 67) dX0_turnAt_66 rfl (by decide) rfl ?_
          exact J2 _ _ _ _ _ (by clear d0 d1 d2 d3 J2; grind)
        · refine WG.aload_n (pc' := 51) dX0_turnAt_50 rfl rfl ?_
          refine WG.getR (r := 71) f_X0_15 (pc' := 54) dX0_turnAt_51 rfl rfl rfl rfl ?_
          refine WG.iload_n (pc' := 55) dX0_turnAt_54 rfl rfl ?_
          refine WG.laloadN  (pc' := 56) dX0_turnAt_55 rfl rfl (by first | rfl | assumption) (by first | assumption | omega) (by first | decide | omega) ?_
          rw [s1]
          refine WG.lconst (v := 0) (pc' := 57) dX0_turnAt_56 rfl rfl ?_
          refine WG.lif_ne (tgt := 65) (pc1 := 58) (pc' := 61) dX0_turnAt_57 rfl dX0_turnAt_58 rfl (by decide) (fun c_58 => ?_) (fun c_58 => ?_)
          · refine WG.iconst (v := 0) (pc' := 66) dX0_turnAt_65 rfl rfl ?_
            refine WG.istore_n (L' := [_, _, _, _, _, _, _, _]) (pc' := 67) dX0_turnAt_66 rfl (by decide) rfl ?_
            exact J2 _ _ _ _ _ (by clear d0 d1 d2 d3 J2; grind)
          · refine WG.iconst (v := 1) (pc' := 62) dX0_turnAt_61 rfl rfl ?_
            refine WG.goto (tgt := 66) dX0_turnAt_62 (by decide) ?_
            refine WG.istore_n (L' := [_, _, _, _, _, _, _, _]) (pc' := 67) dX0_turnAt_66 rfl (by decide) rfl ?_
            exact J2 _ _ _ _ _ (by clear d0 d1 d2 d3 J2; grind)
  refine WG.iload_n (pc' := 1) dX0_turnAt_0 rfl rfl ?_
  refine WG.if_ne (tgt := 13) (pc' := 4) dX0_turnAt_1 rfl (by decide) (fun c_1 => ?_) (fun c_1 => ?_)
  · have c1 := mt hz.mpr c_1
    refine WG.iload_n (pc' := 14) dX0_turnAt_13 rfl rfl ?_
    refine WG.iconst (v := 1) (pc' := 15) dX0_turnAt_14 rfl rfl ?_
    refine WG.isub (pc' := 16) dX0_turnAt_15 rfl ?_
    first
      | rw [h4, show nI n - 1 = nI t by rw [ht, if_pos c1]; exact pk_sub (b := 1) (by omega)]
      | rw [show nI c - 1 = nI t by rw [ht, if_neg c1]; exact pk_sub (b := 1) (by omega)]
    refine WG.istore_n (L' := [_, _, _, _, _, _, _, _]) (pc' := 17) dX0_turnAt_16 rfl (by decide) rfl ?_
    exact J _ _ _ _ _
  · have c1 := hz.mp c_1
    refine WG.aload_n (pc' := 5) dX0_turnAt_4 rfl rfl ?_
    refine WG.getI f_X0_24 (pc' := 8) dX0_turnAt_5 rfl rfl rfl ?_
    refine WG.iconst (v := 1) (pc' := 9) dX0_turnAt_8 rfl rfl ?_
    refine WG.isub (pc' := 10) dX0_turnAt_9 rfl ?_
    refine WG.goto (tgt := 16) dX0_turnAt_10 (by decide) ?_
    first
      | rw [h4, show nI n - 1 = nI t by rw [ht, if_pos c1]; exact pk_sub (b := 1) (by omega)]
      | rw [show nI c - 1 = nI t by rw [ht, if_neg c1]; exact pk_sub (b := 1) (by omega)]
    refine WG.istore_n (L' := [_, _, _, _, _, _, _, _]) (pc' := 17) dX0_turnAt_16 rfl (by decide) rfl ?_
    exact J _ _ _ _ _
end zLay4
