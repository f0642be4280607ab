/-! the reference: what changes its rows -/
set_option maxHeartbeats 4000000 in
set_option maxRecDepth 100000 in
theorem c_X6_no {h : zH} (i : Nat) (hi : i < 7) : K_X6_no [.ref 86, .int (-nI i)] h (zD (some (.int (-nI i))) (zI h 87 i (h.1 87 i + 1))) := by
  refine CT.of rfl rfl (Nat.le_of_ble_eq_true rfl) rfl ?_
  refine WG.aload_n (pc' := 1) dX6_no_0 rfl rfl ?_
  refine WG.getR (r := 87) f_X6_7 (pc' := 4) dX6_no_1 rfl rfl rfl rfl ?_
  refine WG.iload_n (pc' := 5) dX6_no_4 rfl rfl ?_
  refine WG.ineg (pc' := 6) dX6_no_5 rfl ?_
  refine WG.dup2 (pc' := 7) dX6_no_6 rfl rfl rfl ?_
  refine WG.ialoadN (j := i) (pc' := 8) dX6_no_7 rfl rfl (by rw [Int32.neg_neg]) hi (by first | decide | omega) ?_
  refine WG.iconst (v := 1) (pc' := 9) dX6_no_8 rfl rfl ?_
  refine WG.iadd (pc' := 10) dX6_no_9 rfl ?_
  refine WG.iastoreN (j := i) (pc' := 11) dX6_no_10 rfl rfl (by rw [Int32.neg_neg]) hi (by first | decide | omega) ?_
  refine WG.iload_n (pc' := 12) dX6_no_11 rfl rfl ?_
  refine WG.ireturn dX6_no_12 rfl (by first | rfl | decide) ?_
  exact ⟨rfl, rfl⟩
set_option maxHeartbeats 4000000 in
set_option maxRecDepth 100000 in
theorem c_X6_far {h : zH} (i : Nat) (hi : i < 7) : K_X6_far [.ref 86, .int (-nI i)] h (zD (some (.long (4000000000000000000 - (-nI i).toInt64))) (zI h 87 i (h.1 87 i + 1))) := by
  refine CT.of rfl rfl (Nat.le_of_ble_eq_true rfl) rfl ?_
  refine WG.ldc2 (pc' := 3) dX6_far_0 rfl k_X6_11 ?_
  refine WG.aload_n (pc' := 4) dX6_far_3 rfl rfl ?_
  refine WG.iload_n (pc' := 5) dX6_far_4 rfl rfl ?_
  refine WG.callVd (c_X6_no i hi) m_X6_13 b_X6_no rfl rfl rfl (zrk_of rfl) rfl (Nat.le_of_ble_eq_true rfl) dX6_far_5 (pc' := 8) rfl ?_
  refine WG.i2l (pc' := 9) dX6_far_8 rfl ?_
  refine WG.lsub (pc' := 10) dX6_far_9 rfl ?_
  refine WG.lreturn dX6_far_10 rfl ?_
  exact ⟨rfl, rfl⟩
set_option maxHeartbeats 4000000 in
set_option maxRecDepth 100000 in
theorem c_X6_keepsAside {h : zH} {n : Nat} {f : zf} (hG : RG 88 0 n f h) : K_X6_keepsAside [.ref 86] h (fun r h' => r = none ∧ RG 90 0 n f h' ∧ zFr (fun o => o = 90) h h') := by
  refine CT.of rfl rfl (Nat.le_of_ble_eq_true rfl) rfl ?_
  refine WG.aload_n (pc' := 1) dX6_keepsAside_0 rfl rfl ?_
  refine WG.getR (r := 88) f_X6_23 (pc' := 4) dX6_keepsAside_1 rfl rfl rfl rfl ?_
  refine WG.iconst (v := 0) (pc' := 5) dX6_keepsAside_4 rfl rfl ?_
  refine WG.aload_n (pc' := 6) dX6_keepsAside_5 rfl rfl ?_
  refine WG.getR (r := 90) f_X6_29 (pc' := 9) dX6_keepsAside_6 rfl rfl rfl rfl ?_
  refine WG.iconst (v := 0) (pc' := 10) dX6_keepsAside_9 rfl rfl ?_
  refine WG.callS (c_X6_copies (b1 := 0) (b2 := 0) (o1 := 88) (o2 := 90) rfl rfl (by decide) (by decide) (by decide) (by decide) (by decide)) m_X6_99 b_X6_copies rfl (zrk_of rfl) rfl (Nat.le_of_ble_eq_true rfl) dX6_keepsAside_10 (pc' := 13) rfl (fun r_ h_ q_ => ?_)
  obtain ⟨rfl, q1, q2⟩ := q_
  refine WG.vreturn dX6_keepsAside_13 rfl ?_
  exact ⟨rfl, hG.cp q1, q2⟩
/-- changes, the reference's: the latest last -/
def RPm (c : Nat) (pl : Nat → Nat × zf) (h : zH) : Prop := c ≤ 8 ∧ h.1 86 4 = nI c ∧ ∀ i, i < c → RG 89 (41 * (c - 1 - i)) (pl i).1 (pl i).2 h
theorem RPm.fo {c : Nat} {pl : Nat → Nat × zf} {P : Nat → Prop} {h h' : zH} (hR : RPm c pl h) (hf : zFr P h h') (h1 : ¬ P 86) (h2 : ¬ P 89) : RPm c pl h' := by
  obtain ⟨a, b, d⟩ := hR
  exact ⟨a, by rw [hf.1 86 h1]; exact b, fun i hi => (d i hi).fo hf h2⟩
theorem RG.sh {o b b' n : Nat} {f : zf} {h h' : zH} (hG : RG o b n f h) (e : ∀ p, p < 41 → h'.1 o (b' + p) = h.1 o (b + p)) : RG o b' n f h' := by
  obtain ⟨a, c, d⟩ := hG
  exact ⟨a, by rw [e 40 (by omega)]; exact c, fun i hi j hj => by rw [e _ (by omega)]; exact d i hi j hj⟩
set_option maxHeartbeats 4000000 in
set_option maxRecDepth 100000 in
theorem c_X6_changed {h : zH} {n c : Nat} {f : zf} {pl : Nat → Nat × zf} (hG : RG 90 0 n f h) (hP : RPm c pl h) : K_X6_changed [.ref 86] h (fun r h' => r = none ∧ RPm (if c < 8 then c + 1 else 8) (zpush pl n f) h' ∧ (∀ i, i ≠ 4 → h'.1 86 i = h.1 86 i) ∧ zFr (fun o => o = 86 ∨ o = 89) h h') := by
  obtain ⟨hc, h4, hpl⟩ := hP
  refine CT.of rfl rfl (Nat.le_of_ble_eq_true rfl) rfl ?_
  have J : ∀ (d : Nat) (h1 : zH) (v : Option Value), d < 8 → h1.1 86 4 = nI d → (∀ i, i ≠ 4 → h1.1 86 i = h.1 86 i) → (∀ i, i < d → RG 89 (41 * (d - 1 - i)) (pl i).1 (pl i).2 h1) → zFr (fun o => o = 86 ∨ o = 89) h h1 → d + 1 = (if c < 8 then c + 1 else 8) →
      W_X6_changed (fun r h' => r = none ∧ RPm (if c < 8 then c + 1 else 8) (zpush pl n f) h' ∧ (∀ i, i ≠ 4 → h'.1 86 i = h.1 86 i) ∧ zFr (fun o => o = 86 ∨ o = 89) h h') 50 [some (.ref 86), v] [] h1 := by
    intro d h1 v hd g4 g5 gp gf he
    have hG1 : RG 90 0 n f h1 := hG.fo gf (by omega)
    refine WG.aload_n (pc' := 51) dX6_changed_50 rfl rfl ?_
    refine WG.getR (r := 90) f_X6_29 (pc' := 54) dX6_changed_51 rfl rfl rfl rfl ?_
    refine WG.iconst (v := 0) (pc' := 55) dX6_changed_54 rfl rfl ?_
    refine WG.aload_n (pc' := 56) dX6_changed_55 rfl rfl ?_
    refine WG.getR (r := 89) f_X6_26 (pc' := 59) dX6_changed_56 rfl rfl rfl rfl ?_
    refine WG.aload_n (pc' := 60) dX6_changed_59 rfl rfl ?_
    refine WG.getI f_X6_103 (pc' := 63) dX6_changed_60 rfl rfl rfl ?_
    refine WG.bipush (v := 41) (pc' := 65) dX6_changed_63 rfl rfl ?_
    refine WG.imul (pc' := 66) dX6_changed_65 rfl ?_
    rw [g4, show nI d * 41 = nI (41 * d) by rw [show (41 : Int32) = nI 41 from rfl, pk_mul, Nat.mul_comm]]
    refine WG.callS (c_X6_copies (b1 := 0) (b2 := 41 * d) (o1 := 90) (o2 := 89) rfl rfl (by decide) (by decide) (by omega) (by decide) (by decide)) m_X6_99 b_X6_copies rfl (zrk_of rfl) rfl (Nat.le_of_ble_eq_true rfl) dX6_changed_66 (pc' := 69) rfl (fun r_ h_ q_ => ?_)
    obtain ⟨rfl, q1, q2⟩ := q_
    refine WG.aload_n (pc' := 70) dX6_changed_69 rfl rfl ?_
    refine WG.dup (pc' := 71) dX6_changed_70 rfl rfl ?_
    refine WG.getI f_X6_103 (pc' := 74) dX6_changed_71 rfl rfl rfl ?_
    refine WG.iconst (v := 1) (pc' := 75) dX6_changed_74 rfl rfl ?_
    refine WG.iadd (pc' := 76) dX6_changed_75 rfl ?_
    rw [show h_.1 86 4 = nI d by rw [q2.1 86 (by decide)]; exact g4, nI_1]
    refine WG.putI p_X6_103 (pc' := 79) dX6_changed_76 rfl rfl rfl rfl rfl ?_
    refine WG.vreturn dX6_changed_79 rfl ?_
    refine ⟨rfl, ⟨by rw [← he]; omega, by rw [zI_1, if_pos ⟨rfl, rfl⟩, he], fun i hi => ?_⟩, fun i hi => ?_, (gf.tr (q2.mo (fun o z => Or.inr z))).I (Or.inl rfl)⟩
    · rw [← he] at hi ⊢
      have k2 : RG 89 (41 * (d + 1 - 1 - i)) (zpush pl n f i).1 (zpush pl n f i).2 h_ := by
        match i, hi with
        | 0, hi => exact RG.cp (b2 := 41 * d) hG1 q1
        | i + 1, hi =>
          have z := gp i (by omega)
          rw [show 41 * (d + 1 - 1 - (i + 1)) = 41 * (d - 1 - i) by omega]
          exact z.sh (fun p hp => by rw [q1, if_neg (by omega)])
      exact k2.fo (P := fun o => o = 86) (zFr.rf.I rfl) (by decide)
    · rw [zI_1, if_neg (by omega), q2.1 86 (by decide)]; exact g5 i hi
  have loop : ∀ (m i : Nat) (h1 : zH), c = 8 → 41 ≤ i → i ≤ 328 → 328 - i < m → h1.1 86 = h.1 86 → (∀ p, p < 328 → h1.1 89 p = if p + 41 < i then h.1 89 (p + 41) else h.1 89 p) → zFr (fun o => o = 86 ∨ o = 89) h h1 →
      W_X6_changed (fun r h' => r = none ∧ RPm (if c < 8 then c + 1 else 8) (zpush pl n f) h' ∧ (∀ i, i ≠ 4 → h'.1 86 i = h.1 86 i) ∧ zFr (fun o => o = 86 ∨ o = 89) h h') 12 [some (.ref 86), some (.int (nI i))] [] h1 := by
    intro m
    induction m with
    | zero => intro i h1 a b; omega
    | succ m ih =>
      intro i h1 h8 hi hi2 hm g86 g gf
      refine WG.iload_n (pc' := 13) dX6_changed_12 rfl rfl ?_
      refine WG.sipush (v := 328) (pc' := 16) dX6_changed_13 rfl rfl ?_
      refine WG.icmp_ge (tgt := 40) (pc' := 19) dX6_changed_16 rfl (by decide) (fun c_16 => ?_) (fun c_16 => ?_)
      · obtain rfl : i = 328 := by have := (nI_leI (a := 328) (b := i) (by omega) (by omega)).mp c_16; omega
        refine WG.aload_n (pc' := 41) dX6_changed_40 rfl rfl ?_
        refine WG.dup (pc' := 42) dX6_changed_41 rfl rfl ?_
        refine WG.getI f_X6_103 (pc' := 45) dX6_changed_42 rfl rfl rfl ?_
        refine WG.iconst (v := 1) (pc' := 46) dX6_changed_45 rfl rfl ?_
        refine WG.isub (pc' := 47) dX6_changed_46 rfl ?_
        rw [show h1.1 86 4 - 1 = nI 7 by rw [g86, h4, h8]; rfl]
        refine WG.putI p_X6_103 (pc' := 50) dX6_changed_47 rfl rfl rfl rfl rfl ?_
        refine J 7 _ _ (by omega) (by rw [zI_1, if_pos ⟨rfl, rfl⟩]) (fun i hi => by rw [zI_1, if_neg (by omega), g86]) (fun i hi => ?_) (gf.I (Or.inl rfl)) (by rw [if_neg (by omega)])
        have z := hpl i (by omega)
        rw [h8] at z
        refine z.sh (fun p hp => ?_)
        rw [zI_1, if_neg (by omega), g _ (by omega), if_pos (by omega), show 41 * (7 - 1 - i) + p + 41 = 41 * (8 - 1 - i) + p by omega]
      · have hlt : i < 328 := by have := mt (nI_leI (a := 328) (b := i) (by omega) (by omega)).mpr c_16; omega
        refine WG.aload_n (pc' := 20) dX6_changed_19 rfl rfl ?_
        refine WG.getR (r := 89) f_X6_26 (pc' := 23) dX6_changed_20 rfl rfl rfl rfl ?_
        refine WG.iload_n (pc' := 24) dX6_changed_23 rfl rfl ?_
        refine WG.bipush (v := 41) (pc' := 26) dX6_changed_24 rfl rfl ?_
        refine WG.isub (pc' := 27) dX6_changed_26 rfl ?_
        refine WG.aload_n (pc' := 28) dX6_changed_27 rfl rfl ?_
        refine WG.getR (r := 89) f_X6_26 (pc' := 31) dX6_changed_28 rfl rfl rfl rfl ?_
        refine WG.iload_n (pc' := 32) dX6_changed_31 rfl rfl ?_
        refine WG.ialoadN  (pc' := 33) dX6_changed_32 rfl rfl (by first | rfl | assumption) (by first | assumption | omega) (by first | decide | omega) ?_
        refine WG.iastoreN (j := i - 41) (pc' := 34) dX6_changed_33 rfl rfl (pk_sub (b := 41) (by omega)) (by omega) (by first | decide | omega) ?_
        refine WG.iinc1 (L' := [_, _]) (pc' := 37) dX6_changed_34 rfl rfl (by decide) rfl ?_
        refine WG.goto (tgt := 12) dX6_changed_37 (by decide) ?_
        rw [nI_1]
        refine ih (i + 1) _ h8 (by omega) (by omega) (by omega) (by rw [(zI_o (by decide)).1]; exact g86) (fun p hp => ?_) (gf.I (Or.inr rfl))
        rw [zI_1]
        by_cases c1 : p = i - 41
        · rw [if_pos ⟨rfl, c1⟩, g i (by omega), if_neg (by omega), if_pos (by omega), show p + 41 = i by omega]
        · rw [if_neg (fun q => c1 q.2), g p hp]
          by_cases c2 : p + 41 < i
          · rw [if_pos c2, if_pos (by omega)]
          · rw [if_neg c2, if_neg (by omega)]
  refine WG.aload_n (pc' := 1) dX6_changed_0 rfl rfl ?_
  refine WG.getI f_X6_103 (pc' := 4) dX6_changed_1 rfl rfl rfl ?_
  refine WG.bipush (v := 8) (pc' := 6) dX6_changed_4 rfl rfl ?_
  rw [h4]
  refine WG.icmp_ne (tgt := 50) (pc' := 9) dX6_changed_6 rfl (by decide) (fun c_6 => ?_) (fun c_6 => ?_)
  · have c6 : c ≠ 8 := mt (nI_eq (a := c) (b := 8) (by omega) (by omega)).mpr c_6
    exact J c h _ (by omega) h4 (fun _ _ => rfl) hpl zFr.rf (by rw [if_pos (by omega)])
  · have c6 : c = 8 := (nI_eq (a := c) (b := 8) (by omega) (by omega)).mp c_6
    refine WG.bipush (v := 41) (pc' := 11) dX6_changed_9 rfl rfl ?_
    refine WG.istore_n (L' := [_, _]) (pc' := 12) dX6_changed_11 rfl (by decide) rfl ?_
    exact loop 329 41 h c6 (by omega) (by omega) (by omega) rfl (fun p hp => by rw [if_neg (by omega)]) zFr.rf
set_option maxHeartbeats 4000000 in
set_option maxRecDepth 100000 in
theorem c_X6_wrongSide {h : zH} {n : Nat} {f : zf} {e nn t : Int32} (hG : RG 88 0 n f h) : K_X6_wrongSide [.ref 86, .int e, .int nn, .int t] h (zD (some (.int (zwS n e nn t))) h) := by
  have hn := hG.1
  refine CT.of rfl rfl (Nat.le_of_ble_eq_true rfl) rfl ?_
  have e8 : nI n = 8 ↔ n = 8 := nI_eq (b := 8) (by omega) (by omega)
  refine WG.iload_n (pc' := 1) dX6_wrongSide_0 rfl rfl ?_
  refine WG.bipush (v := -9) (pc' := 3) dX6_wrongSide_1 rfl rfl ?_
  refine WG.icmp_lt (tgt := 17) (pc' := 6) dX6_wrongSide_3 rfl (by decide) (fun c_3 => ?_) (fun c_3 => ?_)
  · refine WG.bipush (v := -4) (pc' := 19) dX6_wrongSide_17 rfl rfl ?_
    refine WG.ireturn dX6_wrongSide_19 rfl (by first | rfl | decide) ?_
    exact ⟨by unfold zwS; clear hG; grind, rfl⟩
  · refine WG.iload_n (pc' := 7) dX6_wrongSide_6 rfl rfl ?_
    refine WG.bipush (v := -9) (pc' := 9) dX6_wrongSide_7 rfl rfl ?_
    refine WG.icmp_lt (tgt := 17) (pc' := 12) dX6_wrongSide_9 rfl (by decide) (fun c_9 => ?_) (fun c_9 => ?_)
    · refine WG.bipush (v := -4) (pc' := 19) dX6_wrongSide_17 rfl rfl ?_
      refine WG.ireturn dX6_wrongSide_19 rfl (by first | rfl | decide) ?_
      exact ⟨by unfold zwS; clear hG; grind, rfl⟩
    · refine WG.iload_n (pc' := 13) dX6_wrongSide_12 rfl rfl ?_
      refine WG.iconst (v := 1) (pc' := 14) dX6_wrongSide_13 rfl rfl ?_
      refine WG.icmp_ge (tgt := 20) (pc' := 17) dX6_wrongSide_14 rfl (by decide) (fun c_14 => ?_) (fun c_14 => ?_)
      · refine WG.iload_n (pc' := 21) dX6_wrongSide_20 rfl rfl ?_
        refine WG.bipush (v := 9) (pc' := 23) dX6_wrongSide_21 rfl rfl ?_
        refine WG.icmp_gt (tgt := 47) (pc' := 26) dX6_wrongSide_23 rfl (by decide) (fun c_23 => ?_) (fun c_23 => ?_)
        · refine WG.bipush (v := -6) (pc' := 49) dX6_wrongSide_47 rfl rfl ?_
          refine WG.ireturn dX6_wrongSide_49 rfl (by first | rfl | decide) ?_
          exact ⟨by unfold zwS; clear hG; grind, rfl⟩
        · refine WG.iload_n (pc' := 27) dX6_wrongSide_26 rfl rfl ?_
          refine WG.bipush (v := 9) (pc' := 29) dX6_wrongSide_27 rfl rfl ?_
          refine WG.icmp_gt (tgt := 47) (pc' := 32) dX6_wrongSide_29 rfl (by decide) (fun c_29 => ?_) (fun c_29 => ?_)
          · refine WG.bipush (v := -6) (pc' := 49) dX6_wrongSide_47 rfl rfl ?_
            refine WG.ireturn dX6_wrongSide_49 rfl (by first | rfl | decide) ?_
            exact ⟨by unfold zwS; clear hG; grind, rfl⟩
          · refine WG.iload_n (pc' := 33) dX6_wrongSide_32 rfl rfl ?_
            refine WG.bipush (v := 9) (pc' := 35) dX6_wrongSide_33 rfl rfl ?_
            refine WG.icmp_gt (tgt := 47) (pc' := 38) dX6_wrongSide_35 rfl (by decide) (fun c_35 => ?_) (fun c_35 => ?_)
            · refine WG.bipush (v := -6) (pc' := 49) dX6_wrongSide_47 rfl rfl ?_
              refine WG.ireturn dX6_wrongSide_49 rfl (by first | rfl | decide) ?_
              exact ⟨by unfold zwS; clear hG; grind, rfl⟩
            · refine WG.aload_n (pc' := 39) dX6_wrongSide_38 rfl rfl ?_
              refine WG.callVd (c_X6_many hG) m_X6_63 b_X6_many rfl rfl rfl (zrk_of rfl) rfl (Nat.le_of_ble_eq_true rfl) dX6_wrongSide_39 (pc' := 42) rfl ?_
              refine WG.bipush (v := 8) (pc' := 44) dX6_wrongSide_42 rfl rfl ?_
              refine WG.icmp_ne (tgt := 50) (pc' := 47) dX6_wrongSide_44 rfl (by decide) (fun c_44 => ?_) (fun c_44 => ?_)
              · refine WG.iload_n (pc' := 51) dX6_wrongSide_50 rfl rfl ?_
                refine WG.if_ne (tgt := 63) (pc' := 54) dX6_wrongSide_51 rfl (by decide) (fun c_51 => ?_) (fun c_51 => ?_)
                · refine WG.iconst (v := 0) (pc' := 64) dX6_wrongSide_63 rfl rfl ?_
                  refine WG.ireturn dX6_wrongSide_64 rfl (by first | rfl | decide) ?_
                  exact ⟨by unfold zwS; clear hG; grind, rfl⟩
                · refine WG.iload_n (pc' := 55) dX6_wrongSide_54 rfl rfl ?_
                  refine WG.if_ne (tgt := 63) (pc' := 58) dX6_wrongSide_55 rfl (by decide) (fun c_55 => ?_) (fun c_55 => ?_)
                  · refine WG.iconst (v := 0) (pc' := 64) dX6_wrongSide_63 rfl rfl ?_
                    refine WG.ireturn dX6_wrongSide_64 rfl (by first | rfl | decide) ?_
                    exact ⟨by unfold zwS; clear hG; grind, rfl⟩
                  · refine WG.bipush (v := -3) (pc' := 60) dX6_wrongSide_58 rfl rfl ?_
                    refine WG.goto (tgt := 64) dX6_wrongSide_60 (by decide) ?_
                    refine WG.ireturn dX6_wrongSide_64 rfl (by first | rfl | decide) ?_
                    exact ⟨by unfold zwS; clear hG; grind, rfl⟩
              · refine WG.bipush (v := -6) (pc' := 49) dX6_wrongSide_47 rfl rfl ?_
                refine WG.ireturn dX6_wrongSide_49 rfl (by first | rfl | decide) ?_
                exact ⟨by unfold zwS; clear hG; grind, rfl⟩
      · refine WG.bipush (v := -4) (pc' := 19) dX6_wrongSide_17 rfl rfl ?_
        refine WG.ireturn dX6_wrongSide_19 rfl (by first | rfl | decide) ?_
        exact ⟨by unfold zwS; clear hG; grind, rfl⟩
set_option maxHeartbeats 4000000 in
set_option maxRecDepth 100000 in
theorem c_X6_wrongKind {h : zH} {n : Nat} {f : zf} {a e t : Int32} (hG : RG 88 0 n f h) : K_X6_wrongKind [.ref 86, .int a, .int e, .int t] h (zD (some (.int (zwK n a e t))) h) := by
  refine CT.of rfl rfl (Nat.le_of_ble_eq_true rfl) rfl ?_
  have e5 : (0 ≤ e.toInt64 ∧ e.toInt64 ≤ 5) ↔ ¬ (e < 0 ∨ 5 < e) := by
    rw [Int64.le_iff_toInt_le, Int64.le_iff_toInt_le, zi64, Int32.lt_iff_toInt_lt, Int32.lt_iff_toInt_lt, show (0 : Int64).toInt = 0 by decide, show (5 : Int64).toInt = 5 by decide, show (0 : Int32).toInt = 0 by decide, show (5 : Int32).toInt = 5 by decide]
    omega
  refine WG.aload_n (pc' := 1) dX6_wrongKind_0 rfl rfl ?_
  refine WG.iload_n (pc' := 2) dX6_wrongKind_1 rfl rfl ?_
  refine WG.callVd (c_X6_isSide hG a) m_X6_106 b_X6_isSide rfl rfl rfl (zrk_of rfl) rfl (Nat.le_of_ble_eq_true rfl) dX6_wrongKind_2 (pc' := 5) rfl ?_
  refine WG.if_ne (tgt := 12) (pc' := 8) dX6_wrongKind_5 rfl (by decide) (fun c_5 => ?_) (fun c_5 => ?_)
  · rw [zb_ne] at c_5
    unfold zsd at c_5
    refine WG.iload_n (pc' := 13) dX6_wrongKind_12 rfl rfl ?_
    refine WG.i2l (pc' := 14) dX6_wrongKind_13 rfl ?_
    refine WG.lconst (v := 0) (pc' := 15) dX6_wrongKind_14 rfl rfl ?_
    refine WG.ldc2 (pc' := 18) dX6_wrongKind_15 rfl k_X6_110 ?_
    refine WG.callSd (c_X6_in _ _ _ _) m_X6_67 b_X6_in rfl (zrk_of rfl) rfl (Nat.le_of_ble_eq_true rfl) dX6_wrongKind_18 (pc' := 21) rfl ?_
    refine WG.if_ne (tgt := 29) (pc' := 24) dX6_wrongKind_21 rfl (by decide) (fun c_21 => ?_) (fun c_21 => ?_)
    · rw [zb_ne, e5] at c_21
      refine WG.iload_n (pc' := 30) dX6_wrongKind_29 rfl rfl ?_
      refine WG.if_ge (tgt := 38) (pc' := 33) dX6_wrongKind_30 rfl (by decide) (fun c_30 => ?_) (fun c_30 => ?_)
      · refine WG.iload_n (pc' := 39) dX6_wrongKind_38 rfl rfl ?_
        refine WG.bipush (v := 9) (pc' := 41) dX6_wrongKind_39 rfl rfl ?_
        refine WG.icmp_le (tgt := 49) (pc' := 44) dX6_wrongKind_41 rfl (by decide) (fun c_41 => ?_) (fun c_41 => ?_)
        · refine WG.iconst (v := 0) (pc' := 50) dX6_wrongKind_49 rfl rfl ?_
          refine WG.ireturn dX6_wrongKind_50 rfl (by first | rfl | decide) ?_
          exact ⟨by unfold zwK; clear hG e5; grind, rfl⟩
        · refine WG.bipush (v := -6) (pc' := 46) dX6_wrongKind_44 rfl rfl ?_
          refine WG.goto (tgt := 50) dX6_wrongKind_46 (by decide) ?_
          refine WG.ireturn dX6_wrongKind_50 rfl (by first | rfl | decide) ?_
          exact ⟨by unfold zwK; clear hG e5; grind, rfl⟩
      · refine WG.bipush (v := -4) (pc' := 35) dX6_wrongKind_33 rfl rfl ?_
        refine WG.goto (tgt := 50) dX6_wrongKind_35 (by decide) ?_
        refine WG.ireturn dX6_wrongKind_50 rfl (by first | rfl | decide) ?_
        exact ⟨by unfold zwK; clear hG e5; grind, rfl⟩
    · rw [zb_eq, e5] at c_21
      refine WG.bipush (v := -2) (pc' := 26) dX6_wrongKind_24 rfl rfl ?_
      refine WG.goto (tgt := 50) dX6_wrongKind_26 (by decide) ?_
      refine WG.ireturn dX6_wrongKind_50 rfl (by first | rfl | decide) ?_
      exact ⟨by unfold zwK; clear hG e5; grind, rfl⟩
  · rw [zb_eq] at c_5
    unfold zsd at c_5
    refine WG.iconst (v := -1) (pc' := 9) dX6_wrongKind_8 rfl rfl ?_
    refine WG.goto (tgt := 50) dX6_wrongKind_9 (by decide) ?_
    refine WG.ireturn dX6_wrongKind_50 rfl (by first | rfl | decide) ?_
    exact ⟨by unfold zwK; clear hG e5; grind, rfl⟩
set_option maxHeartbeats 4000000 in
set_option maxRecDepth 100000 in
theorem c_X6_becomes {h : zH} {n s : Nat} {f : zf} {kd fg : Int32} (hG : RG 88 0 n f h) (hs : s < n) : K_X6_becomes [.ref 86, .int (nI s), .int kd, .int fg] h (fun r h' => r = none ∧ RG 88 0 n (zkin f s kd fg) h' ∧ zFr (fun o => o = 88) h h') := by
  obtain ⟨hn, h4, hf⟩ := hG
  refine CT.of rfl rfl (Nat.le_of_ble_eq_true rfl) rfl ?_
  refine WG.aload_n (pc' := 1) dX6_becomes_0 rfl rfl ?_
  refine WG.getR (r := 88) f_X6_23 (pc' := 4) dX6_becomes_1 rfl rfl rfl rfl ?_
  refine WG.iconst (v := 5) (pc' := 5) dX6_becomes_4 rfl rfl ?_
  refine WG.iload_n (pc' := 6) dX6_becomes_5 rfl rfl ?_
  refine WG.imul (pc' := 7) dX6_becomes_6 rfl ?_
  refine WG.iconst (v := 0) (pc' := 8) dX6_becomes_7 rfl rfl ?_
  refine WG.iadd (pc' := 9) dX6_becomes_8 rfl ?_
  refine WG.iload_n (pc' := 10) dX6_becomes_9 rfl rfl ?_
  refine WG.iastoreN (j := 5 * s + 0) (pc' := 11) dX6_becomes_10 rfl rfl (zi5 s 0) (by omega) (by first | decide | omega) ?_
  refine WG.aload_n (pc' := 12) dX6_becomes_11 rfl rfl ?_
  refine WG.getR (r := 88) f_X6_23 (pc' := 15) dX6_becomes_12 rfl rfl rfl rfl ?_
  refine WG.iconst (v := 5) (pc' := 16) dX6_becomes_15 rfl rfl ?_
  refine WG.iload_n (pc' := 17) dX6_becomes_16 rfl rfl ?_
  refine WG.imul (pc' := 18) dX6_becomes_17 rfl ?_
  refine WG.iconst (v := 1) (pc' := 19) dX6_becomes_18 rfl rfl ?_
  refine WG.iadd (pc' := 20) dX6_becomes_19 rfl ?_
  refine WG.iload_n (pc' := 21) dX6_becomes_20 rfl rfl ?_
  refine WG.iastoreN (j := 5 * s + 1) (pc' := 22) dX6_becomes_21 rfl rfl (zi5 s 1) (by omega) (by first | decide | omega) ?_
  refine WG.vreturn dX6_becomes_22 rfl ?_
  refine ⟨rfl, ⟨hn, ?_, fun p hp j hj => ?_⟩, ((zFr.rf (P := fun o => o = 88)).I rfl).I rfl⟩
  · rw [zI_1, if_neg (by omega), zI_1, if_neg (by omega)]; exact h4
  · rw [zI_1, zI_1]
    unfold zkin
    rw [← hf p hp j hj]
    by_cases c1 : p = s ∧ j = 1
    · rw [if_pos (by omega), if_neg (by omega), if_pos (by omega)]
    · rw [if_neg (by omega)]
      by_cases c2 : p = s ∧ j = 0
      · rw [if_pos (by omega), if_pos (by omega)]
      · rw [if_neg (by omega), if_neg (by omega), if_neg (by omega)]
set_option maxHeartbeats 4000000 in
set_option maxRecDepth 100000 in
theorem c_X6_goneAt {h : zH} {n s : Nat} {f : zf} (hG : RG 88 0 (n + 1) f h) (hs : s < n + 1) : K_X6_goneAt [.ref 86, .int (nI s)] h (fun r h' => r = none ∧ RG 88 0 n (zdel f s) h' ∧ zFr (fun o => o = 88) h h') := by
  obtain ⟨hn, h4, hf⟩ := hG
  refine CT.of rfl rfl (Nat.le_of_ble_eq_true rfl) rfl ?_
  have loop : ∀ (m k : Nat) (h1 : zH), 5 * s ≤ k → k ≤ 5 * n → 5 * n - k < m → h1.1 88 40 = nI (n + 1) → (∀ p, p < 40 → h1.1 88 p = if 5 * s ≤ p ∧ p < k then h.1 88 (p + 5) else h.1 88 p) → zFr (fun o => o = 88) h h1 →
      W_X6_goneAt (fun r h' => r = none ∧ RG 88 0 n (zdel f s) h' ∧ zFr (fun o => o = 88) h h') 4 [some (.ref 86), some (.int (nI s)), some (.int (nI k))] [] h1 := by
    intro m
    induction m with
    | zero => intro i h1 a b; omega
    | succ m ih =>
      intro k h1 ha hk hm g4 g gf
      have hG1 : RG 88 0 (n + 1) (fun i j => h1.1 88 (0 + (5 * i + j))) h1 := ⟨hn, g4, fun _ _ _ _ => rfl⟩
      refine WG.iload_n (pc' := 5) dX6_goneAt_4 rfl rfl ?_
      refine WG.iconst (v := 5) (pc' := 6) dX6_goneAt_5 rfl rfl ?_
      refine WG.aload_n (pc' := 7) dX6_goneAt_6 rfl rfl ?_
      refine WG.callVd (c_X6_many hG1) m_X6_63 b_X6_many rfl rfl rfl (zrk_of rfl) rfl (Nat.le_of_ble_eq_true rfl) dX6_goneAt_7 (pc' := 10) rfl ?_
      refine WG.iconst (v := 1) (pc' := 11) dX6_goneAt_10 rfl rfl ?_
      refine WG.isub (pc' := 12) dX6_goneAt_11 rfl ?_
      refine WG.imul (pc' := 13) dX6_goneAt_12 rfl ?_
      rw [nI_pred, show (5 : Int32) * nI n = nI (5 * n) from pk_mul 5 n]
      refine WG.icmp_ge (tgt := 36) (pc' := 16) dX6_goneAt_13 rfl (by decide) (fun c_13 => ?_) (fun c_13 => ?_)
      · obtain rfl : k = 5 * n := by have := (nI_leI (by omega) (by omega)).mp c_13; omega
        refine WG.aload_n (pc' := 37) dX6_goneAt_36 rfl rfl ?_
        refine WG.getR (r := 88) f_X6_23 (pc' := 40) dX6_goneAt_37 rfl rfl rfl rfl ?_
        refine WG.bipush (v := 40) (pc' := 42) dX6_goneAt_40 rfl rfl ?_
        refine WG.dup2 (pc' := 43) dX6_goneAt_42 rfl rfl rfl ?_
        refine WG.ialoadN (j := 40) (pc' := 44) dX6_goneAt_43 rfl rfl rfl (by decide) (by first | decide | omega) ?_
        refine WG.iconst (v := 1) (pc' := 45) dX6_goneAt_44 rfl rfl ?_
        refine WG.isub (pc' := 46) dX6_goneAt_45 rfl ?_
        rw [g4, nI_pred]
        refine WG.iastoreN (j := 40) (pc' := 47) dX6_goneAt_46 rfl rfl rfl (by decide) (by first | decide | omega) ?_
        refine WG.vreturn dX6_goneAt_47 rfl ?_
        refine ⟨rfl, ⟨by omega, by rw [zI_1, if_pos ⟨rfl, rfl⟩], fun p hp j hj => ?_⟩, gf.I rfl⟩
        have z1 := hf p (by omega) j hj
        have z2 := hf (p + 1) (by omega) j hj
        rw [Nat.zero_add] at z1 z2
        rw [zI_1, if_neg (by omega), Nat.zero_add, g _ (by omega)]
        unfold zdel
        by_cases c1 : p < s
        · rw [if_pos c1, if_neg (by omega)]; exact z1
        · rw [if_neg c1, if_pos (by omega), ← z2, show 5 * p + j + 5 = 5 * (p + 1) + j by omega]
      · have hlt : k < 5 * n := by have := mt (nI_leI (a := 5 * n) (b := k) (by omega) (by omega)).mpr c_13; omega
        refine WG.aload_n (pc' := 17) dX6_goneAt_16 rfl rfl ?_
        refine WG.getR (r := 88) f_X6_23 (pc' := 20) dX6_goneAt_17 rfl rfl rfl rfl ?_
        refine WG.iload_n (pc' := 21) dX6_goneAt_20 rfl rfl ?_
        refine WG.aload_n (pc' := 22) dX6_goneAt_21 rfl rfl ?_
        refine WG.getR (r := 88) f_X6_23 (pc' := 25) dX6_goneAt_22 rfl rfl rfl rfl ?_
        refine WG.iload_n (pc' := 26) dX6_goneAt_25 rfl rfl ?_
        refine WG.iconst (v := 5) (pc' := 27) dX6_goneAt_26 rfl rfl ?_
        refine WG.iadd (pc' := 28) dX6_goneAt_27 rfl ?_
        refine WG.ialoadN (j := k + 5) (pc' := 29) dX6_goneAt_28 rfl rfl (nI_add k 5) (by omega) (by first | decide | omega) ?_
        refine WG.iastoreN  (pc' := 30) dX6_goneAt_29 rfl rfl (by first | rfl | assumption) (by first | assumption | omega) (by first | decide | omega) ?_
        refine WG.iinc1 (L' := [_, _, _]) (pc' := 33) dX6_goneAt_30 rfl rfl (by decide) rfl ?_
        refine WG.goto (tgt := 4) dX6_goneAt_33 (by decide) ?_
        rw [nI_1]
        refine ih (k + 1) _ (by omega) (by omega) (by omega) (by rw [zI_1, if_neg (by omega)]; exact g4) (fun p hp => ?_) (gf.I rfl)
        rw [zI_1]
        by_cases c1 : p = k
        · rw [if_pos ⟨rfl, c1⟩, g (k + 5) (by omega), if_neg (by omega), if_pos (by omega), c1]
        · rw [if_neg (fun q => c1 q.2), g p hp]
          by_cases c2 : 5 * s ≤ p ∧ p < k
          · rw [if_pos c2, if_pos (by omega)]
          · rw [if_neg c2, if_neg (by omega)]
  refine WG.iconst (v := 5) (pc' := 1) dX6_goneAt_0 rfl rfl ?_
  refine WG.iload_n (pc' := 2) dX6_goneAt_1 rfl rfl ?_
  refine WG.imul (pc' := 3) dX6_goneAt_2 rfl ?_
  rw [show (5 : Int32) * nI s = nI (5 * s) from pk_mul 5 s]
  refine WG.istore_n (L' := [_, _, _]) (pc' := 4) dX6_goneAt_3 rfl (by decide) rfl ?_
  exact loop (5 * n + 1) (5 * s) h (by omega) (by omega) (by omega) h4 (fun p hp => by rw [if_neg (by omega)]) zFr.rf
set_option maxHeartbeats 4000000 in
set_option maxRecDepth 100000 in
theorem c_X6_insertAt {h : zH} {n a : Nat} {f : zf} {e nn t : Int32} (hG : RG 88 0 n f h) (hn8 : n < 8) (ha : a ≤ n) : K_X6_insertAt [.ref 86, .int (nI a), .int e, .int nn, .int t] h (fun r h' => r = none ∧ RG 88 0 (n + 1) (zins f a (znew e nn t)) h' ∧ zFr (fun o => o = 88) h h') := by
  have hG0 := hG
  obtain ⟨hn, h4, hf⟩ := hG
  refine CT.of rfl rfl (Nat.le_of_ble_eq_true rfl) rfl ?_
  have loop : ∀ (m k : Nat) (h1 : zH), 5 * a + 5 ≤ k + 1 → k ≤ 5 * n + 4 → k + 1 - (5 * a + 5) < m → h1.1 88 40 = nI n → (∀ p, p < 40 → h1.1 88 p = if k < p ∧ p ≤ 5 * n + 4 then h.1 88 (p - 5) else h.1 88 p) → zFr (fun o => o = 88) h h1 →
      W_X6_insertAt (fun r h' => r = none ∧ RG 88 0 (n + 1) (zins f a (znew e nn t)) h' ∧ zFr (fun o => o = 88) h h') 12 [some (.ref 86), some (.int (nI a)), some (.int e), some (.int nn), some (.int t), some (.int (nI k))] [] h1 := by
    intro m
    induction m with
    | zero => intro i h1 a b; omega
    | succ m ih =>
      intro k h1 hk1 hk hm g4 g gf
      refine WG.iload (pc' := 14) dX6_insertAt_12 rfl rfl ?_
      refine WG.iconst (v := 5) (pc' := 15) dX6_insertAt_14 rfl rfl ?_
      refine WG.iload_n (pc' := 16) dX6_insertAt_15 rfl rfl ?_
      refine WG.iconst (v := 1) (pc' := 17) dX6_insertAt_16 rfl rfl ?_
      refine WG.iadd (pc' := 18) dX6_insertAt_17 rfl ?_
      refine WG.imul (pc' := 19) dX6_insertAt_18 rfl ?_
      rw [nI_1, show (5 : Int32) * nI (a + 1) = nI (5 * (a + 1)) from pk_mul 5 (a + 1)]
      refine WG.icmp_lt (tgt := 44) (pc' := 22) dX6_insertAt_19 rfl (by decide) (fun c_19 => ?_) (fun c_19 => ?_)
      · obtain rfl : k = 5 * a + 4 := by have := (nI_ltI (a := k) (b := 5 * (a + 1)) (by omega) (by omega)).mp c_19; omega
        refine WG.aload_n (pc' := 45) dX6_insertAt_44 rfl rfl ?_
        refine WG.getR (r := 88) f_X6_23 (pc' := 48) dX6_insertAt_45 rfl rfl rfl rfl ?_
        refine WG.iconst (v := 5) (pc' := 49) dX6_insertAt_48 rfl rfl ?_
        refine WG.iload_n (pc' := 50) dX6_insertAt_49 rfl rfl ?_
        refine WG.imul (pc' := 51) dX6_insertAt_50 rfl ?_
        refine WG.iconst (v := 0) (pc' := 52) dX6_insertAt_51 rfl rfl ?_
        refine WG.iadd (pc' := 53) dX6_insertAt_52 rfl ?_
        refine WG.iconst (v := 0) (pc' := 54) dX6_insertAt_53 rfl rfl ?_
        refine WG.iastoreN (j := 5 * a + 0) (pc' := 55) dX6_insertAt_54 rfl rfl (zi5 a 0) (by omega) (by first | decide | omega) ?_
        refine WG.aload_n (pc' := 56) dX6_insertAt_55 rfl rfl ?_
        refine WG.getR (r := 88) f_X6_23 (pc' := 59) dX6_insertAt_56 rfl rfl rfl rfl ?_
        refine WG.iconst (v := 5) (pc' := 60) dX6_insertAt_59 rfl rfl ?_
        refine WG.iload_n (pc' := 61) dX6_insertAt_60 rfl rfl ?_
        refine WG.imul (pc' := 62) dX6_insertAt_61 rfl ?_
        refine WG.iconst (v := 1) (pc' := 63) dX6_insertAt_62 rfl rfl ?_
        refine WG.iadd (pc' := 64) dX6_insertAt_63 rfl ?_
        refine WG.iconst (v := 0) (pc' := 65) dX6_insertAt_64 rfl rfl ?_
        refine WG.iastoreN (j := 5 * a + 1) (pc' := 66) dX6_insertAt_65 rfl rfl (zi5 a 1) (by omega) (by first | decide | omega) ?_
        refine WG.aload_n (pc' := 67) dX6_insertAt_66 rfl rfl ?_
        refine WG.getR (r := 88) f_X6_23 (pc' := 70) dX6_insertAt_67 rfl rfl rfl rfl ?_
        refine WG.iconst (v := 5) (pc' := 71) dX6_insertAt_70 rfl rfl ?_
        refine WG.iload_n (pc' := 72) dX6_insertAt_71 rfl rfl ?_
        refine WG.imul (pc' := 73) dX6_insertAt_72 rfl ?_
        refine WG.iconst (v := 2) (pc' := 74) dX6_insertAt_73 rfl rfl ?_
        refine WG.iadd (pc' := 75) dX6_insertAt_74 rfl ?_
        refine WG.iload_n (pc' := 76) dX6_insertAt_75 rfl rfl ?_
        refine WG.iastoreN (j := 5 * a + 2) (pc' := 77) dX6_insertAt_76 rfl rfl (zi5 a 2) (by omega) (by first | decide | omega) ?_
        refine WG.aload_n (pc' := 78) dX6_insertAt_77 rfl rfl ?_
        refine WG.getR (r := 88) f_X6_23 (pc' := 81) dX6_insertAt_78 rfl rfl rfl rfl ?_
        refine WG.iconst (v := 5) (pc' := 82) dX6_insertAt_81 rfl rfl ?_
        refine WG.iload_n (pc' := 83) dX6_insertAt_82 rfl rfl ?_
        refine WG.imul (pc' := 84) dX6_insertAt_83 rfl ?_
        refine WG.iconst (v := 3) (pc' := 85) dX6_insertAt_84 rfl rfl ?_
        refine WG.iadd (pc' := 86) dX6_insertAt_85 rfl ?_
        refine WG.iload_n (pc' := 87) dX6_insertAt_86 rfl rfl ?_
        refine WG.iastoreN (j := 5 * a + 3) (pc' := 88) dX6_insertAt_87 rfl rfl (zi5 a 3) (by omega) (by first | decide | omega) ?_
        refine WG.aload_n (pc' := 89) dX6_insertAt_88 rfl rfl ?_
        refine WG.getR (r := 88) f_X6_23 (pc' := 92) dX6_insertAt_89 rfl rfl rfl rfl ?_
        refine WG.iconst (v := 5) (pc' := 93) dX6_insertAt_92 rfl rfl ?_
        refine WG.iload_n (pc' := 94) dX6_insertAt_93 rfl rfl ?_
        refine WG.imul (pc' := 95) dX6_insertAt_94 rfl ?_
        refine WG.iconst (v := 4) (pc' := 96) dX6_insertAt_95 rfl rfl ?_
        refine WG.iadd (pc' := 97) dX6_insertAt_96 rfl ?_
        refine WG.iload (pc' := 99) dX6_insertAt_97 rfl rfl ?_
        refine WG.iastoreN (j := 5 * a + 4) (pc' := 100) dX6_insertAt_99 rfl rfl (zi5 a 4) (by omega) (by first | decide | omega) ?_
        refine WG.aload_n (pc' := 101) dX6_insertAt_100 rfl rfl ?_
        refine WG.getR (r := 88) f_X6_23 (pc' := 104) dX6_insertAt_101 rfl rfl rfl rfl ?_
        refine WG.bipush (v := 40) (pc' := 106) dX6_insertAt_104 rfl rfl ?_
        refine WG.dup2 (pc' := 107) dX6_insertAt_106 rfl rfl rfl ?_
        refine WG.ialoadN (j := 40) (pc' := 108) dX6_insertAt_107 rfl rfl rfl (by decide) (by first | decide | omega) ?_
        refine WG.iconst (v := 1) (pc' := 109) dX6_insertAt_108 rfl rfl ?_
        refine WG.iadd (pc' := 110) dX6_insertAt_109 rfl ?_
        refine WG.iastoreN (j := 40) (pc' := 111) dX6_insertAt_110 rfl rfl rfl (by decide) (by first | decide | omega) ?_
        refine WG.vreturn dX6_insertAt_111 rfl ?_
        refine ⟨rfl, ⟨by omega, ?_, fun p hp j hj => ?_⟩, (((((gf.I rfl).I rfl).I rfl).I rfl).I rfl).I rfl⟩
        · rw [zI_1, if_pos ⟨rfl, rfl⟩]
          simp only [zI_1]
          repeat rw [if_neg (by omega)]
          rw [g4, nI_1]
        · have z1 := fun q => hf p q j hj
          have z2 := fun q => hf (p - 1) q j hj
          rw [Nat.zero_add] at z1 z2
          rw [Nat.zero_add, zI_1, if_neg (by omega)]
          unfold zins
          by_cases c1 : p < a
          · rw [if_pos c1, ← z1 (by omega)]
            simp only [zI_1]
            repeat rw [if_neg (by omega)]
            rw [g _ (by omega), if_neg (by omega)]
          · rw [if_neg c1]
            by_cases c2 : p = a
            · subst c2
              rw [if_pos rfl]
              simp only [zI_1]
              rcases (show j = 0 ∨ j = 1 ∨ j = 2 ∨ j = 3 ∨ j = 4 by omega) with rfl | rfl | rfl | rfl | rfl <;> simp [znew]
            · rw [if_neg c2, ← z2 (by omega)]
              simp only [zI_1]
              repeat rw [if_neg (by omega)]
              rw [g _ (by omega), if_pos (by omega), show 5 * p + j - 5 = 5 * (p - 1) + j by omega]
      · have hlt : 5 * a + 5 ≤ k := by have := mt (nI_ltI (a := k) (b := 5 * (a + 1)) (by omega) (by omega)).mpr c_19; omega
        refine WG.aload_n (pc' := 23) dX6_insertAt_22 rfl rfl ?_
        refine WG.getR (r := 88) f_X6_23 (pc' := 26) dX6_insertAt_23 rfl rfl rfl rfl ?_
        refine WG.iload (pc' := 28) dX6_insertAt_26 rfl rfl ?_
        refine WG.aload_n (pc' := 29) dX6_insertAt_28 rfl rfl ?_
        refine WG.getR (r := 88) f_X6_23 (pc' := 32) dX6_insertAt_29 rfl rfl rfl rfl ?_
        refine WG.iload (pc' := 34) dX6_insertAt_32 rfl rfl ?_
        refine WG.iconst (v := 5) (pc' := 35) dX6_insertAt_34 rfl rfl ?_
        refine WG.isub (pc' := 36) dX6_insertAt_35 rfl ?_
        refine WG.ialoadN (j := k - 5) (pc' := 37) dX6_insertAt_36 rfl rfl (pk_sub (b := 5) (by omega)) (by omega) (by first | decide | omega) ?_
        refine WG.iastoreN  (pc' := 38) dX6_insertAt_37 rfl rfl (by first | rfl | assumption) (by first | assumption | omega) (by first | decide | omega) ?_
        refine WG.iincM (L' := [_, _, _, _, _, _]) (pc' := 41) dX6_insertAt_38 rfl rfl (by decide) rfl ?_
        refine WG.goto (tgt := 12) dX6_insertAt_41 (by decide) ?_
        rw [sb_m1 (by omega)]
        refine ih (k - 1) _ (by omega) (by omega) (by omega) (by rw [zI_1, if_neg (by omega)]; exact g4) (fun p hp => ?_) (gf.I rfl)
        rw [zI_1]
        by_cases c1 : p = k
        · rw [if_pos ⟨rfl, c1⟩, g (k - 5) (by omega), if_neg (by omega), if_pos (by omega), c1]
        · rw [if_neg (fun q => c1 q.2), g p hp]
          by_cases c2 : k < p ∧ p ≤ 5 * n + 4
          · rw [if_pos c2, if_pos (by omega)]
          · rw [if_neg c2, if_neg (by omega)]
  refine WG.iconst (v := 5) (pc' := 1) dX6_insertAt_0 rfl rfl ?_
  refine WG.aload_n (pc' := 2) dX6_insertAt_1 rfl rfl ?_
  refine WG.callVd (c_X6_many hG0) m_X6_63 b_X6_many rfl rfl rfl (zrk_of rfl) rfl (Nat.le_of_ble_eq_true rfl) dX6_insertAt_2 (pc' := 5) rfl ?_
  refine WG.iconst (v := 1) (pc' := 6) dX6_insertAt_5 rfl rfl ?_
  refine WG.iadd (pc' := 7) dX6_insertAt_6 rfl ?_
  refine WG.imul (pc' := 8) dX6_insertAt_7 rfl ?_
  refine WG.iconst (v := 1) (pc' := 9) dX6_insertAt_8 rfl rfl ?_
  refine WG.isub (pc' := 10) dX6_insertAt_9 rfl ?_
  rw [nI_1, show (5 : Int32) * nI (n + 1) = nI (5 * (n + 1)) from pk_mul 5 (n + 1), show nI (5 * (n + 1)) - 1 = nI (5 * n + 4) from pk_sub (a := 5 * n + 5) (b := 1) (by omega)]
  refine WG.istore (L' := [_, _, _, _, _, _]) (pc' := 12) dX6_insertAt_10 rfl (by decide) rfl ?_
  exact loop (5 * n + 6) (5 * n + 4) h (by omega) (by omega) (by omega) h4 (fun p hp => by rw [if_neg (by omega)]) zFr.rf
set_option maxHeartbeats 4000000 in
set_option maxRecDepth 100000 in
theorem c_X6_turns {h : zH} {n : Nat} {f : zf} (hG : RG 88 0 n f h) (hA : RG 90 0 n f h) : K_X6_turns [.ref 86] h (fun r h' => r = none ∧ RG 88 0 n (zrev f n) h' ∧ zFr (fun o => o = 88) h h') := by
  have hG0 := hG
  obtain ⟨hn, h4, hf⟩ := hG
  obtain ⟨-, -, ha⟩ := hA
  refine CT.of rfl rfl (Nat.le_of_ble_eq_true rfl) rfl ?_
  have loop : ∀ (m s : Nat) (h1 : zH) (v3 v4 : Option Value), s ≤ n → n - s < m → h1.1 88 40 = nI n → (∀ i, i < s → ∀ j, j < 5 → h1.1 88 (5 * i + j) = zrev f n i j) → zFr (fun o => o = 88) h h1 →
      W_X6_turns (fun r h' => r = none ∧ RG 88 0 n (zrev f n) h' ∧ zFr (fun o => o = 88) h h') 7 [some (.ref 86), some (.int (nI n)), some (.int (nI s)), v3, v4] [] h1 := by
    intro m
    induction m with
    | zero => intro i h1 v3 v4 a b; omega
    | succ m ih =>
      intro s h1 v3 v4 hs hm g4 g gf
      have inner : ∀ (m2 w : Nat) (h2 : zH) (v4 : Option Value), s < n → w ≤ 5 → 5 - w < m2 → h2.1 88 40 = nI n → (∀ i, i < s → ∀ j, j < 5 → h2.1 88 (5 * i + j) = zrev f n i j) → (∀ j, j < w → h2.1 88 (5 * s + j) = zrev f n s j) → zFr (fun o => o = 88) h h2 →
          W_X6_turns (fun r h' => r = none ∧ RG 88 0 n (zrev f n) h' ∧ zFr (fun o => o = 88) h h') 14 [some (.ref 86), some (.int (nI n)), some (.int (nI s)), some (.int (nI w)), v4] [] h2 := by
        intro m2
        induction m2 with
        | zero => intro w h2 v4 a b; omega
        | succ m2 ih2 =>
          intro w h2 v4 hlt hw hm2 k4 kk kw kf
          have z := ha (n - 1 - s) (by omega) w
          rw [Nat.zero_add] at z
          refine WG.iload_n (pc' := 15) dX6_turns_14 rfl rfl ?_
          refine WG.iconst (v := 5) (pc' := 16) dX6_turns_15 rfl rfl ?_
          refine WG.icmp_ge (tgt := 69) (pc' := 19) dX6_turns_16 rfl (by decide) (fun c_16 => ?_) (fun c_16 => ?_)
          · obtain rfl : w = 5 := by have := (nI_leI (a := 5) (b := w) (by omega) (by omega)).mp c_16; omega
            refine WG.iinc1 (L' := [_, _, _, _, _]) (pc' := 72) dX6_turns_69 rfl rfl (by decide) rfl ?_
            refine WG.goto (tgt := 7) dX6_turns_72 (by decide) ?_
            rw [nI_1]
            refine ih (s + 1) _ _ _ (by omega) (by omega) k4 (fun i hi j hj => ?_) kf
            rcases (show i < s ∨ i = s by omega) with q | rfl
            · exact kk i q j hj
            · exact kw j hj
          · have hw5 : w < 5 := by have := mt (nI_leI (a := 5) (b := w) (by omega) (by omega)).mpr c_16; omega
            have key : ∀ x : Int32, x = zrev f n s w → W_X6_turns (fun r h' => r = none ∧ RG 88 0 n (zrev f n) h' ∧ zFr (fun o => o = 88) h h') 62 [some (.ref 86), some (.int (nI n)), some (.int (nI s)), some (.int (nI w)), some (.int (f (n - 1 - s) w))] [.int x, .int ((5 : Int32) * nI s + nI w), .ref 88] h2 := by
              intro x hx
              refine WG.iastoreN (j := 5 * s + w) (pc' := 63) dX6_turns_62 rfl rfl (zi5 s w) (by omega) (by decide) ?_
              refine WG.iinc1 (L' := [_, _, _, _, _]) (pc' := 66) dX6_turns_63 rfl rfl (by decide) rfl ?_
              refine WG.goto (tgt := 14) dX6_turns_66 (by decide) ?_
              rw [nI_1]
              refine ih2 (w + 1) _ _ hlt (by omega) (by omega) (by rw [zI_1, if_neg (by omega)]; exact k4) (fun i hi j hj => by rw [zI_1, if_neg (by omega)]; exact kk i hi j hj) (fun j hj => ?_) (kf.I rfl)
              rw [zI_1]
              by_cases c1 : j = w
              · rw [if_pos ⟨rfl, by omega⟩, hx, c1]
              · rw [if_neg (by omega)]; exact kw j (by omega)
            refine WG.aload_n (pc' := 20) dX6_turns_19 rfl rfl ?_
            refine WG.getR (r := 90) f_X6_29 (pc' := 23) dX6_turns_20 rfl rfl rfl rfl ?_
            refine WG.iconst (v := 5) (pc' := 24) dX6_turns_23 rfl rfl ?_
            refine WG.iload_n (pc' := 25) dX6_turns_24 rfl rfl ?_
            refine WG.iconst (v := 1) (pc' := 26) dX6_turns_25 rfl rfl ?_
            refine WG.isub (pc' := 27) dX6_turns_26 rfl ?_
            refine WG.iload_n (pc' := 28) dX6_turns_27 rfl rfl ?_
            refine WG.isub (pc' := 29) dX6_turns_28 rfl ?_
            refine WG.imul (pc' := 30) dX6_turns_29 rfl ?_
            refine WG.iload_n (pc' := 31) dX6_turns_30 rfl rfl ?_
            refine WG.iadd (pc' := 32) dX6_turns_31 rfl ?_
            refine WG.ialoadN (j := 5 * (n - 1 - s) + w) (pc' := 33) dX6_turns_32 rfl rfl (by rw [show nI n - 1 - nI s = nI (n - 1 - s) from by rw [show (1 : Int32) = nI 1 from rfl, pk_sub (by omega), pk_sub (by omega)], zi5]) (by omega) (by first | decide | omega) ?_
            rw [show h2.1 90 (5 * (n - 1 - s) + w) = f (n - 1 - s) w by rw [kf.1 90 (by decide)]; exact z hw5]
            refine WG.istore (L' := [_, _, _, _, _]) (pc' := 35) dX6_turns_33 rfl (by decide) rfl ?_
            refine WG.aload_n (pc' := 36) dX6_turns_35 rfl rfl ?_
            refine WG.getR (r := 88) f_X6_23 (pc' := 39) dX6_turns_36 rfl rfl rfl rfl ?_
            refine WG.iconst (v := 5) (pc' := 40) dX6_turns_39 rfl rfl ?_
            refine WG.iload_n (pc' := 41) dX6_turns_40 rfl rfl ?_
            refine WG.imul (pc' := 42) dX6_turns_41 rfl ?_
            refine WG.iload_n (pc' := 43) dX6_turns_42 rfl rfl ?_
            refine WG.iadd (pc' := 44) dX6_turns_43 rfl ?_
            refine WG.iload_n (pc' := 45) dX6_turns_44 rfl rfl ?_
            refine WG.iconst (v := 2) (pc' := 46) dX6_turns_45 rfl rfl ?_
            refine WG.icmp_eq (tgt := 54) (pc' := 49) dX6_turns_46 rfl (by decide) (fun c_46 => ?_) (fun c_46 => ?_)
            · have c46 := (nI_eq (a := w) (b := 2) (by omega) (by omega)).mp c_46
              refine WG.iload (pc' := 56) dX6_turns_54 rfl rfl ?_
              refine WG.ineg (pc' := 57) dX6_turns_56 rfl ?_
              refine WG.goto (tgt := 62) dX6_turns_57 (by decide) ?_
              exact key _ (by unfold zrev; first | rw [if_pos (by omega)] | rw [if_neg (by omega)])
            · have c46 := mt (nI_eq (a := w) (b := 2) (by omega) (by omega)).mpr c_46
              refine WG.iload_n (pc' := 50) dX6_turns_49 rfl rfl ?_
              refine WG.iconst (v := 3) (pc' := 51) dX6_turns_50 rfl rfl ?_
              refine WG.icmp_ne (tgt := 60) (pc' := 54) dX6_turns_51 rfl (by decide) (fun c_51 => ?_) (fun c_51 => ?_)
              · have c51 := mt (nI_eq (a := w) (b := 3) (by omega) (by omega)).mpr c_51
                refine WG.iload (pc' := 62) dX6_turns_60 rfl rfl ?_
                exact key _ (by unfold zrev; first | rw [if_pos (by omega)] | rw [if_neg (by omega)])
              · have c51 := (nI_eq (a := w) (b := 3) (by omega) (by omega)).mp c_51
                refine WG.iload (pc' := 56) dX6_turns_54 rfl rfl ?_
                refine WG.ineg (pc' := 57) dX6_turns_56 rfl ?_
                refine WG.goto (tgt := 62) dX6_turns_57 (by decide) ?_
                exact key _ (by unfold zrev; first | rw [if_pos (by omega)] | rw [if_neg (by omega)])
      refine WG.iload_n (pc' := 8) dX6_turns_7 rfl rfl ?_
      refine WG.iload_n (pc' := 9) dX6_turns_8 rfl rfl ?_
      refine WG.icmp_ge (tgt := 75) (pc' := 12) dX6_turns_9 rfl (by decide) (fun c_9 => ?_) (fun c_9 => ?_)
      · obtain rfl : s = n := by have := (nI_leI (by omega) (by omega)).mp c_9; omega
        refine WG.vreturn dX6_turns_75 rfl ?_
        exact ⟨rfl, ⟨by omega, g4, fun p hp j hj => by rw [Nat.zero_add]; exact g p hp j hj⟩, gf⟩
      · have hlt : s < n := by have := mt (nI_leI (a := n) (b := s) (by omega) (by omega)).mpr c_9; omega
        refine WG.iconst (v := 0) (pc' := 13) dX6_turns_12 rfl rfl ?_
        refine WG.istore_n (L' := [_, _, _, _, _]) (pc' := 14) dX6_turns_13 rfl (by decide) rfl ?_
        exact inner 6 0 h1 _ hlt (by omega) (by omega) g4 g (fun j hj => by omega) gf
  refine WG.aload_n (pc' := 1) dX6_turns_0 rfl rfl ?_
  refine WG.callVd (c_X6_many hG0) m_X6_63 b_X6_many rfl rfl rfl (zrk_of rfl) rfl (Nat.le_of_ble_eq_true rfl) dX6_turns_1 (pc' := 4) rfl ?_
  refine WG.istore_n (L' := [_, _, _, _, _]) (pc' := 5) dX6_turns_4 rfl (by decide) rfl ?_
  refine WG.iconst (v := 0) (pc' := 6) dX6_turns_5 rfl rfl ?_
  refine WG.istore_n (L' := [_, _, _, _, _]) (pc' := 7) dX6_turns_6 rfl (by decide) rfl ?_
  exact loop (n + 1) 0 h _ _ (by omega) (by omega) h4 (fun i hi => by omega) zFr.rf
