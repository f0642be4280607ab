/-! lots, the other side -/
theorem m_spreads1 {σ : zA} {h : zH} (hX : RM σ h) : K_X6_spreadsAll [.ref 86] h (fun r h' => r = some (.int (zb (0 < zWt σ.1.2 σ.1.1))) ∧ RCm σ.1.1 (zWt σ.1.2 σ.1.1) (zu σ.1.2 σ.1.1 0) (zu σ.1.2 σ.1.1 1) (zx σ.1.2 σ.1.1 0) (zx σ.1.2 σ.1.1 1) h' ∧ RM σ h' ∧ zFr zB2 h h' ∧ h'.1 = h.1) :=
  (c_X6_spreadsAll hX.1).mono (fun r h' q => by
    obtain ⟨q1, q2, q3, q4, q5⟩ := q
    refine ⟨q1, q2, hX.eq1 q3 (q4 99 (by decide)), ⟨fun o z => by rw [q3], fun o z => q4 o ⟨?_, ?_, ?_⟩⟩, q3⟩
    · rintro rfl; exact z (by show 86 ≤ 86; decide)
    · rintro rfl; exact z (by show 86 ≤ 94; decide)
    · rintro rfl; exact z (by show 86 ≤ 95; decide))
theorem RM.sd {σ : zA} {n' : Nat} {f' : zf} {h h' : zH} (hX : RM σ h) (hS : RG 88 0 n' f' h') (hF : zFr (fun o => o = 86 ∨ o = 88 ∨ o = 93) h h') (e0 : ∀ i, i ≠ 17 → h'.1 86 i = h.1 86 i) : RM ((n', f'), σ.2) h' := by
  obtain ⟨a, b, c0, d, e, g, k⟩ := hX
  refine ⟨hS, ⟨b.1, by rw [e0 4 (by decide)]; exact b.2.1, fun i hi => (b.2.2 i hi).fo hF (by decide)⟩, ?_, ⟨d.1, by rw [e0 7 (by decide)]; exact d.2.1, by rw [hF.1 91 (by decide)]; exact d.2.2⟩, ⟨e.1, by rw [e0 16 (by decide)]; exact e.2.1, by rw [hF.1 96 (by decide)]; exact e.2.2⟩, fun l hl => (g l hl).fo hF (by decide) (by decide) (by decide), by rw [hF.1 87 (by decide)]; exact k⟩
  show RKm σ.2.2.1 h'
  revert c0
  generalize σ.2.2.1 = K
  intro c0
  match K, c0 with
  | none, c0 => show h'.1 86 22 = 0; rw [e0 22 (by decide)]; exact c0
  | some (n, f), c0 => exact ⟨by rw [e0 22 (by decide)]; exact c0.1, c0.2.fo hF (by decide)⟩
set_option maxHeartbeats 4000000 in
set_option maxRecDepth 100000 in
theorem c_X6_draw {h : zH} {z : Int32} {i : Nat} (hz : h.1 86 17 = zz z i) : K_X6_draw [.ref 86, .int 9] h (zD (some (.int (zdr z i - 1))) (zI h 86 17 (zz z (i + 1)))) := by
  refine CT.of rfl rfl (Nat.le_of_ble_eq_true rfl) rfl ?_
  have e1 : zdr z i - 1 = (zz z (i + 1) &&& 2147483647) / 256 - (zz z (i + 1) &&& 2147483647) / 256 / 9 * 9 := by unfold zdr; grind
  have e2 : zz z (i + 1) = zz z i * 1664525 + 1013904223 := rfl
  rw [e1]
  refine WG.aload_n (pc' := 1) dX6_draw_0 rfl rfl ?_
  refine WG.aload_n (pc' := 2) dX6_draw_1 rfl rfl ?_
  refine WG.getI f_X6_299 (pc' := 5) dX6_draw_2 rfl rfl rfl ?_
  refine WG.ldcw (pc' := 8) dX6_draw_5 rfl k_X6_302 ?_
  refine WG.imul (pc' := 9) dX6_draw_8 rfl ?_
  refine WG.ldcw (pc' := 12) dX6_draw_9 rfl k_X6_303 ?_
  refine WG.iadd (pc' := 13) dX6_draw_12 rfl ?_
  rw [hz, ← e2]
  refine WG.putI p_X6_299 (pc' := 16) dX6_draw_13 rfl rfl rfl rfl rfl ?_
  refine WG.aload_n (pc' := 17) dX6_draw_16 rfl rfl ?_
  refine WG.getI f_X6_299 (pc' := 20) dX6_draw_17 rfl rfl rfl ?_
  rw [zI_1, if_pos ⟨rfl, rfl⟩]
  refine WG.ldcw (pc' := 23) dX6_draw_20 rfl k_X6_304 ?_
  refine WG.iand (pc' := 24) dX6_draw_23 rfl ?_
  refine WG.sipush (v := 256) (pc' := 27) dX6_draw_24 rfl rfl ?_
  refine WG.idiv (pc' := 28) dX6_draw_27 rfl (by decide) ?_
  refine WG.iload_n (pc' := 29) dX6_draw_28 rfl rfl ?_
  refine WG.irem (pc' := 30) dX6_draw_29 rfl (by decide) ?_
  refine WG.ireturn dX6_draw_30 rfl (by first | rfl | decide) ?_
  exact ⟨rfl, rfl⟩
def zpl (F : zf) (z : Int32) (i : Nat) : zf := fun p j => if p < i then zlot F z p j else F p j
set_option maxHeartbeats 4000000 in
set_option maxRecDepth 100000 in
theorem m_lotsI {σ : zA} {h : zH} {F : zf} {z0 z w M a b r : Int32} {Q : Option Value → zH → Prop} (hK : ∀ (h2 : zH) (v7 : Option Value), RM ((σ.1.1, zlot F z), σ.2) h2 → h2.1 86 17 = zz z σ.1.1 → RG 93 0 σ.1.1 σ.1.2 h2 → zFr zB2 h h2 → W_X6_lots Q 112 [some (.ref 86), some (.int M), some (.int z0), some (.int w), some (.int a), some (.int b), some (.int r), v7] [] h2) : ∀ (m i : Nat) (h1 : zH), i + m = σ.1.1 → RM ((σ.1.1, zpl F z i), σ.2) h1 → h1.1 86 17 = zz z i → RG 93 0 σ.1.1 σ.1.2 h1 → zFr zB2 h h1 → W_X6_lots Q 78 [some (.ref 86), some (.int M), some (.int z0), some (.int w), some (.int a), some (.int b), some (.int r), some (.int (nI i))] [] h1 := by
  intro m
  induction m with
  | zero =>
    intro i h1 hi hX1 hz hB hF
    have hG : RG 88 0 σ.1.1 (zpl F z i) h1 := hX1.1
    have hn := hG.1
    refine WG.iload (pc' := 80) dX6_lots_78 rfl rfl ?_
    refine WG.aload_n (pc' := 81) dX6_lots_80 rfl rfl ?_
    refine WG.callVd (c_X6_many hG) m_X6_63 b_X6_many rfl rfl rfl (zrk_of rfl) rfl (Nat.le_of_ble_eq_true rfl) dX6_lots_81 (pc' := 84) rfl ?_
    refine WG.icmp_ge (tgt := 112) (pc' := 87) dX6_lots_84 rfl (by decide) (fun c_84 => ?_) (fun c_84 => ?_)
    · exact hK h1 _ (hX1.sd ⟨hG.1, hG.2.1, fun p hp j hj => by rw [hG.2.2 p hp j hj]; exact if_pos (by omega)⟩ zFr.rf (fun _ _ => rfl)) (by rw [hz, show i = σ.1.1 by omega]) hB hF
    · exact absurd (by rw [nI_leI (by omega) (by omega)]; omega) c_84
  | succ m ih =>
    intro i h1 hi hX1 hz hB hF
    have hG : RG 88 0 σ.1.1 (zpl F z i) h1 := hX1.1
    have hn := hG.1
    have ed : zdr z i - 1 + 1 = zdr z i := by grind
    refine WG.iload (pc' := 80) dX6_lots_78 rfl rfl ?_
    refine WG.aload_n (pc' := 81) dX6_lots_80 rfl rfl ?_
    refine WG.callVd (c_X6_many hG) m_X6_63 b_X6_many rfl rfl rfl (zrk_of rfl) rfl (Nat.le_of_ble_eq_true rfl) dX6_lots_81 (pc' := 84) rfl ?_
    refine WG.icmp_ge (tgt := 112) (pc' := 87) dX6_lots_84 rfl (by decide) (fun c_84 => ?_) (fun c_84 => ?_)
    · exact absurd c_84 (by rw [nI_leI (by omega) (by omega)]; omega)
    · refine WG.aload_n (pc' := 88) dX6_lots_87 rfl rfl ?_
      refine WG.getR (r := 88) f_X6_23 (pc' := 91) dX6_lots_88 rfl rfl rfl rfl ?_
      refine WG.iconst (v := 5) (pc' := 92) dX6_lots_91 rfl rfl ?_
      refine WG.iload (pc' := 94) dX6_lots_92 rfl rfl ?_
      refine WG.imul (pc' := 95) dX6_lots_94 rfl ?_
      refine WG.iconst (v := 4) (pc' := 96) dX6_lots_95 rfl rfl ?_
      refine WG.iadd (pc' := 97) dX6_lots_96 rfl ?_
      refine WG.aload_n (pc' := 98) dX6_lots_97 rfl rfl ?_
      refine WG.bipush (v := 9) (pc' := 100) dX6_lots_98 rfl rfl ?_
      refine WG.callVd (c_X6_draw hz) m_X6_305 b_X6_draw rfl rfl rfl (zrk_of rfl) rfl (Nat.le_of_ble_eq_true rfl) dX6_lots_100 (pc' := 103) rfl ?_
      refine WG.iconst (v := 1) (pc' := 104) dX6_lots_103 rfl rfl ?_
      refine WG.iadd (pc' := 105) dX6_lots_104 rfl ?_
      rw [ed]
      refine WG.iastoreN (j := 5 * i + 4) (pc' := 106) dX6_lots_105 rfl rfl (zi5 i 4) (by omega) (by first | decide | omega) ?_
      refine WG.iinc1 (L' := [_, _, _, _, _, _, _, _]) (pc' := 109) dX6_lots_106 rfl rfl (by decide) rfl ?_
      refine WG.goto (tgt := 78) dX6_lots_109 (by decide) ?_
      rw [nI_1]
      have f1 : zFr (fun o => o = 86 ∨ o = 88 ∨ o = 93) h1 (zI (zI h1 86 17 (zz z (i + 1))) 88 (5 * i + 4) (zdr z i)) := (zFr.rf.I (Or.inl rfl)).I (Or.inr (Or.inl rfl))
      have f2 : zFr (fun o => o = 86 ∨ o = 88) h1 (zI (zI h1 86 17 (zz z (i + 1))) 88 (5 * i + 4) (zdr z i)) := (zFr.rf.I (Or.inl rfl)).I (Or.inr rfl)
      refine ih (i + 1) _ (by omega) (hX1.sd ⟨hn, ?_, fun p hp j hj => ?_⟩ f1 (fun q hq => ?_)) ?_ (hB.fo f2 (by decide)) (hF.tr (f1.mo (fun o q => by show 86 ≤ o; omega)))
      · rw [zI_1, if_neg (by omega), zI_1, if_neg (by omega)]; exact hG.2.1
      · rw [zI_1]
        by_cases c : p = i ∧ j = 4
        · obtain ⟨rfl, rfl⟩ := c
          rw [if_pos ⟨rfl, by omega⟩]; unfold zpl zlot; rw [if_pos (by omega), if_pos rfl]
        · rw [if_neg (by omega), zI_1, if_neg (by omega), hG.2.2 p hp j hj]
          unfold zpl zlot
          by_cases c3 : p < i
          · rw [if_pos c3, if_pos (show p < i + 1 by omega)]
          · rw [if_neg c3]
            by_cases c4 : p = i
            · rw [if_pos (show p < i + 1 by omega), if_neg (by omega)]
            · rw [if_neg (show ¬ p < i + 1 by omega)]
      · rw [zI_1, if_neg (by omega), zI_1, if_neg (by omega)]
      · rw [zI_1, if_neg (by omega), zI_1, if_pos ⟨rfl, rfl⟩]
theorem RG.eq {o b n : Nat} {f : zf} {h h' : zH} (hG : RG o b n f h) (e : h'.1 = h.1) : RG o b n f h' := ⟨hG.1, by rw [e]; exact hG.2.1, by rw [e]; exact hG.2.2⟩
set_option maxHeartbeats 4000000 in
set_option maxRecDepth 100000 in
theorem m_lotsK {σ : zA} {h h2 : zH} {z z0 w : Int32} {M r : Int32} {R : Nat} {v7 : Option Value} {Q : Option Value → zH → Prop} (hX2 : RM ((σ.1.1, zlot (zqf σ.1.2 σ.1.1 z R) (zqz σ.1.1 z R)), σ.2) h2) (hz2 : h2.1 86 17 = zz (zqz σ.1.1 z R) σ.1.1) (hB2 : RG 93 0 σ.1.1 σ.1.2 h2) (hF2 : zFr zB2 h h2) (hK : ∀ (h3 : zH) (v7 : Option Value), RM ((σ.1.1, zqf σ.1.2 σ.1.1 z (R + 1)), σ.2) h3 → h3.1 86 17 = zqz σ.1.1 z (R + 1) → RG 93 0 σ.1.1 σ.1.2 h3 → zFr zB2 h h3 → W_X6_lots Q 69 [some (.ref 86), some (.int M), some (.int z0), some (.int w), some (.int (zqa σ.1.2 σ.1.1 z (R + 1))), some (.int (zqb σ.1.2 σ.1.1 z (R + 1))), some (.int (r + 1)), v7] [] h3) : W_X6_lots Q 112 [some (.ref 86), some (.int M), some (.int z0), some (.int w), some (.int (zqa σ.1.2 σ.1.1 z R)), some (.int (zqb σ.1.2 σ.1.1 z R)), some (.int r), v7] [] h2 := by
  have a0 : zqa σ.1.2 σ.1.1 z R + 0 = zqa σ.1.2 σ.1.1 z R := Int32.add_zero _
  refine WG.iload (pc' := 114) dX6_lots_112 rfl rfl ?_
  refine WG.aload_n (pc' := 115) dX6_lots_114 rfl rfl ?_
  refine WG.callV (m_spreads1 hX2) m_X6_200 b_X6_spreadsAll rfl rfl rfl (zrk_of rfl) rfl (Nat.le_of_ble_eq_true rfl) dX6_lots_115 (pc' := 118) rfl (fun r_ h_ q_ => ?_)
  obtain ⟨rfl, hL, hX3, hF3, e3⟩ := q_
  have fin := fun v7 => hK h_ v7 hX3 (by rw [e3]; exact hz2) (hB2.eq e3) (hF2.tr hF3)
  refine WG.if_eq (tgt := 132) (pc' := 121) dX6_lots_118 rfl (by decide) (fun c_118 => ?_) (fun c_118 => ?_)
  · rw [zb_eq] at c_118
    rw [zqa_f (fun q => c_118 q.1)] at fin
    refine WG.iconst (v := 0) (pc' := 133) dX6_lots_132 rfl rfl ?_
    refine WG.iadd (pc' := 134) dX6_lots_133 rfl ?_
    try rw [a0]
    refine WG.istore (L' := [_, _, _, _, _, _, _, _]) (pc' := 136) dX6_lots_134 rfl (by decide) rfl ?_
    refine WG.iload (pc' := 138) dX6_lots_136 rfl rfl ?_
    refine WG.aload_n (pc' := 139) dX6_lots_138 rfl rfl ?_
    refine WG.bipush (v := -9) (pc' := 141) dX6_lots_139 rfl rfl ?_
    refine WG.callVd (c_X6_missWithout9 hX3.1) m_X6_279 b_X6_missWithout rfl rfl rfl (zrk_of rfl) rfl (Nat.le_of_ble_eq_true rfl) dX6_lots_141 (pc' := 144) rfl ?_
    refine WG.iadd (pc' := 145) dX6_lots_144 rfl ?_
    refine WG.istore (L' := [_, _, _, _, _, _, _, _]) (pc' := 147) dX6_lots_145 rfl (by decide) rfl ?_
    refine WG.iinc1 (L' := [_, _, _, _, _, _, _, _]) (pc' := 150) dX6_lots_147 rfl rfl (by decide) rfl ?_
    refine WG.goto (tgt := 69) dX6_lots_150 (by decide) ?_
    exact fin _
  · rw [zb_nn] at c_118
    refine WG.aload_n (pc' := 122) dX6_lots_121 rfl rfl ?_
    refine WG.callVd (c_X6_crossings hX3.1 hL) m_X6_254 b_X6_crossings rfl rfl rfl (zrk_of rfl) rfl (Nat.le_of_ble_eq_true rfl) dX6_lots_122 (pc' := 125) rfl ?_
    refine WG.if_ne (tgt := 132) (pc' := 128) dX6_lots_125 rfl (by decide) (fun c_125 => ?_) (fun c_125 => ?_)
    · rw [zqa_f (fun q => c_125 q.2)] at fin
      refine WG.iconst (v := 0) (pc' := 133) dX6_lots_132 rfl rfl ?_
      refine WG.iadd (pc' := 134) dX6_lots_133 rfl ?_
      try rw [a0]
      refine WG.istore (L' := [_, _, _, _, _, _, _, _]) (pc' := 136) dX6_lots_134 rfl (by decide) rfl ?_
      refine WG.iload (pc' := 138) dX6_lots_136 rfl rfl ?_
      refine WG.aload_n (pc' := 139) dX6_lots_138 rfl rfl ?_
      refine WG.bipush (v := -9) (pc' := 141) dX6_lots_139 rfl rfl ?_
      refine WG.callVd (c_X6_missWithout9 hX3.1) m_X6_279 b_X6_missWithout rfl rfl rfl (zrk_of rfl) rfl (Nat.le_of_ble_eq_true rfl) dX6_lots_141 (pc' := 144) rfl ?_
      refine WG.iadd (pc' := 145) dX6_lots_144 rfl ?_
      refine WG.istore (L' := [_, _, _, _, _, _, _, _]) (pc' := 147) dX6_lots_145 rfl (by decide) rfl ?_
      refine WG.iinc1 (L' := [_, _, _, _, _, _, _, _]) (pc' := 150) dX6_lots_147 rfl rfl (by decide) rfl ?_
      refine WG.goto (tgt := 69) dX6_lots_150 (by decide) ?_
      exact fin _
    · rw [zqa_t c_118 c_125] at fin
      refine WG.iconst (v := 1) (pc' := 129) dX6_lots_128 rfl rfl ?_
      refine WG.goto (tgt := 133) dX6_lots_129 (by decide) ?_
      refine WG.iadd (pc' := 134) dX6_lots_133 rfl ?_
      try rw [a0]
      refine WG.istore (L' := [_, _, _, _, _, _, _, _]) (pc' := 136) dX6_lots_134 rfl (by decide) rfl ?_
      refine WG.iload (pc' := 138) dX6_lots_136 rfl rfl ?_
      refine WG.aload_n (pc' := 139) dX6_lots_138 rfl rfl ?_
      refine WG.bipush (v := -9) (pc' := 141) dX6_lots_139 rfl rfl ?_
      refine WG.callVd (c_X6_missWithout9 hX3.1) m_X6_279 b_X6_missWithout rfl rfl rfl (zrk_of rfl) rfl (Nat.le_of_ble_eq_true rfl) dX6_lots_141 (pc' := 144) rfl ?_
      refine WG.iadd (pc' := 145) dX6_lots_144 rfl ?_
      refine WG.istore (L' := [_, _, _, _, _, _, _, _]) (pc' := 147) dX6_lots_145 rfl (by decide) rfl ?_
      refine WG.iinc1 (L' := [_, _, _, _, _, _, _, _]) (pc' := 150) dX6_lots_147 rfl rfl (by decide) rfl ?_
      refine WG.goto (tgt := 69) dX6_lots_150 (by decide) ?_
      exact fin _
set_option maxHeartbeats 4000000 in
set_option maxRecDepth 100000 in
theorem m_lotsL {σ : zA} {h : zH} {e z w : Int32} {M : Nat} (hM : M ≤ 20) (he : e = 0) : ∀ (m r : Nat) (h1 : zH) (v7 : Option Value), r + m = M → RM ((σ.1.1, zqf σ.1.2 σ.1.1 z r), σ.2) h1 → h1.1 86 17 = zqz σ.1.1 z r → RG 93 0 σ.1.1 σ.1.2 h1 → zFr zB2 h h1 → W_X6_lots (zPi RM zB2 h σ e (if w = 0 then zqa σ.1.2 σ.1.1 z M else zqb σ.1.2 σ.1.1 z M) σ) 69 [some (.ref 86), some (.int (nI M)), some (.int z), some (.int w), some (.int (zqa σ.1.2 σ.1.1 z r)), some (.int (zqb σ.1.2 σ.1.1 z r)), some (.int (nI r)), v7] [] h1 := by
  intro m
  induction m with
  | zero =>
    intro r h1 v7 hr hX1 hz hB hF
    obtain rfl : r = M := by omega
    refine WG.iload (pc' := 71) dX6_lots_69 rfl rfl ?_
    refine WG.iload_n (pc' := 72) dX6_lots_71 rfl rfl ?_
    refine WG.icmp_ge (tgt := 153) (pc' := 75) dX6_lots_72 rfl (by decide) (fun c_72 => ?_) (fun c_72 => ?_)
    · refine WG.aload_n (pc' := 154) dX6_lots_153 rfl rfl ?_
      refine WG.getR (r := 93) f_X6_38 (pc' := 157) dX6_lots_154 rfl rfl rfl rfl ?_
      refine WG.iconst (v := 0) (pc' := 158) dX6_lots_157 rfl rfl ?_
      refine WG.aload_n (pc' := 159) dX6_lots_158 rfl rfl ?_
      refine WG.getR (r := 88) f_X6_23 (pc' := 162) dX6_lots_159 rfl rfl rfl rfl ?_
      refine WG.iconst (v := 0) (pc' := 163) dX6_lots_162 rfl rfl ?_
      refine WG.callS (c_X6_copies (b1 := 0) (b2 := 0) (o1 := 93) (o2 := 88) rfl rfl (by decide) (by decide) (by decide) (by decide) (by decide)) m_X6_99 b_X6_copies rfl (zrk_of rfl) rfl (Nat.le_of_ble_eq_true rfl) dX6_lots_163 (pc' := 166) rfl (fun r_ h_ q_ => ?_)
      obtain ⟨rfl, q1, q2⟩ := q_
      have hX2 : RM σ h_ := hX1.sd (hB.cp q1) (q2.mo (fun o q => Or.inr (Or.inl q))) (fun i _ => by rw [q2.1 86 (by decide)])
      have hF2 := hF.tr (q2.mo (fun o q => by show 86 ≤ o; omega))
      refine WG.iload_n (pc' := 167) dX6_lots_166 rfl rfl ?_
      refine WG.if_ne (tgt := 175) (pc' := 170) dX6_lots_167 rfl (by decide) (fun c_167 => ?_) (fun c_167 => ?_)
      · refine WG.iload (pc' := 177) dX6_lots_175 rfl rfl ?_
        refine WG.ireturn dX6_lots_177 rfl (by first | rfl | decide) ?_
        first
          | exact zok hX2 hF2 he (by rw [if_pos c_167])
          | exact zok hX2 hF2 he (by rw [if_neg c_167])
      · refine WG.iload (pc' := 172) dX6_lots_170 rfl rfl ?_
        refine WG.goto (tgt := 177) dX6_lots_172 (by decide) ?_
        refine WG.ireturn dX6_lots_177 rfl (by first | rfl | decide) ?_
        first
          | exact zok hX2 hF2 he (by rw [if_pos c_167])
          | exact zok hX2 hF2 he (by rw [if_neg c_167])
    · exact absurd (by rw [nI_leI (by omega) (by omega)]; omega) c_72
  | succ m ih =>
    intro r h1 v7 hr hX1 hz hB hF
    have inner := fun hK => m_lotsI (σ := σ) (h := h) (F := zqf σ.1.2 σ.1.1 z r) (z0 := z) (z := zqz σ.1.1 z r) (w := w) (M := nI M) (a := zqa σ.1.2 σ.1.1 z r) (b := zqb σ.1.2 σ.1.1 z r) (r := nI r) (Q := zPi RM zB2 h σ e (if w = 0 then zqa σ.1.2 σ.1.1 z M else zqb σ.1.2 σ.1.1 z M) σ) hK σ.1.1 0 h1 (by omega) (hX1.sd ⟨hX1.1.1, hX1.1.2.1, fun p hp j hj => by rw [hX1.1.2.2 p hp j hj]; exact (if_neg (by omega)).symm⟩ zFr.rf (fun _ _ => rfl)) hz hB hF
    refine WG.iload (pc' := 71) dX6_lots_69 rfl rfl ?_
    refine WG.iload_n (pc' := 72) dX6_lots_71 rfl rfl ?_
    refine WG.icmp_ge (tgt := 153) (pc' := 75) dX6_lots_72 rfl (by decide) (fun c_72 => ?_) (fun c_72 => ?_)
    · exact absurd c_72 (by rw [nI_leI (by omega) (by omega)]; omega)
    · refine WG.iconst (v := 0) (pc' := 76) dX6_lots_75 rfl rfl ?_
      refine WG.istore (L' := [_, _, _, _, _, _, _, _]) (pc' := 78) dX6_lots_76 rfl (by decide) rfl ?_
      refine inner ?_
      intro h2 v7 hX2 hz2 hB2 hF2
      exact m_lotsK hX2 hz2 hB2 hF2 (fun h3 v7 q1 q2 q3 q4 => by have q := ih (r + 1) h3 v7 (by omega) q1 q2 q3 q4; rw [nI_succ] at q; exact q)
set_option maxHeartbeats 4000000 in
set_option maxRecDepth 100000 in
theorem m_lots {σ : zA} {h : zH} (hX : RM σ h) (m z w : Int32) : K_X6_lots [.ref 86, .int m, .int z, .int w] h (zPi RM zB2 h σ (zeLt m w) (if w = 0 then zqa σ.1.2 σ.1.1 z m.toNatClampNeg else zqb σ.1.2 σ.1.1 z m.toNatClampNeg) σ) := by
  have hS := hX.1
  refine CT.of rfl rfl (Nat.le_of_ble_eq_true rfl) rfl ?_
  refine WG.iload_n (pc' := 1) dX6_lots_0 rfl rfl ?_
  refine WG.iconst (v := 1) (pc' := 2) dX6_lots_1 rfl rfl ?_
  refine WG.icmp_ge (tgt := 12) (pc' := 5) dX6_lots_2 rfl (by decide) (fun c_2 => ?_) (fun c_2 => ?_)
  · refine WG.iload_n (pc' := 13) dX6_lots_12 rfl rfl ?_
    refine WG.bipush (v := 20) (pc' := 15) dX6_lots_13 rfl rfl ?_
    refine WG.icmp_le (tgt := 25) (pc' := 18) dX6_lots_15 rfl (by decide) (fun c_15 => ?_) (fun c_15 => ?_)
    · have c1 : ¬ m < 1 := by grind
      have c2 : ¬ 20 < m := by grind
      refine WG.iload_n (pc' := 26) dX6_lots_25 rfl rfl ?_
      refine WG.i2l (pc' := 27) dX6_lots_26 rfl ?_
      refine WG.lconst (v := 0) (pc' := 28) dX6_lots_27 rfl rfl ?_
      refine WG.lconst (v := 1) (pc' := 29) dX6_lots_28 rfl rfl ?_
      refine WG.callSd (c_X6_in _ _ _ _) m_X6_67 b_X6_in rfl (zrk_of rfl) rfl (Nat.le_of_ble_eq_true rfl) dX6_lots_29 (pc' := 32) rfl ?_
      refine WG.if_ne (tgt := 42) (pc' := 35) dX6_lots_32 rfl (by decide) (fun c_32 => ?_) (fun c_32 => ?_)
      · rw [zb_ne, zin01] at c_32
        have he : zeLt m w = 0 := (zes_f c1).trans ((zes_f c2).trans (zes_n c_32))
        obtain ⟨M, hM0, hM, rfl⟩ := z120 c1 c2
        rw [nI_clamp (show M < 2 ^ 31 by omega)]
        have hX1 : RM ((σ.1.1, σ.1.2), σ.2) (zI h 86 17 z) := hX.sd (hS.fo (zFr.rf.I (P := fun o => o = 86) rfl) (by decide)) (zFr.rf.I (Or.inl rfl)) (fun i hi => by rw [zI_1, if_neg (by omega)])
        refine WG.aload_n (pc' := 43) dX6_lots_42 rfl rfl ?_
        refine WG.iload_n (pc' := 44) dX6_lots_43 rfl rfl ?_
        refine WG.putI p_X6_299 (pc' := 47) dX6_lots_44 rfl rfl rfl rfl rfl ?_
        refine WG.aload_n (pc' := 48) dX6_lots_47 rfl rfl ?_
        refine WG.getR (r := 88) f_X6_23 (pc' := 51) dX6_lots_48 rfl rfl rfl rfl ?_
        refine WG.iconst (v := 0) (pc' := 52) dX6_lots_51 rfl rfl ?_
        refine WG.aload_n (pc' := 53) dX6_lots_52 rfl rfl ?_
        refine WG.getR (r := 93) f_X6_38 (pc' := 56) dX6_lots_53 rfl rfl rfl rfl ?_
        refine WG.iconst (v := 0) (pc' := 57) dX6_lots_56 rfl rfl ?_
        refine WG.callS (c_X6_copies (b1 := 0) (b2 := 0) (o1 := 88) (o2 := 93) rfl rfl (by decide) (by decide) (by decide) (by decide) (by decide)) m_X6_99 b_X6_copies rfl (zrk_of rfl) rfl (Nat.le_of_ble_eq_true rfl) dX6_lots_57 (pc' := 60) rfl (fun r_ h_ q_ => ?_)
        obtain ⟨rfl, q1, q2⟩ := q_
        refine WG.iconst (v := 0) (pc' := 61) dX6_lots_60 rfl rfl ?_
        refine WG.istore (L' := [_, _, _, _, _, _, _, _]) (pc' := 63) dX6_lots_61 rfl (by decide) rfl ?_
        refine WG.iconst (v := 0) (pc' := 64) dX6_lots_63 rfl rfl ?_
        refine WG.istore (L' := [_, _, _, _, _, _, _, _]) (pc' := 66) dX6_lots_64 rfl (by decide) rfl ?_
        refine WG.iconst (v := 0) (pc' := 67) dX6_lots_66 rfl rfl ?_
        refine WG.istore (L' := [_, _, _, _, _, _, _, _]) (pc' := 69) dX6_lots_67 rfl (by decide) rfl ?_
        exact m_lotsL hM he M 0 _ _ (by omega) (hX1.sd (hX1.1.fo q2 (by decide)) (q2.mo (fun o q => Or.inr (Or.inr q))) (fun i _ => by rw [q2.1 86 (by decide)])) (by rw [q2.1 86 (by decide), zI_1, if_pos ⟨rfl, rfl⟩]; rfl) (hX1.1.cp q1) ((zFr.rf.I (P := zB2) (by show 86 ≤ 86; decide)).tr (q2.mo (fun o q => by show 86 ≤ o; omega)))
      · rw [zb_eq, zin01] at c_32
        refine WG.aload_n (pc' := 36) dX6_lots_35 rfl rfl ?_
        refine WG.bipush (v := -2) (pc' := 38) dX6_lots_36 rfl rfl ?_
        refine WG.callVd (c_X6_no 2 (by decide)) m_X6_13 b_X6_no rfl rfl rfl (zrk_of rfl) rfl (Nat.le_of_ble_eq_true rfl) dX6_lots_38 (pc' := 41) rfl ?_
        refine WG.ireturn dX6_lots_41 rfl (by first | rfl | decide) ?_
        exact zrM hX zFr.rf (by decide) ((zes_f c1).trans ((zes_f c2).trans (zes_t c_32)))
    · refine WG.aload_n (pc' := 19) dX6_lots_18 rfl rfl ?_
      refine WG.bipush (v := -6) (pc' := 21) dX6_lots_19 rfl rfl ?_
      refine WG.callVd (c_X6_no 6 (by decide)) m_X6_13 b_X6_no rfl rfl rfl (zrk_of rfl) rfl (Nat.le_of_ble_eq_true rfl) dX6_lots_21 (pc' := 24) rfl ?_
      refine WG.ireturn dX6_lots_24 rfl (by first | rfl | decide) ?_
      exact zrM hX zFr.rf (by decide) ((zes_f (by grind)).trans (zes_t (by grind)))
  · refine WG.aload_n (pc' := 6) dX6_lots_5 rfl rfl ?_
    refine WG.bipush (v := -4) (pc' := 8) dX6_lots_6 rfl rfl ?_
    refine WG.callVd (c_X6_no 4 (by decide)) m_X6_13 b_X6_no rfl rfl rfl (zrk_of rfl) rfl (Nat.le_of_ble_eq_true rfl) dX6_lots_8 (pc' := 11) rfl ?_
    refine WG.ireturn dX6_lots_11 rfl (by first | rfl | decide) ?_
    exact zrM hX zFr.rf (by decide) (zes_t (by grind))
