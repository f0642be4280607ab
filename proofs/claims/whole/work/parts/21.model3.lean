/-! the reference: corners -/
theorem zbits8 : ∀ n, n < 9 → ∀ i, i < n → ((zall n >>> (nI i &&& 31)) &&& 1) = 1 := by decide +kernel
theorem zms_all {f : zf} {a n : Nat} (hn : n ≤ 8) : zms f a (zall n) n = zmf f a n := by
  unfold zms zmf
  refine zsum_eq n (fun i hi => ?_)
  rw [zbits8 n (by omega) i hi, Int32.one_mul]
def RCm (n : Nat) (w : Int64) (ux uy px py : Nat → Int64) (h : zH) : Prop := n ≤ 8 ∧ h.2 86 12 = w ∧ (∀ i, i < n → h.2 94 (2 * i) = ux i ∧ h.2 94 (2 * i + 1) = uy i) ∧ ∀ i, i ≤ n → h.2 95 (2 * i) = px i ∧ h.2 95 (2 * i + 1) = py i
theorem RCm.fo {n : Nat} {w : Int64} {ux uy px py : Nat → Int64} {P : Nat → Prop} {h h' : zH} (hL : RCm n w ux uy px py h) (hf : zFr P h h') (h1 : ¬ P 86) (h2 : ¬ P 94) (h3 : ¬ P 95) : RCm n w ux uy px py h' := by
  obtain ⟨a, b, c, d⟩ := hL
  exact ⟨a, by rw [hf.2 86 h1]; exact b, by rw [hf.2 94 h2]; exact c, by rw [hf.2 95 h3]; exact d⟩
theorem zi2 (i j : Nat) : (2 : Int32) * nI i + nI j = nI (2 * i + j) := by rw [show (2 : Int32) = nI 2 from rfl, pk_mul, nI_add]
theorem zi2' (i : Nat) : (2 : Int32) * nI i = nI (2 * i) := pk_mul 2 i
set_option maxHeartbeats 4000000 in
set_option maxRecDepth 100000 in
theorem c_X6_spreadsAll {h : zH} {n : Nat} {f : zf} (hG : RG 88 0 n f h) : K_X6_spreadsAll [.ref 86] h (fun r h' => r = some (.int (zb (0 < zWt f n))) ∧ RCm n (zWt f n) (zu f n 0) (zu f n 1) (zx f n 0) (zx f n 1) h' ∧ h'.1 = h.1 ∧ (∀ o, o ≠ 86 ∧ o ≠ 94 ∧ o ≠ 95 → h'.2 o = h.2 o) ∧ ∀ i, i ≠ 12 → h'.2 86 i = h.2 86 i) := by
  have hn := hG.1
  refine CT.of rfl rfl (Nat.le_of_ble_eq_true rfl) rfl ?_
  have hGG : ∀ h1 : zH, h1.1 = h.1 → RG 88 0 n f h1 := fun h1 e => ⟨hG.1, by rw [e]; exact hG.2.1, by rw [e]; exact hG.2.2⟩
  have zue : ∀ s a, s < n → a < 2 → (zsp f s a).toInt64 * zWt f n - (zmf f a n).toInt64 * (zw f s).toInt64 = zu f n a s := fun s a _ _ => by unfold zu zME; rw [zms_all hn]
  have loop : ∀ (m s : Nat) (h1 : zH) (v3 : Option Value), s ≤ n → n - s < m → h1.1 = h.1 → h1.2 86 12 = zWt f n → (∀ i, i < s → h1.2 94 (2 * i) = zu f n 0 i ∧ h1.2 94 (2 * i + 1) = zu f n 1 i) → (∀ i, i ≤ s → h1.2 95 (2 * i) = zx f n 0 i ∧ h1.2 95 (2 * i + 1) = zx f n 1 i) → (∀ o, o ≠ 86 ∧ o ≠ 94 ∧ o ≠ 95 → h1.2 o = h.2 o) → (∀ i, i ≠ 12 → h1.2 86 i = h.2 86 i) →
      W_X6_spreadsAll (fun r h' => r = some (.int (zb (0 < zWt f n))) ∧ RCm n (zWt f n) (zu f n 0) (zu f n 1) (zx f n 0) (zx f n 1) h' ∧ h'.1 = h.1 ∧ (∀ o, o ≠ 86 ∧ o ≠ 94 ∧ o ≠ 95 → h'.2 o = h.2 o) ∧ ∀ i, i ≠ 12 → h'.2 86 i = h.2 86 i) 24 [some (.ref 86), some (.ref 95), some (.int (nI s)), v3] [] h1 := by
    intro m
    induction m with
    | zero => intro s h1 v3 a b; omega
    | succ m ih =>
      intro s h1 v3 hs hm e1 gw g0 g1 go g6
      have J2 : ∀ (h2 : zH), s < n → h2.1 = h.1 → h2.2 86 12 = zWt f n → (∀ i, i < s + 1 → h2.2 94 (2 * i) = zu f n 0 i ∧ h2.2 94 (2 * i + 1) = zu f n 1 i) → (∀ i, i ≤ s + 1 → h2.2 95 (2 * i) = zx f n 0 i ∧ h2.2 95 (2 * i + 1) = zx f n 1 i) → (∀ o, o ≠ 86 ∧ o ≠ 94 ∧ o ≠ 95 → h2.2 o = h.2 o) → (∀ i, i ≠ 12 → h2.2 86 i = h.2 86 i) →
          W_X6_spreadsAll (fun r h' => r = some (.int (zb (0 < zWt f n))) ∧ RCm n (zWt f n) (zu f n 0) (zu f n 1) (zx f n 0) (zx f n 1) h' ∧ h'.1 = h.1 ∧ (∀ o, o ≠ 86 ∧ o ≠ 94 ∧ o ≠ 95 → h'.2 o = h.2 o) ∧ ∀ i, i ≠ 12 → h'.2 86 i = h.2 86 i) 34 [some (.ref 86), some (.ref 95), some (.int (nI s)), some (.int (nI 2))] [] h2 := by
        intro h2 hlt k1 kw k0 kc ko k6
        refine WG.iload_n (pc' := 35) dX6_spreadsAll_34 rfl rfl ?_
        refine WG.iconst (v := 2) (pc' := 36) dX6_spreadsAll_35 rfl rfl ?_
        refine WG.icmp_ge (tgt := 108) (pc' := 39) dX6_spreadsAll_36 rfl (by decide) (fun c_36 => ?_) (fun c_36 => ?_)
        · refine WG.iinc1 (L' := [_, _, _, _]) (pc' := 111) dX6_spreadsAll_108 rfl rfl (by decide) rfl ?_
          refine WG.goto (tgt := 24) dX6_spreadsAll_111 (by decide) ?_
          rw [nI_1]
          exact ih (s + 1) _ _ hlt (by omega) k1 kw k0 kc ko k6
        · exact absurd (by decide) c_36
      have J : ∀ (a : Nat) (h2 : zH), a < 2 → s < n → h2.1 = h.1 → h2.2 86 12 = zWt f n → (∀ i, i < s → h2.2 94 (2 * i) = zu f n 0 i ∧ h2.2 94 (2 * i + 1) = zu f n 1 i) → (∀ b, b < a → h2.2 94 (2 * s + b) = zu f n b s) → (∀ i, i ≤ s → h2.2 95 (2 * i) = zx f n 0 i ∧ h2.2 95 (2 * i + 1) = zx f n 1 i) → (∀ b, b < a → h2.2 95 (2 * s + 2 + b) = zx f n b (s + 1)) → (∀ o, o ≠ 86 ∧ o ≠ 94 ∧ o ≠ 95 → h2.2 o = h.2 o) → (∀ i, i ≠ 12 → h2.2 86 i = h.2 86 i) →
          (∀ h3 : zH, h3.1 = h.1 → h3.2 86 12 = zWt f n → (∀ i, i < s → h3.2 94 (2 * i) = zu f n 0 i ∧ h3.2 94 (2 * i + 1) = zu f n 1 i) → (∀ b, b < a + 1 → h3.2 94 (2 * s + b) = zu f n b s) → (∀ i, i ≤ s → h3.2 95 (2 * i) = zx f n 0 i ∧ h3.2 95 (2 * i + 1) = zx f n 1 i) → (∀ b, b < a + 1 → h3.2 95 (2 * s + 2 + b) = zx f n b (s + 1)) → (∀ o, o ≠ 86 ∧ o ≠ 94 ∧ o ≠ 95 → h3.2 o = h.2 o) → (∀ i, i ≠ 12 → h3.2 86 i = h.2 86 i) → W_X6_spreadsAll (fun r h' => r = some (.int (zb (0 < zWt f n))) ∧ RCm n (zWt f n) (zu f n 0) (zu f n 1) (zx f n 0) (zx f n 1) h' ∧ h'.1 = h.1 ∧ (∀ o, o ≠ 86 ∧ o ≠ 94 ∧ o ≠ 95 → h'.2 o = h.2 o) ∧ ∀ i, i ≠ 12 → h'.2 86 i = h.2 86 i) 34 [some (.ref 86), some (.ref 95), some (.int (nI s)), some (.int (nI (a + 1)))] [] h3) →
          W_X6_spreadsAll (fun r h' => r = some (.int (zb (0 < zWt f n))) ∧ RCm n (zWt f n) (zu f n 0) (zu f n 1) (zx f n 0) (zx f n 1) h' ∧ h'.1 = h.1 ∧ (∀ o, o ≠ 86 ∧ o ≠ 94 ∧ o ≠ 95 → h'.2 o = h.2 o) ∧ ∀ i, i ≠ 12 → h'.2 86 i = h.2 86 i) 34 [some (.ref 86), some (.ref 95), some (.int (nI s)), some (.int (nI a))] [] h2 := by
        intro a h2 ha hlt k1 kw k0 kb kc kd ko k6 kk
        have hxa : h2.2 95 (2 * s + a) = zx f n a s := by
          rcases (show a = 0 ∨ a = 1 by omega) with rfl | rfl
          · exact (kc s (by omega)).1
          · exact (kc s (by omega)).2
        refine WG.iload_n (pc' := 35) dX6_spreadsAll_34 rfl rfl ?_
        refine WG.iconst (v := 2) (pc' := 36) dX6_spreadsAll_35 rfl rfl ?_
        refine WG.icmp_ge (tgt := 108) (pc' := 39) dX6_spreadsAll_36 rfl (by decide) (fun c_36 => ?_) (fun c_36 => ?_)
        · exact absurd ((nI_leI (a := 2) (b := a) (by omega) (by omega)).mp c_36) (by omega)
        · refine WG.aload_n (pc' := 40) dX6_spreadsAll_39 rfl rfl ?_
          refine WG.getR (r := 94) f_X6_41 (pc' := 43) dX6_spreadsAll_40 rfl rfl rfl rfl ?_
          refine WG.iconst (v := 2) (pc' := 44) dX6_spreadsAll_43 rfl rfl ?_
          refine WG.iload_n (pc' := 45) dX6_spreadsAll_44 rfl rfl ?_
          refine WG.imul (pc' := 46) dX6_spreadsAll_45 rfl ?_
          refine WG.iload_n (pc' := 47) dX6_spreadsAll_46 rfl rfl ?_
          refine WG.iadd (pc' := 48) dX6_spreadsAll_47 rfl ?_
          refine WG.aload_n (pc' := 49) dX6_spreadsAll_48 rfl rfl ?_
          refine WG.iload_n (pc' := 50) dX6_spreadsAll_49 rfl rfl ?_
          refine WG.iload_n (pc' := 51) dX6_spreadsAll_50 rfl rfl ?_
          refine WG.callVd (c_X6_step (hGG _ k1) hlt ha) m_X6_93 b_X6_step rfl rfl rfl (zrk_of rfl) rfl (Nat.le_of_ble_eq_true rfl) dX6_spreadsAll_51 (pc' := 54) rfl ?_
          refine WG.i2l (pc' := 55) dX6_spreadsAll_54 rfl ?_
          refine WG.aload_n (pc' := 56) dX6_spreadsAll_55 rfl rfl ?_
          refine WG.getL f_X6_193 (pc' := 59) dX6_spreadsAll_56 rfl rfl rfl ?_
          refine WG.lmul (pc' := 60) dX6_spreadsAll_59 rfl ?_
          refine WG.aload_n (pc' := 61) dX6_spreadsAll_60 rfl rfl ?_
          refine WG.iload_n (pc' := 62) dX6_spreadsAll_61 rfl rfl ?_
          refine WG.callVd (c_X6_missOf (hGG _ k1) ha) m_X6_181 b_X6_missOf rfl rfl rfl (zrk_of rfl) rfl (Nat.le_of_ble_eq_true rfl) dX6_spreadsAll_62 (pc' := 65) rfl ?_
          refine WG.i2l (pc' := 66) dX6_spreadsAll_65 rfl ?_
          refine WG.aload_n (pc' := 67) dX6_spreadsAll_66 rfl rfl ?_
          refine WG.iload_n (pc' := 68) dX6_spreadsAll_67 rfl rfl ?_
          refine WG.callVd (c_X6_weight (hGG _ k1) hlt) m_X6_96 b_X6_weight rfl rfl rfl (zrk_of rfl) rfl (Nat.le_of_ble_eq_true rfl) dX6_spreadsAll_68 (pc' := 71) rfl ?_
          refine WG.i2l (pc' := 72) dX6_spreadsAll_71 rfl ?_
          refine WG.lmul (pc' := 73) dX6_spreadsAll_72 rfl ?_
          refine WG.lsub (pc' := 74) dX6_spreadsAll_73 rfl ?_
          rw [kw, zue s a hlt ha]
          refine WG.lastoreN (j := 2 * s + a) (pc' := 75) dX6_spreadsAll_74 rfl rfl (zi2 s a) (by omega) (by first | decide | omega) ?_
          refine WG.aload_n (pc' := 76) dX6_spreadsAll_75 rfl rfl ?_
          refine WG.iconst (v := 2) (pc' := 77) dX6_spreadsAll_76 rfl rfl ?_
          refine WG.iload_n (pc' := 78) dX6_spreadsAll_77 rfl rfl ?_
          refine WG.imul (pc' := 79) dX6_spreadsAll_78 rfl ?_
          refine WG.iconst (v := 2) (pc' := 80) dX6_spreadsAll_79 rfl rfl ?_
          refine WG.iadd (pc' := 81) dX6_spreadsAll_80 rfl ?_
          refine WG.iload_n (pc' := 82) dX6_spreadsAll_81 rfl rfl ?_
          refine WG.iadd (pc' := 83) dX6_spreadsAll_82 rfl ?_
          refine WG.aload_n (pc' := 84) dX6_spreadsAll_83 rfl rfl ?_
          refine WG.iconst (v := 2) (pc' := 85) dX6_spreadsAll_84 rfl rfl ?_
          refine WG.iload_n (pc' := 86) dX6_spreadsAll_85 rfl rfl ?_
          refine WG.imul (pc' := 87) dX6_spreadsAll_86 rfl ?_
          refine WG.iload_n (pc' := 88) dX6_spreadsAll_87 rfl rfl ?_
          refine WG.iadd (pc' := 89) dX6_spreadsAll_88 rfl ?_
          refine WG.laloadN (j := 2 * s + a) (pc' := 90) dX6_spreadsAll_89 rfl rfl (zi2 s a) (by omega) (by first | decide | omega) ?_
          refine WG.aload_n (pc' := 91) dX6_spreadsAll_90 rfl rfl ?_
          refine WG.getR (r := 94) f_X6_41 (pc' := 94) dX6_spreadsAll_91 rfl rfl rfl rfl ?_
          refine WG.iconst (v := 2) (pc' := 95) dX6_spreadsAll_94 rfl rfl ?_
          refine WG.iload_n (pc' := 96) dX6_spreadsAll_95 rfl rfl ?_
          refine WG.imul (pc' := 97) dX6_spreadsAll_96 rfl ?_
          refine WG.iload_n (pc' := 98) dX6_spreadsAll_97 rfl rfl ?_
          refine WG.iadd (pc' := 99) dX6_spreadsAll_98 rfl ?_
          refine WG.laloadN (j := 2 * s + a) (pc' := 100) dX6_spreadsAll_99 rfl rfl (zi2 s a) (by omega) (by first | decide | omega) ?_
          refine WG.ladd (pc' := 101) dX6_spreadsAll_100 rfl ?_
          rw [zL_2, if_neg (by omega), zL_2, if_pos ⟨rfl, rfl⟩, hxa, show zx f n a s + zu f n a s = zx f n a (s + 1) from rfl]
          refine WG.lastoreN (j := 2 * s + 2 + a) (pc' := 102) dX6_spreadsAll_101 rfl rfl (by rw [zi2', show nI (2 * s) + 2 = nI (2 * s + 2) from nI_add _ 2, nI_add]) (by omega) (by first | decide | omega) ?_
          refine WG.iinc1 (L' := [_, _, _, _]) (pc' := 105) dX6_spreadsAll_102 rfl rfl (by decide) rfl ?_
          refine WG.goto (tgt := 34) dX6_spreadsAll_105 (by decide) ?_
          rw [nI_1]
          refine kk _ k1 (by rw [zL_2, if_neg (by omega), zL_2, if_neg (by omega)]; exact kw) (fun i hi => ?_) (fun b hb => ?_) (fun i hi => ?_) (fun b hb => ?_) (fun o ho => ?_) (fun i hi => ?_)
          · refine ⟨?_, ?_⟩
            · rw [zL_2, if_neg (by omega), zL_2, if_neg (by omega)]; exact (k0 i hi).1
            · rw [zL_2, if_neg (by omega), zL_2, if_neg (by omega)]; exact (k0 i hi).2
          · rw [zL_2, if_neg (by omega), zL_2]
            by_cases c : b = a
            · rw [if_pos ⟨rfl, by omega⟩, c]
            · rw [if_neg (by omega)]; exact kb b (by omega)
          · refine ⟨?_, ?_⟩
            · rw [zL_2, if_neg (by omega), zL_2, if_neg (by omega)]; exact (kc i hi).1
            · rw [zL_2, if_neg (by omega), zL_2, if_neg (by omega)]; exact (kc i hi).2
          · rw [zL_2]
            by_cases c : b = a
            · rw [if_pos ⟨rfl, by omega⟩, c]
            · rw [if_neg (by omega), zL_2, if_neg (by omega)]; exact kd b (by omega)
          · rw [(zL_o (by omega)).2, (zL_o (by omega)).2]; exact ko o ho
          · rw [zL_2, if_neg (by omega), zL_2, if_neg (by omega)]; exact k6 i hi
      refine WG.iload_n (pc' := 25) dX6_spreadsAll_24 rfl rfl ?_
      refine WG.aload_n (pc' := 26) dX6_spreadsAll_25 rfl rfl ?_
      refine WG.callVd (c_X6_many (hGG _ e1)) m_X6_63 b_X6_many rfl rfl rfl (zrk_of rfl) rfl (Nat.le_of_ble_eq_true rfl) dX6_spreadsAll_26 (pc' := 29) rfl ?_
      refine WG.icmp_ge (tgt := 114) (pc' := 32) dX6_spreadsAll_29 rfl (by decide) (fun c_29 => ?_) (fun c_29 => ?_)
      · obtain rfl : s = n := by have := (nI_leI (by omega) (by omega)).mp c_29; omega
        refine WG.aload_n (pc' := 115) dX6_spreadsAll_114 rfl rfl ?_
        refine WG.getL f_X6_193 (pc' := 118) dX6_spreadsAll_115 rfl rfl rfl ?_
        rw [gw]
        refine WG.lconst (v := 0) (pc' := 119) dX6_spreadsAll_118 rfl rfl ?_
        refine WG.lif_le (tgt := 127) (pc1 := 120) (pc' := 123) dX6_spreadsAll_119 rfl dX6_spreadsAll_120 rfl (by decide) (fun c_120 => ?_) (fun c_120 => ?_)
        · refine WG.iconst (v := 0) (pc' := 128) dX6_spreadsAll_127 rfl rfl ?_
          refine WG.ireturn dX6_spreadsAll_128 rfl (by first | rfl | decide) ?_
          exact ⟨by first | rw [zb_t (by assumption)] | rw [zb_f (by clear ih J J2; grind)] | rw [zb_t (by clear ih J J2; grind)], ⟨by omega, gw, g0, g1⟩, e1, go, g6⟩
        · refine WG.iconst (v := 1) (pc' := 124) dX6_spreadsAll_123 rfl rfl ?_
          refine WG.goto (tgt := 128) dX6_spreadsAll_124 (by decide) ?_
          refine WG.ireturn dX6_spreadsAll_128 rfl (by first | rfl | decide) ?_
          exact ⟨by first | rw [zb_t (by assumption)] | rw [zb_f (by clear ih J J2; grind)] | rw [zb_t (by clear ih J J2; grind)], ⟨by omega, gw, g0, g1⟩, e1, go, g6⟩
      · have hlt : s < n := by have := mt (nI_leI (a := n) (b := s) (by omega) (by omega)).mpr c_29; omega
        refine WG.iconst (v := 0) (pc' := 33) dX6_spreadsAll_32 rfl rfl ?_
        refine WG.istore_n (L' := [_, _, _, _]) (pc' := 34) dX6_spreadsAll_33 rfl (by decide) rfl ?_
        exact J 0 h1 (by omega) hlt e1 gw g0 (fun b hb => by omega) g1 (fun b hb => by omega) go g6 (fun h3 q1 q2 q3 q4 q5 q6 q7 q8 => J 1 h3 (by omega) hlt q1 q2 q3 q4 q5 q6 q7 q8 (fun h4 p1 p2 p3 p4 p5 p6 p7 p8 => J2 h4 hlt p1 p2 (fun i hi => by
          rcases (show i < s ∨ i = s by omega) with z | rfl
          · exact p3 i z
          · exact ⟨p4 0 (by omega), p4 1 (by omega)⟩) (fun i hi => by
          rcases (show i ≤ s ∨ i = s + 1 by omega) with z | rfl
          · exact p5 i z
          · exact ⟨p6 0 (by omega), p6 1 (by omega)⟩) p7 p8))
  refine WG.aload_n (pc' := 1) dX6_spreadsAll_0 rfl rfl ?_
  refine WG.aload_n (pc' := 2) dX6_spreadsAll_1 rfl rfl ?_
  refine WG.callVd (c_X6_allWeights hG) m_X6_190 b_X6_allWeights rfl rfl rfl (zrk_of rfl) rfl (Nat.le_of_ble_eq_true rfl) dX6_spreadsAll_2 (pc' := 5) rfl ?_
  refine WG.i2l (pc' := 6) dX6_spreadsAll_5 rfl ?_
  refine WG.putL p_X6_193 (pc' := 9) dX6_spreadsAll_6 rfl rfl rfl rfl rfl ?_
  refine WG.aload_n (pc' := 10) dX6_spreadsAll_9 rfl rfl ?_
  refine WG.getR (r := 95) f_X6_45 (pc' := 13) dX6_spreadsAll_10 rfl rfl rfl rfl ?_
  refine WG.astore_n (L' := [_, _, _, _]) (pc' := 14) dX6_spreadsAll_13 rfl (by decide) rfl ?_
  refine WG.aload_n (pc' := 15) dX6_spreadsAll_14 rfl rfl ?_
  refine WG.iconst (v := 0) (pc' := 16) dX6_spreadsAll_15 rfl rfl ?_
  refine WG.lconst (v := 0) (pc' := 17) dX6_spreadsAll_16 rfl rfl ?_
  refine WG.lastoreN (j := 0) (pc' := 18) dX6_spreadsAll_17 rfl rfl rfl (by omega) (by first | decide | omega) ?_
  refine WG.aload_n (pc' := 19) dX6_spreadsAll_18 rfl rfl ?_
  refine WG.iconst (v := 1) (pc' := 20) dX6_spreadsAll_19 rfl rfl ?_
  refine WG.lconst (v := 0) (pc' := 21) dX6_spreadsAll_20 rfl rfl ?_
  refine WG.lastoreN (j := 1) (pc' := 22) dX6_spreadsAll_21 rfl rfl rfl (by omega) (by first | decide | omega) ?_
  refine WG.iconst (v := 0) (pc' := 23) dX6_spreadsAll_22 rfl rfl ?_
  refine WG.istore_n (L' := [_, _, _, _]) (pc' := 24) dX6_spreadsAll_23 rfl (by decide) rfl ?_
  refine loop (n + 1) 0 _ _ (by omega) (by omega) rfl ?_ (fun i hi => by omega) (fun i hi => ?_) (fun o ho => ?_) (fun i hi => ?_)
  · rw [zL_2, if_neg (by omega), zL_2, if_neg (by omega), zL_2, if_pos ⟨rfl, rfl⟩]; rfl
  · obtain rfl : i = 0 := by omega
    refine ⟨?_, ?_⟩
    · rw [zL_2, if_neg (by omega), zL_2, if_pos ⟨rfl, by omega⟩]; rfl
    · rw [zL_2, if_pos ⟨rfl, by omega⟩]; rfl
  · rw [(zL_o (by omega)).2, (zL_o (by omega)).2, (zL_o (by omega)).2]
  · rw [zL_2, if_neg (by omega), zL_2, if_neg (by omega), zL_2, if_neg (by omega)]
