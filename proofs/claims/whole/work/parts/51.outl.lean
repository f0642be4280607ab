/-! outline, hull -/
theorem ybt : ∀ l, l < 256 → 0 < l → nI l &&& (nI l - 1) = nI (Nat.land l (l - 1)) ∧ Nat.land l (l - 1) < l ∧ zpc (Nat.land l (l - 1)) 8 + 1 = zpc l 8 := by decide +kernel
set_option maxHeartbeats 4000000 in
set_option maxRecDepth 100000 in
theorem c_X6_bits {m : Nat} (hm : m < 256) (h : zH) : K_X6_bits [.int (nI m)] h (zD (some (.int (nI (zpc m 8)))) h) := by
  refine CT.of rfl rfl (Nat.le_of_ble_eq_true rfl) rfl ?_
  have loop : ∀ (q l c : Nat), l < q → l < 256 → c + zpc l 8 = zpc m 8 → W_X6_bits (zD (some (.int (nI (zpc m 8)))) h) 4 [some (.int (nI m)), some (.int (nI c)), some (.int (nI l))] [] h := by
    intro q
    induction q with
    | zero => intro l c h1; omega
    | succ q ih =>
      intro l c h1 h2 h3
      by_cases z : l = 0
      · subst z
        rw [show zpc 0 8 = 0 from rfl, Nat.add_zero] at h3
        subst h3
        refine WG.iload_n (pc' := 5) dX6_bits_4 rfl rfl ?_
        refine WG.if_eq (tgt := 20) (pc' := 8) dX6_bits_5 rfl (by decide) (fun c_5 => ?_) (fun c_5 => ?_)
        · refine WG.iload_n (pc' := 21) dX6_bits_20 rfl rfl ?_
          refine WG.ireturn dX6_bits_21 rfl (by first | rfl | decide) ?_
          exact ⟨rfl, rfl⟩
        · exact absurd rfl c_5
      · have b := ybt l h2 (by omega)
        have fin := ih (Nat.land l (l - 1)) (c + 1) (by omega) (by omega) (by omega)
        rw [← b.1, nI_succ c] at fin
        refine WG.iload_n (pc' := 5) dX6_bits_4 rfl rfl ?_
        refine WG.if_eq (tgt := 20) (pc' := 8) dX6_bits_5 rfl (by decide) (fun c_5 => ?_) (fun c_5 => ?_)
        · exact absurd c_5 (nI_ne0 (by omega) (by omega))
        · refine WG.iinc1 (L' := [_, _, _]) (pc' := 11) dX6_bits_8 rfl rfl (by decide) rfl ?_
          refine WG.iload_n (pc' := 12) dX6_bits_11 rfl rfl ?_
          refine WG.iload_n (pc' := 13) dX6_bits_12 rfl rfl ?_
          refine WG.iconst (v := 1) (pc' := 14) dX6_bits_13 rfl rfl ?_
          refine WG.isub (pc' := 15) dX6_bits_14 rfl ?_
          refine WG.iand (pc' := 16) dX6_bits_15 rfl ?_
          refine WG.istore_n (L' := [_, _, _]) (pc' := 17) dX6_bits_16 rfl (by decide) rfl ?_
          refine WG.goto (tgt := 4) dX6_bits_17 (by decide) ?_
          exact fin
  refine WG.iconst (v := 0) (pc' := 1) dX6_bits_0 rfl rfl ?_
  refine WG.istore_n (L' := [_, _, _]) (pc' := 2) dX6_bits_1 rfl (by decide) rfl ?_
  refine WG.iload_n (pc' := 3) dX6_bits_2 rfl rfl ?_
  refine WG.istore_n (L' := [_, _, _]) (pc' := 4) dX6_bits_3 rfl (by decide) rfl ?_
  exact loop (m + 1) m 0 (by omega) hm (by omega)
section zOutl
variable {n : Nat} {f : zf} {w : Int64} {ux uy px py : Nat → Int64} {h : zH}
set_option maxHeartbeats 4000000 in
set_option maxRecDepth 100000 in
theorem c_X6_nextRound (hG : RG 88 0 n f h) (hL : RCm n w ux uy px py h) (hB : zPB n px py) {m : Nat} (hm : m < 256) (hb : ∀ a, a < n → (m / 2 ^ a % 2 = 1 ↔ yO n px py a)) {c e : Nat} (hc : yO n px py c) (hs : ySc n px py c e) : K_X6_nextRound [.ref 86, .int (nI m), .int (nI c)] h (zD (some (.int (nI e))) h) := by
  have hn := hG.1
  have hcn := hc.1
  have hen := hs.1.1
  refine CT.of rfl rfl (Nat.le_of_ble_eq_true rfl) rfl ?_
  have loop : ∀ (q k : Nat) (F : Int32), k ≤ n → n - k < q → ((k ≤ e ∧ (F = -9 ∨ ∃ X, yO n px py X ∧ X ≠ c ∧ X ≠ e ∧ F = nI X)) ∨ (e < k ∧ F = nI e)) → W_X6_nextRound (zD (some (.int (nI e))) h) 6 [some (.ref 86), some (.int (nI m)), some (.int (nI c)), some (.int F), some (.int (nI k))] [] h := by
    intro q
    induction q with
    | zero => intro k F h1 h2; omega
    | succ q ih =>
      intro k F hk hq hF
      by_cases hlt : k < n
      · have fin := fun F z => ih (k + 1) F (by omega) (by omega) z
        rw [nI_succ] at fin
        have bit := zbt1 m hm k (by omega)
        have keep : (k ≠ e) → ((k + 1 ≤ e ∧ (F = -9 ∨ ∃ X, yO n px py X ∧ X ≠ c ∧ X ≠ e ∧ F = nI X)) ∨ (e < k + 1 ∧ F = nI e)) := by
          intro z
          rcases hF with ⟨a, b⟩ | ⟨a, b⟩
          · exact Or.inl ⟨by omega, b⟩
          · exact Or.inr ⟨by omega, b⟩
        have J1 : ((k + 1 ≤ e ∧ (nI k = -9 ∨ ∃ X, yO n px py X ∧ X ≠ c ∧ X ≠ e ∧ nI k = nI X)) ∨ (e < k + 1 ∧ nI k = nI e)) → W_X6_nextRound (zD (some (.int (nI e))) h) 33 [some (.ref 86), some (.int (nI m)), some (.int (nI c)), some (.int (-9)), some (.int (nI k))] [] h := by
          intro K
          refine WG.iload_n (pc' := 34) dX6_nextRound_33 rfl rfl ?_
          refine WG.bipush (v := -9) (pc' := 36) dX6_nextRound_34 rfl rfl ?_
          refine WG.icmp_eq (tgt := 52) (pc' := 39) dX6_nextRound_36 rfl (by decide) (fun c_36 => ?_) (fun c_36 => ?_)
          · refine WG.iload (pc' := 54) dX6_nextRound_52 rfl rfl ?_
            refine WG.istore_n (L' := [_, _, _, _, _]) (pc' := 55) dX6_nextRound_54 rfl (by decide) rfl ?_
            refine WG.iinc1 (L' := [_, _, _, _, _]) (pc' := 58) dX6_nextRound_55 rfl rfl (by decide) rfl ?_
            refine WG.goto (tgt := 6) dX6_nextRound_58 (by decide) ?_
            exact fin _ K
          · exact absurd rfl c_36
        have J2 : ∀ X, k ≠ c → yO n px py k → yO n px py X → X ≠ c → ((k ≤ e ∧ X ≠ e) ∨ (e < k ∧ X = e)) → nI X ≠ -9 → ((k ≠ e) → ((k + 1 ≤ e ∧ (nI X = -9 ∨ ∃ Y, yO n px py Y ∧ Y ≠ c ∧ Y ≠ e ∧ nI X = nI Y)) ∨ (e < k + 1 ∧ nI X = nI e))) → W_X6_nextRound (zD (some (.int (nI e))) h) 33 [some (.ref 86), some (.int (nI m)), some (.int (nI c)), some (.int (nI X)), some (.int (nI k))] [] h := by
          intro X kc kO hX hXc hXe F9 keepX
          have sg : (zlf px py c X k).toInt = yC px py c X k := (ylf hB hX.1 hlt hcn).2
          refine WG.iload_n (pc' := 34) dX6_nextRound_33 rfl rfl ?_
          refine WG.bipush (v := -9) (pc' := 36) dX6_nextRound_34 rfl rfl ?_
          refine WG.icmp_eq (tgt := 52) (pc' := 39) dX6_nextRound_36 rfl (by decide) (fun c_36 => ?_) (fun c_36 => ?_)
          · exact absurd c_36 F9
          · refine WG.aload_n (pc' := 40) dX6_nextRound_39 rfl rfl ?_
            refine WG.iload_n (pc' := 41) dX6_nextRound_40 rfl rfl ?_
            refine WG.iload_n (pc' := 42) dX6_nextRound_41 rfl rfl ?_
            refine WG.iload (pc' := 44) dX6_nextRound_42 rfl rfl ?_
            refine WG.callVd (c_X6_three hL hcn hX.1 hlt) m_X6_232 b_X6_three rfl rfl rfl (zrk_of rfl) rfl (Nat.le_of_ble_eq_true rfl) dX6_nextRound_44 (pc' := 47) rfl ?_
            refine WG.lconst (v := 0) (pc' := 48) dX6_nextRound_47 rfl rfl ?_
            refine WG.lif_ge (tgt := 55) (pc1 := 49) (pc' := 52) dX6_nextRound_48 rfl dX6_nextRound_49 rfl (by decide) (fun c_49 => ?_) (fun c_49 => ?_)
            · have K := keepX (fun z => by
                subst z
                rcases hXe with ⟨a, b⟩ | ⟨a, b⟩
                · have a1 := yL5 hB hc hs hX hXc b
                  have a2 := yC_a (px := px) (py := py) c k X
                  have a3 := Int64.le_iff_toInt_le.mp c_49
                  rw [yz64] at a3
                  omega
                · omega)
              refine WG.iinc1 (L' := [_, _, _, _, _]) (pc' := 58) dX6_nextRound_55 rfl rfl (by decide) rfl ?_
              refine WG.goto (tgt := 6) dX6_nextRound_58 (by decide) ?_
              exact fin _ K
            · have K : ((k + 1 ≤ e ∧ (nI k = -9 ∨ ∃ X, yO n px py X ∧ X ≠ c ∧ X ≠ e ∧ nI k = nI X)) ∨ (e < k + 1 ∧ nI k = nI e)) := by
                rcases hXe with ⟨a, b⟩ | ⟨a, b⟩
                · by_cases z : k = e
                  · exact Or.inr ⟨by omega, by rw [z]⟩
                  · exact Or.inl ⟨by omega, Or.inr ⟨k, kO, kc, z, rfl⟩⟩
                · exfalso
                  subst b
                  have a1 := yL5 hB hc hs kO kc (by omega)
                  have a3 := mt Int64.le_iff_toInt_le.mpr c_49
                  rw [yz64] at a3
                  omega
              refine WG.iload (pc' := 54) dX6_nextRound_52 rfl rfl ?_
              refine WG.istore_n (L' := [_, _, _, _, _]) (pc' := 55) dX6_nextRound_54 rfl (by decide) rfl ?_
              refine WG.iinc1 (L' := [_, _, _, _, _]) (pc' := 58) dX6_nextRound_55 rfl rfl (by decide) rfl ?_
              refine WG.goto (tgt := 6) dX6_nextRound_58 (by decide) ?_
              exact fin _ K
        refine WG.iload (pc' := 8) dX6_nextRound_6 rfl rfl ?_
        refine WG.aload_n (pc' := 9) dX6_nextRound_8 rfl rfl ?_
        refine WG.callVd (c_X6_many hG) m_X6_63 b_X6_many rfl rfl rfl (zrk_of rfl) rfl (Nat.le_of_ble_eq_true rfl) dX6_nextRound_9 (pc' := 12) rfl ?_
        refine WG.icmp_ge (tgt := 61) (pc' := 15) dX6_nextRound_12 rfl (by decide) (fun c_12 => ?_) (fun c_12 => ?_)
        · exact absurd c_12 (by rw [nI_leI (by omega) (by omega)]; omega)
        · refine WG.iload (pc' := 17) dX6_nextRound_15 rfl rfl ?_
          refine WG.iload_n (pc' := 18) dX6_nextRound_17 rfl rfl ?_
          refine WG.icmp_eq (tgt := 55) (pc' := 21) dX6_nextRound_18 rfl (by decide) (fun c_18 => ?_) (fun c_18 => ?_)
          · have kc : k = c := (nI_eq (by omega) (by omega)).mp c_18
            have K := keep (fun z => hs.2.1 (z.symm.trans kc))
            refine WG.iinc1 (L' := [_, _, _, _, _]) (pc' := 58) dX6_nextRound_55 rfl rfl (by decide) rfl ?_
            refine WG.goto (tgt := 6) dX6_nextRound_58 (by decide) ?_
            exact fin _ K
          · have kc : k ≠ c := mt (nI_eq (a := k) (b := c) (by omega) (by omega)).mpr c_18
            refine WG.iload_n (pc' := 22) dX6_nextRound_21 rfl rfl ?_
            refine WG.iload (pc' := 24) dX6_nextRound_22 rfl rfl ?_
            refine WG.ishr (pc' := 25) dX6_nextRound_24 rfl ?_
            refine WG.iconst (v := 1) (pc' := 26) dX6_nextRound_25 rfl rfl ?_
            refine WG.iand (pc' := 27) dX6_nextRound_26 rfl ?_
            rw [bit]
            refine WG.if_ne (tgt := 33) (pc' := 30) dX6_nextRound_27 rfl (by decide) (fun c_27 => ?_) (fun c_27 => ?_)
            · have kO : yO n px py k := (hb k hlt).mp (by
                rcases (show m / 2 ^ k % 2 = 0 ∨ m / 2 ^ k % 2 = 1 by omega) with z | z
                · rw [z] at c_27; exact absurd rfl c_27
                · exact z)
              by_cases F9 : F = -9
              · subst F9
                have ke : ¬ e < k := fun z => by
                  rcases hF with ⟨a, b⟩ | ⟨a, b⟩
                  · omega
                  · exact absurd b (by intro y; have := nI_pos' (n := e) (by omega); rw [← y] at this; exact absurd this (by decide))
                have K : ((k + 1 ≤ e ∧ (nI k = -9 ∨ ∃ X, yO n px py X ∧ X ≠ c ∧ X ≠ e ∧ nI k = nI X)) ∨ (e < k + 1 ∧ nI k = nI e)) := by
                  by_cases z : k = e
                  · exact Or.inr ⟨by omega, by rw [z]⟩
                  · exact Or.inl ⟨by omega, Or.inr ⟨k, kO, kc, z, rfl⟩⟩
                exact J1 K
              · obtain ⟨X, hX, hXc, rfl, hXe⟩ : ∃ X, yO n px py X ∧ X ≠ c ∧ F = nI X ∧ ((k ≤ e ∧ X ≠ e) ∨ (e < k ∧ X = e)) := by
                  rcases hF with ⟨a, b | ⟨X, b1, b2, b3, b4⟩⟩ | ⟨a, b⟩
                  · exact absurd b F9
                  · exact ⟨X, b1, b2, b4, Or.inl ⟨a, b3⟩⟩
                  · exact ⟨e, hs.1, hs.2.1, b, Or.inr ⟨a, rfl⟩⟩
                exact J2 X kc kO hX hXc hXe F9 keep
            · have K := keep (fun z => by
                have := (hb k hlt).mpr (z ▸ hs.1)
                rw [this] at c_27
                exact absurd c_27 (by decide))
              refine WG.goto (tgt := 55) dX6_nextRound_30 (by decide) ?_
              refine WG.iinc1 (L' := [_, _, _, _, _]) (pc' := 58) dX6_nextRound_55 rfl rfl (by decide) rfl ?_
              refine WG.goto (tgt := 6) dX6_nextRound_58 (by decide) ?_
              exact fin _ K
      · obtain rfl : k = n := by omega
        rcases hF with ⟨a, b⟩ | ⟨a, rfl⟩
        · omega
        · skip
          refine WG.iload (pc' := 8) dX6_nextRound_6 rfl rfl ?_
          refine WG.aload_n (pc' := 9) dX6_nextRound_8 rfl rfl ?_
          refine WG.callVd (c_X6_many hG) m_X6_63 b_X6_many rfl rfl rfl (zrk_of rfl) rfl (Nat.le_of_ble_eq_true rfl) dX6_nextRound_9 (pc' := 12) rfl ?_
          refine WG.icmp_ge (tgt := 61) (pc' := 15) dX6_nextRound_12 rfl (by decide) (fun c_12 => ?_) (fun c_12 => ?_)
          · refine WG.iload_n (pc' := 62) dX6_nextRound_61 rfl rfl ?_
            refine WG.ireturn dX6_nextRound_62 rfl (by first | rfl | decide) ?_
            exact ⟨rfl, rfl⟩
          · exact absurd (by rw [nI_leI (by omega) (by omega)]; omega) c_12
  refine WG.bipush (v := -9) (pc' := 2) dX6_nextRound_0 rfl rfl ?_
  refine WG.istore_n (L' := [_, _, _, _, _]) (pc' := 3) dX6_nextRound_2 rfl (by decide) rfl ?_
  refine WG.iconst (v := 0) (pc' := 4) dX6_nextRound_3 rfl rfl ?_
  refine WG.istore (L' := [_, _, _, _, _]) (pc' := 6) dX6_nextRound_4 rfl (by decide) rfl ?_
  exact loop (n + 1) 0 (-9) (by omega) (by omega) (Or.inl ⟨by omega, Or.inl rfl⟩)
end zOutl
set_option maxHeartbeats 4000000 in
set_option maxRecDepth 100000 in
theorem x_outline {σ : zA} {h : zH} (hX : RX σ h) (p : Int32) : K_X5_outline [.ref 0, .int p] h (zPi RX zB1 h σ (zeAr σ.1.1 σ.1.2 p) (if p = 0 then zob σ.1.1 (zx σ.1.2 σ.1.1 0) (zx σ.1.2 σ.1.1 1) σ.1.1 else zbc (zob σ.1.1 (zx σ.1.2 σ.1.1 0) (zx σ.1.2 σ.1.1 1) σ.1.1)) σ) := by
  refine CT.of rfl rfl (Nat.le_of_ble_eq_true rfl) rfl ?_
  refine WG.iload_n (pc' := 1) dX5_outline_0 rfl rfl ?_
  refine WG.callSd (c_X5_isOneOfTwo h p) m_X5_144 b_X5_isOneOfTwo rfl (zrk_of rfl) rfl (Nat.le_of_ble_eq_true rfl) dX5_outline_1 (pc' := 4) rfl ?_
  refine WG.if_ne (tgt := 14) (pc' := 7) dX5_outline_4 rfl (by decide) (fun c_4 => ?_) (fun c_4 => ?_)
  · rw [zb_ne] at c_4
    refine WG.aload_n (pc' := 15) dX5_outline_14 rfl rfl ?_
    refine WG.getR (r := 69) f_X5_36 (pc' := 18) dX5_outline_15 rfl rfl rfl rfl ?_
    refine WG.aload_n (pc' := 19) dX5_outline_18 rfl rfl ?_
    refine WG.getR (r := 1) f_X5_10 (pc' := 22) dX5_outline_19 rfl rfl rfl rfl ?_
    refine WG.callV (x_settle hX) m_X5_156 b_X0_settle rfl rfl rfl (zrk_of rfl) rfl (Nat.le_of_ble_eq_true rfl) dX5_outline_22 (pc' := 25) rfl (fun r_ h_ q_ => ?_)
    obtain ⟨rfl, hL, hX1, hF1⟩ := q_
    refine WG.if_ne (tgt := 35) (pc' := 28) dX5_outline_25 rfl (by decide) (fun c_25 => ?_) (fun c_25 => ?_)
    · rw [zb_ne] at c_25
      refine WG.aload_n (pc' := 36) dX5_outline_35 rfl rfl ?_
      refine WG.getR (r := 69) f_X5_36 (pc' := 39) dX5_outline_36 rfl rfl rfl rfl ?_
      refine WG.callVd (c_X0_outlineBits hL) m_X5_199 b_X0_outlineBits rfl rfl rfl (zrk_of rfl) rfl (Nat.le_of_ble_eq_true rfl) dX5_outline_39 (pc' := 42) rfl ?_
      refine WG.istore_n (L' := [_, _, _]) (pc' := 43) dX5_outline_42 rfl (by decide) rfl ?_
      refine WG.iload_n (pc' := 44) dX5_outline_43 rfl rfl ?_
      refine WG.if_ne (tgt := 51) (pc' := 47) dX5_outline_44 rfl (by decide) (fun c_44 => ?_) (fun c_44 => ?_)
      · refine WG.iload_n (pc' := 52) dX5_outline_51 rfl rfl ?_
        refine WG.callSd (c_bitCount _ _) m_X5_202 b_J6_bitCount_0f7a4 rfl (zrk_of rfl) rfl (Nat.le_of_ble_eq_true rfl) dX5_outline_52 (pc' := 55) rfl ?_
        refine WG.ireturn dX5_outline_55 rfl (by first | rfl | decide) ?_
        exact zok hX1 hF1 ((zes_n c_4).trans (zes_n c_25)) (by first | rw [if_pos c_44] | rw [if_neg c_44])
      · refine WG.iload_n (pc' := 48) dX5_outline_47 rfl rfl ?_
        refine WG.goto (tgt := 55) dX5_outline_48 (by decide) ?_
        refine WG.ireturn dX5_outline_55 rfl (by first | rfl | decide) ?_
        exact zok hX1 hF1 ((zes_n c_4).trans (zes_n c_25)) (by first | rw [if_pos c_44] | rw [if_neg c_44])
    · rw [zb_eq] at c_25
      refine WG.aload_n (pc' := 29) dX5_outline_28 rfl rfl ?_
      refine WG.bipush (v := -3) (pc' := 31) dX5_outline_29 rfl rfl ?_
      refine WG.callVd (c_X5_refuse 3 (by decide)) m_X5_71 b_X5_refuse rfl rfl rfl (zrk_of rfl) rfl (Nat.le_of_ble_eq_true rfl) dX5_outline_31 (pc' := 34) rfl ?_
      refine WG.ireturn dX5_outline_34 rfl (by first | rfl | decide) ?_
      exact zrX hX1 hF1 (by decide) ((zes_n c_4).trans (zes_t c_25))
  · rw [zb_eq] at c_4
    refine WG.aload_n (pc' := 8) dX5_outline_7 rfl rfl ?_
    refine WG.bipush (v := -2) (pc' := 10) dX5_outline_8 rfl rfl ?_
    refine WG.callVd (c_X5_refuse 2 (by decide)) m_X5_71 b_X5_refuse rfl rfl rfl (zrk_of rfl) rfl (Nat.le_of_ble_eq_true rfl) dX5_outline_10 (pc' := 13) rfl ?_
    refine WG.ireturn dX5_outline_13 rfl (by first | rfl | decide) ?_
    exact zrX hX zFr.rf (by decide) (zes_t c_4)
set_option maxHeartbeats 4000000 in
set_option maxRecDepth 100000 in
theorem m_outline {σ : zA} {h : zH} (hX : RM σ h) (hV : VS σ.1.1 σ.1.2) (p : Int32) : K_X6_outline [.ref 86, .int p] h (zPi RM zB2 h σ (zeAr σ.1.1 σ.1.2 p) (if p = 0 then zob σ.1.1 (zx σ.1.2 σ.1.1 0) (zx σ.1.2 σ.1.1 1) σ.1.1 else zbc (zob σ.1.1 (zx σ.1.2 σ.1.1 0) (zx σ.1.2 σ.1.1 1) σ.1.1)) σ) := by
  have hn := hX.1.1
  have hB := zPB_x hV
  obtain ⟨m, hm, em, -, -, -⟩ := yobS (px := zx σ.1.2 σ.1.1 0) (py := zx σ.1.2 σ.1.1 1) hn
  have em2 : zobm σ.1.1 (zx σ.1.2 σ.1.1 0) (zx σ.1.2 σ.1.1 1) σ.1.1 = nI m := by rw [← em]; exact (yob hB _ (Nat.le_refl _)).symm
  rw [em, zbc8 m hm]
  refine CT.of rfl rfl (Nat.le_of_ble_eq_true rfl) rfl ?_
  refine WG.iload_n (pc' := 1) dX6_outline_0 rfl rfl ?_
  refine WG.i2l (pc' := 2) dX6_outline_1 rfl ?_
  refine WG.lconst (v := 0) (pc' := 3) dX6_outline_2 rfl rfl ?_
  refine WG.lconst (v := 1) (pc' := 4) dX6_outline_3 rfl rfl ?_
  refine WG.callSd (c_X6_in _ _ _ _) m_X6_67 b_X6_in rfl (zrk_of rfl) rfl (Nat.le_of_ble_eq_true rfl) dX6_outline_4 (pc' := 7) rfl ?_
  refine WG.if_ne (tgt := 17) (pc' := 10) dX6_outline_7 rfl (by decide) (fun c_7 => ?_) (fun c_7 => ?_)
  · rw [zb_ne, zin01] at c_7
    refine WG.aload_n (pc' := 18) dX6_outline_17 rfl rfl ?_
    refine WG.callV (m_spreads hX) m_X6_200 b_X6_spreadsAll rfl rfl rfl (zrk_of rfl) rfl (Nat.le_of_ble_eq_true rfl) dX6_outline_18 (pc' := 21) rfl (fun r_ h_ q_ => ?_)
    obtain ⟨rfl, hL, hX1, hF1⟩ := q_
    refine WG.if_ne (tgt := 31) (pc' := 24) dX6_outline_21 rfl (by decide) (fun c_21 => ?_) (fun c_21 => ?_)
    · rw [zb_ne] at c_21
      refine WG.iload_n (pc' := 32) dX6_outline_31 rfl rfl ?_
      refine WG.if_ne (tgt := 42) (pc' := 35) dX6_outline_32 rfl (by decide) (fun c_32 => ?_) (fun c_32 => ?_)
      · refine WG.aload_n (pc' := 43) dX6_outline_42 rfl rfl ?_
        refine WG.callVd (c_X6_outlineBits hX1.1 hL) m_X6_270 b_X6_outlineBits rfl rfl rfl (zrk_of rfl) rfl (Nat.le_of_ble_eq_true rfl) dX6_outline_43 (pc' := 46) rfl ?_
        rw [em2]
        refine WG.callSd (c_X6_bits hm _) m_X6_273 b_X6_bits rfl (zrk_of rfl) rfl (Nat.le_of_ble_eq_true rfl) dX6_outline_46 (pc' := 49) rfl ?_
        first
          | rw [em2]
          | skip
        refine WG.ireturn dX6_outline_49 rfl (by first | rfl | decide) ?_
        exact zok hX1 hF1 ((zes_n c_7).trans (zes_n c_21)) (by first | rw [if_pos c_32] | rw [if_neg c_32])
      · refine WG.aload_n (pc' := 36) dX6_outline_35 rfl rfl ?_
        refine WG.callVd (c_X6_outlineBits hX1.1 hL) m_X6_270 b_X6_outlineBits rfl rfl rfl (zrk_of rfl) rfl (Nat.le_of_ble_eq_true rfl) dX6_outline_36 (pc' := 39) rfl ?_
        refine WG.goto (tgt := 49) dX6_outline_39 (by decide) ?_
        first
          | rw [em2]
          | skip
        refine WG.ireturn dX6_outline_49 rfl (by first | rfl | decide) ?_
        exact zok hX1 hF1 ((zes_n c_7).trans (zes_n c_21)) (by first | rw [if_pos c_32] | rw [if_neg c_32])
    · rw [zb_eq] at c_21
      refine WG.aload_n (pc' := 25) dX6_outline_24 rfl rfl ?_
      refine WG.bipush (v := -3) (pc' := 27) dX6_outline_25 rfl rfl ?_
      refine WG.callVd (c_X6_no 3 (by decide)) m_X6_13 b_X6_no rfl rfl rfl (zrk_of rfl) rfl (Nat.le_of_ble_eq_true rfl) dX6_outline_27 (pc' := 30) rfl ?_
      refine WG.ireturn dX6_outline_30 rfl (by first | rfl | decide) ?_
      exact zrM hX1 hF1 (by decide) ((zes_n c_7).trans (zes_t c_21))
  · rw [zb_eq, zin01] at c_7
    refine WG.aload_n (pc' := 11) dX6_outline_10 rfl rfl ?_
    refine WG.bipush (v := -2) (pc' := 13) dX6_outline_11 rfl rfl ?_
    refine WG.callVd (c_X6_no 2 (by decide)) m_X6_13 b_X6_no rfl rfl rfl (zrk_of rfl) rfl (Nat.le_of_ble_eq_true rfl) dX6_outline_13 (pc' := 16) rfl ?_
    refine WG.ireturn dX6_outline_16 rfl (by first | rfl | decide) ?_
    exact zrM hX zFr.rf (by decide) (zes_t c_7)
set_option maxHeartbeats 4000000 in
set_option maxRecDepth 100000 in
theorem m_hullJ {σ : zA} {h h1 : zH} {p : Int32} {n m c0 : Nat} {px py : Nat → Int64} (en : σ.1.1 = n) (ex : zx σ.1.2 σ.1.1 0 = px) (ey : zx σ.1.2 σ.1.1 1 = py) (hL : RCm σ.1.1 (zWt σ.1.2 σ.1.1) (zu σ.1.2 σ.1.1 0) (zu σ.1.2 σ.1.1 1) (zx σ.1.2 σ.1.1 0) (zx σ.1.2 σ.1.1 1) h1) (hX1 : RM σ h1) (hF1 : zFr zB2 h h1) (hw : 0 < zWt σ.1.2 σ.1.1) (hwb : 0 ≤ (zWt σ.1.2 σ.1.1).toInt ∧ (zWt σ.1.2 σ.1.1).toInt ≤ 2592) (hp : p = 0 ∨ p = 1) (q : Nat) (v8 v7 : Option Value) {sum : Int64} (hs : zho n px py (nI m) n = sum) (hb : 0 ≤ sum.toInt) (hzb : zbd sum) : W_X6_hull (zPl RM zB2 h σ (zeAr σ.1.1 σ.1.2 p) (zfr (zho n px py (nI m) n) (2 * zWt σ.1.2 σ.1.1 * zWt σ.1.2 σ.1.1) p)) 127 [some (.ref 86), some (.int p), some (.int (nI m)), some (.long sum), none, some (.int (nI c0)), some (.int (nI q)), v7, v8] [] h1 := by
  subst hs
  refine WG.aload_n (pc' := 128) dX6_hull_127 rfl rfl ?_
  refine WG.lload_n (pc' := 129) dX6_hull_128 rfl rfl ?_
  refine WG.lconst (v := 0) (pc' := 130) dX6_hull_129 rfl rfl ?_
  refine WG.lif_ge (tgt := 139) (pc1 := 131) (pc' := 134) dX6_hull_130 rfl dX6_hull_131 rfl (by decide) (fun c_131 => ?_) (fun c_131 => ?_)
  · refine WG.lload_n (pc' := 140) dX6_hull_139 rfl rfl ?_
    refine WG.iload_n (pc' := 141) dX6_hull_140 rfl rfl ?_
    refine WG.callVd (c_X6_areaOf hL hwb hw hzb) m_X6_223 b_X6_areaOf rfl rfl rfl (zrk_of rfl) rfl (Nat.le_of_ble_eq_true rfl) dX6_hull_141 (pc' := 144) rfl ?_
    refine WG.lreturn dX6_hull_144 rfl ?_
    exact zokl hX1 hF1 ((zes_n hp).trans (zes_n hw)) rfl
  · exact absurd (Int64.le_iff_toInt_le.mpr (by rw [yz64]; exact hb)) c_131
set_option maxHeartbeats 4000000 in
set_option maxRecDepth 100000 in
theorem m_hullL {σ : zA} {h h1 : zH} {p : Int32} {n m c0 : Nat} {px py : Nat → Int64} (hn : n ≤ 8) (en : σ.1.1 = n) (ex : zx σ.1.2 σ.1.1 0 = px) (ey : zx σ.1.2 σ.1.1 1 = py) (hB : zPB n px py) (hm : m < 256) (hb : ∀ a, a < n → (m / 2 ^ a % 2 = 1 ↔ yO n px py a)) (hzb : ∀ a, a < n → (zbit (nI m) a ↔ yO n px py a)) (hpc : zpc m 8 = yct (yO n px py) n) (h0 : yO n px py c0) (hL : RCm σ.1.1 (zWt σ.1.2 σ.1.1) (zu σ.1.2 σ.1.1 0) (zu σ.1.2 σ.1.1 1) (zx σ.1.2 σ.1.1 0) (zx σ.1.2 σ.1.1 1) h1) (hX1 : RM σ h1) (hF1 : zFr zB2 h h1) (hw : 0 < zWt σ.1.2 σ.1.1) (hwb : 0 ≤ (zWt σ.1.2 σ.1.1).toInt ∧ (zWt σ.1.2 σ.1.1).toInt ≤ 2592) (hp : p = 0 ∨ p = 1) : ∀ (r j q : Nat) (sum : Int64) (v8 : Option Value), r + 2 + j = zpc m 8 → 1 ≤ j → yI n px py (nI m) c0 q sum j → W_X6_hull (zPl RM zB2 h σ (zeAr σ.1.1 σ.1.2 p) (zfr (zho n px py (nI m) n) (2 * zWt σ.1.2 σ.1.1 * zWt σ.1.2 σ.1.1) p)) 63 [some (.ref 86), some (.int p), some (.int (nI m)), some (.long sum), none, some (.int (nI c0)), some (.int (nI q)), some (.int (nI (r + 2))), v8] [] h1 := by
  have J := fun q v8 v7 {sum} => m_hullJ (h := h) (p := p) (n := n) (m := m) (c0 := c0) (px := px) (py := py) en ex ey hL hX1 hF1 hw hwb hp q v8 v7 (sum := sum)
  have hG := hX1.1
  have hL0 := hL
  rw [ex, ey] at hL
  rw [en] at hL hG
  have z8 := zpc_le m 8
  intro r
  induction r with
  | zero =>
    intro j q sum v8 hj h1j hI
    obtain ⟨e, hs, ⟨he, hc, hI2⟩ | ⟨he, hc, -⟩⟩ := yI_s hn hB hzb h0 hI
    · obtain ⟨e2, hs2, ⟨he2, hc2, -⟩ | ⟨he2, hc2, ht⟩⟩ := yI_s hn hB hzb h0 hI2
      · omega
      · have c8 := yct_n (P := yO n px py) n
        have b5 := hI2.2.2.2.2.1
        have b6 := hI2.2.2.2.2.2
        refine WG.iload (pc' := 65) dX6_hull_63 rfl rfl ?_
        refine WG.iconst (v := 2) (pc' := 66) dX6_hull_65 rfl rfl ?_
        refine WG.icmp_le (tgt := 101) (pc' := 69) dX6_hull_66 rfl (by decide) (fun c_66 => ?_) (fun c_66 => ?_)
        · refine WG.iload_n (pc' := 102) dX6_hull_101 rfl rfl ?_
          refine WG.callSd (c_X6_bits hm _) m_X6_273 b_X6_bits rfl (zrk_of rfl) rfl (Nat.le_of_ble_eq_true rfl) dX6_hull_102 (pc' := 105) rfl ?_
          refine WG.iconst (v := 2) (pc' := 106) dX6_hull_105 rfl rfl ?_
          refine WG.icmp_le (tgt := 127) (pc' := 109) dX6_hull_106 rfl (by decide) (fun c_106 => ?_) (fun c_106 => ?_)
          · exact absurd ((nI_leI (b := 2) (by omega) (by omega)).mp c_106) (by omega)
          · refine WG.lload_n (pc' := 110) dX6_hull_109 rfl rfl ?_
            refine WG.aload_n (pc' := 111) dX6_hull_110 rfl rfl ?_
            refine WG.iload (pc' := 113) dX6_hull_111 rfl rfl ?_
            refine WG.iload (pc' := 115) dX6_hull_113 rfl rfl ?_
            refine WG.aload_n (pc' := 116) dX6_hull_115 rfl rfl ?_
            refine WG.iload_n (pc' := 117) dX6_hull_116 rfl rfl ?_
            refine WG.iload (pc' := 119) dX6_hull_117 rfl rfl ?_
            refine WG.callVd (c_X6_nextRound hG hL hB hm hb hI.1 hs) m_X6_276 b_X6_nextRound rfl rfl rfl (zrk_of rfl) rfl (Nat.le_of_ble_eq_true rfl) dX6_hull_119 (pc' := 122) rfl ?_
            refine WG.callVd (c_X6_three hL h0.1 hI.1.1 hs.1.1) m_X6_232 b_X6_three rfl rfl rfl (zrk_of rfl) rfl (Nat.le_of_ble_eq_true rfl) dX6_hull_122 (pc' := 125) rfl ?_
            refine WG.ladd (pc' := 126) dX6_hull_125 rfl ?_
            refine WG.lstore_n (L' := [_, _, _, _, _, _, _, _, _]) (pc' := 127) dX6_hull_126 rfl (by decide) rfl ?_
            exact J q _ _ ht b5 (zbd_of (A := 260715693238122496) (by unfold zl; omega) (by decide))
        · exact absurd (by show nI (0 + 2) ≤ nI 2; rw [nI_leI (by omega) (by omega)]; omega) c_66
    · omega
  | succ r ih =>
    intro j q sum v8 hj h1j hI
    obtain ⟨e, hs, ⟨he, hc, hI2⟩ | ⟨he, hc, -⟩⟩ := yI_s hn hB hzb h0 hI
    · have fin := fun v8 => ih (j + 1) e _ v8 (by omega) (by omega) hI2
      rw [show nI (r + 2) = nI (r + 1 + 2) + -1 from (pk_m1 (r + 2)).symm] at fin
      refine WG.iload (pc' := 65) dX6_hull_63 rfl rfl ?_
      refine WG.iconst (v := 2) (pc' := 66) dX6_hull_65 rfl rfl ?_
      refine WG.icmp_le (tgt := 101) (pc' := 69) dX6_hull_66 rfl (by decide) (fun c_66 => ?_) (fun c_66 => ?_)
      · exact absurd ((nI_leI (a := r + 1 + 2) (b := 2) (by omega) (by omega)).mp c_66) (by omega)
      · refine WG.aload_n (pc' := 70) dX6_hull_69 rfl rfl ?_
        refine WG.iload_n (pc' := 71) dX6_hull_70 rfl rfl ?_
        refine WG.iload (pc' := 73) dX6_hull_71 rfl rfl ?_
        refine WG.callVd (c_X6_nextRound hG hL hB hm hb hI.1 hs) m_X6_276 b_X6_nextRound rfl rfl rfl (zrk_of rfl) rfl (Nat.le_of_ble_eq_true rfl) dX6_hull_73 (pc' := 76) rfl ?_
        refine WG.istore (L' := [_, _, _, _, _, _, _, _, _]) (pc' := 78) dX6_hull_76 rfl (by decide) rfl ?_
        refine WG.lload_n (pc' := 79) dX6_hull_78 rfl rfl ?_
        refine WG.aload_n (pc' := 80) dX6_hull_79 rfl rfl ?_
        refine WG.iload (pc' := 82) dX6_hull_80 rfl rfl ?_
        refine WG.iload (pc' := 84) dX6_hull_82 rfl rfl ?_
        refine WG.iload (pc' := 86) dX6_hull_84 rfl rfl ?_
        refine WG.callVd (c_X6_three hL h0.1 hI.1.1 hs.1.1) m_X6_232 b_X6_three rfl rfl rfl (zrk_of rfl) rfl (Nat.le_of_ble_eq_true rfl) dX6_hull_86 (pc' := 89) rfl ?_
        refine WG.ladd (pc' := 90) dX6_hull_89 rfl ?_
        refine WG.lstore_n (L' := [_, _, _, _, _, _, _, _, _]) (pc' := 91) dX6_hull_90 rfl (by decide) rfl ?_
        refine WG.iload (pc' := 93) dX6_hull_91 rfl rfl ?_
        refine WG.istore (L' := [_, _, _, _, _, _, _, _, _]) (pc' := 95) dX6_hull_93 rfl (by decide) rfl ?_
        refine WG.iincM (L' := [_, _, _, _, _, _, _, _, _]) (pc' := 98) dX6_hull_95 rfl rfl (by decide) rfl ?_
        refine WG.goto (tgt := 63) dX6_hull_98 (by decide) ?_
        exact fin _
    · omega
set_option maxHeartbeats 4000000 in
set_option maxRecDepth 100000 in
theorem m_hull {σ : zA} {h : zH} (hX : RM σ h) (hV : VS σ.1.1 σ.1.2) (p : Int32) : K_X6_hull [.ref 86, .int p] h (zPl RM zB2 h σ (zeAr σ.1.1 σ.1.2 p) (zfr (zho σ.1.1 (zx σ.1.2 σ.1.1 0) (zx σ.1.2 σ.1.1 1) (zob σ.1.1 (zx σ.1.2 σ.1.1 0) (zx σ.1.2 σ.1.1 1) σ.1.1) σ.1.1) (2 * zWt σ.1.2 σ.1.1 * zWt σ.1.2 σ.1.1) p)) := by
  have hn := hX.1.1
  have hB := zPB_x hV
  have hwb := zWt_b hV
  obtain ⟨m, hm, em, hb, hzb, hpc⟩ := yobS (px := zx σ.1.2 σ.1.1 0) (py := zx σ.1.2 σ.1.1 1) hn
  have em2 : zobm σ.1.1 (zx σ.1.2 σ.1.1 0) (zx σ.1.2 σ.1.1 1) σ.1.1 = nI m := by rw [← em]; exact (yob hB _ (Nat.le_refl _)).symm
  rw [em]
  have z8 := zpc_le m 8
  have hn0 : 0 < zWt σ.1.2 σ.1.1 → 0 < σ.1.1 := fun z => by
    rcases (show σ.1.1 = 0 ∨ 0 < σ.1.1 by omega) with q | q
    · exfalso
      rw [q] at z
      exact absurd z (by show ¬ (0 : Int64) < (0 : Int32).toInt64; decide)
    · exact q
  refine CT.of rfl rfl (Nat.le_of_ble_eq_true rfl) rfl ?_
  have J : ∀ (h1 : zH) (v3 v4 v5 v6 v7 v8 : Option Value), RCm σ.1.1 (zWt σ.1.2 σ.1.1) (zu σ.1.2 σ.1.1 0) (zu σ.1.2 σ.1.1 1) (zx σ.1.2 σ.1.1 0) (zx σ.1.2 σ.1.1 1) h1 → RM σ h1 → zFr zB2 h h1 → 0 < zWt σ.1.2 σ.1.1 → (p = 0 ∨ p = 1) → W_X6_hull (zPl RM zB2 h σ (zeAr σ.1.1 σ.1.2 p) (zfr (zho σ.1.1 (zx σ.1.2 σ.1.1 0) (zx σ.1.2 σ.1.1 1) (nI m) σ.1.1) (2 * zWt σ.1.2 σ.1.1 * zWt σ.1.2 σ.1.1) p)) 33 [some (.ref 86), some (.int p), some (.int (nI m)), v3, v4, v5, v6, v7, v8] [] h1 := by
    intro h1 v3 v4 v5 v6 v7 v8 hL hX1 hF1 hw hp
    obtain ⟨cx, hcx⟩ := yO_ex hB (hn0 hw)
    obtain ⟨c0, -, h0, hmin⟩ := yleast (P := yO σ.1.1 (zx σ.1.2 σ.1.1 0) (zx σ.1.2 σ.1.1 1)) (cx + 1) cx (by omega) hcx
    have hc0 := h0.1
    have J53 : ∀ (v6 v7 v8 : Option Value), W_X6_hull (zPl RM zB2 h σ (zeAr σ.1.1 σ.1.2 p) (zfr (zho σ.1.1 (zx σ.1.2 σ.1.1 0) (zx σ.1.2 σ.1.1 1) (nI m) σ.1.1) (2 * zWt σ.1.2 σ.1.1 * zWt σ.1.2 σ.1.1) p)) 53 [some (.ref 86), some (.int p), some (.int (nI m)), some (.long 0), none, some (.int (nI c0)), v6, v7, v8] [] h1 := by
      intro v6 v7 v8
      by_cases c2 : zpc m 8 ≤ 2
      · have t0 := yzo_2 hn hB hzb (by rw [← hpc]; exact c2)
        have fin := fun v8 v7 => m_hullJ (h := h) (p := p) (m := m) (c0 := c0) rfl rfl rfl hL hX1 hF1 hw hwb hp c0 v8 v7 t0 (by rw [yz64]; omega) (zbd_of (A := 0) (by unfold zl; decide) (by decide))
        refine WG.iload (pc' := 55) dX6_hull_53 rfl rfl ?_
        refine WG.istore (L' := [_, _, _, _, _, _, _, _, _]) (pc' := 57) dX6_hull_55 rfl (by decide) rfl ?_
        refine WG.iload_n (pc' := 58) dX6_hull_57 rfl rfl ?_
        refine WG.callSd (c_X6_bits hm _) m_X6_273 b_X6_bits rfl (zrk_of rfl) rfl (Nat.le_of_ble_eq_true rfl) dX6_hull_58 (pc' := 61) rfl ?_
        refine WG.istore (L' := [_, _, _, _, _, _, _, _, _]) (pc' := 63) dX6_hull_61 rfl (by decide) rfl ?_
        refine WG.iload (pc' := 65) dX6_hull_63 rfl rfl ?_
        refine WG.iconst (v := 2) (pc' := 66) dX6_hull_65 rfl rfl ?_
        refine WG.icmp_le (tgt := 101) (pc' := 69) dX6_hull_66 rfl (by decide) (fun c_66 => ?_) (fun c_66 => ?_)
        · refine WG.iload_n (pc' := 102) dX6_hull_101 rfl rfl ?_
          refine WG.callSd (c_X6_bits hm _) m_X6_273 b_X6_bits rfl (zrk_of rfl) rfl (Nat.le_of_ble_eq_true rfl) dX6_hull_102 (pc' := 105) rfl ?_
          refine WG.iconst (v := 2) (pc' := 106) dX6_hull_105 rfl rfl ?_
          refine WG.icmp_le (tgt := 127) (pc' := 109) dX6_hull_106 rfl (by decide) (fun c_106 => ?_) (fun c_106 => ?_)
          · exact fin _ _
          · exact absurd (by show nI (zpc m 8) ≤ nI 2; rw [nI_leI (by omega) (by omega)]; exact c2) c_106
        · exact absurd (by show nI (zpc m 8) ≤ nI 2; rw [nI_leI (by omega) (by omega)]; exact c2) c_66
      · obtain ⟨k, hk, hk0⟩ := y2 (by omega) h0
        obtain ⟨e, hs⟩ := yL3 hB h0 hk hk0
        have hI := yI_1 hB hzb h0 hs
        obtain ⟨r, hr⟩ : ∃ r, zpc m 8 = r + 2 + 1 := ⟨zpc m 8 - 3, by omega⟩
        have fin := fun v8 => m_hullL (h := h) (p := p) hn rfl rfl rfl hB hm hb hzb hpc h0 hL hX1 hF1 hw hwb hp r 1 e 0 v8 (by omega) (Nat.le_refl _) hI
        rw [show nI (r + 2) = nI (zpc m 8) + -1 by rw [hr]; exact (pk_m1 (r + 2)).symm, show (0 : Int64) = 0 + zlf (zx σ.1.2 σ.1.1 0) (zx σ.1.2 σ.1.1 1) c0 c0 e by unfold zlf; grind] at fin
        have J63 : ∀ (v8 : Option Value), W_X6_hull (zPl RM zB2 h σ (zeAr σ.1.1 σ.1.2 p) (zfr (zho σ.1.1 (zx σ.1.2 σ.1.1 0) (zx σ.1.2 σ.1.1 1) (nI m) σ.1.1) (2 * zWt σ.1.2 σ.1.1 * zWt σ.1.2 σ.1.1) p)) 63 [some (.ref 86), some (.int p), some (.int (nI m)), some (.long 0), none, some (.int (nI c0)), some (.int (nI c0)), some (.int (nI (zpc m 8))), v8] [] h1 := by
          intro v8
          refine WG.iload (pc' := 65) dX6_hull_63 rfl rfl ?_
          refine WG.iconst (v := 2) (pc' := 66) dX6_hull_65 rfl rfl ?_
          refine WG.icmp_le (tgt := 101) (pc' := 69) dX6_hull_66 rfl (by decide) (fun c_66 => ?_) (fun c_66 => ?_)
          · exact absurd ((nI_leI (b := 2) (by omega) (by omega)).mp c_66) (by omega)
          · refine WG.aload_n (pc' := 70) dX6_hull_69 rfl rfl ?_
            refine WG.iload_n (pc' := 71) dX6_hull_70 rfl rfl ?_
            refine WG.iload (pc' := 73) dX6_hull_71 rfl rfl ?_
            refine WG.callVd (c_X6_nextRound hX1.1 hL hB hm hb h0 hs) m_X6_276 b_X6_nextRound rfl rfl rfl (zrk_of rfl) rfl (Nat.le_of_ble_eq_true rfl) dX6_hull_73 (pc' := 76) rfl ?_
            refine WG.istore (L' := [_, _, _, _, _, _, _, _, _]) (pc' := 78) dX6_hull_76 rfl (by decide) rfl ?_
            refine WG.lload_n (pc' := 79) dX6_hull_78 rfl rfl ?_
            refine WG.aload_n (pc' := 80) dX6_hull_79 rfl rfl ?_
            refine WG.iload (pc' := 82) dX6_hull_80 rfl rfl ?_
            refine WG.iload (pc' := 84) dX6_hull_82 rfl rfl ?_
            refine WG.iload (pc' := 86) dX6_hull_84 rfl rfl ?_
            refine WG.callVd (c_X6_three hL hc0 hc0 hs.1.1) m_X6_232 b_X6_three rfl rfl rfl (zrk_of rfl) rfl (Nat.le_of_ble_eq_true rfl) dX6_hull_86 (pc' := 89) rfl ?_
            refine WG.ladd (pc' := 90) dX6_hull_89 rfl ?_
            refine WG.lstore_n (L' := [_, _, _, _, _, _, _, _, _]) (pc' := 91) dX6_hull_90 rfl (by decide) rfl ?_
            refine WG.iload (pc' := 93) dX6_hull_91 rfl rfl ?_
            refine WG.istore (L' := [_, _, _, _, _, _, _, _, _]) (pc' := 95) dX6_hull_93 rfl (by decide) rfl ?_
            refine WG.iincM (L' := [_, _, _, _, _, _, _, _, _]) (pc' := 98) dX6_hull_95 rfl rfl (by decide) rfl ?_
            refine WG.goto (tgt := 63) dX6_hull_98 (by decide) ?_
            exact fin _
        refine WG.iload (pc' := 55) dX6_hull_53 rfl rfl ?_
        refine WG.istore (L' := [_, _, _, _, _, _, _, _, _]) (pc' := 57) dX6_hull_55 rfl (by decide) rfl ?_
        refine WG.iload_n (pc' := 58) dX6_hull_57 rfl rfl ?_
        refine WG.callSd (c_X6_bits hm _) m_X6_273 b_X6_bits rfl (zrk_of rfl) rfl (Nat.le_of_ble_eq_true rfl) dX6_hull_58 (pc' := 61) rfl ?_
        refine WG.istore (L' := [_, _, _, _, _, _, _, _, _]) (pc' := 63) dX6_hull_61 rfl (by decide) rfl ?_
        exact J63 _
    have loop : ∀ (q k : Nat) (v6 v7 v8 : Option Value), k + q = c0 → W_X6_hull (zPl RM zB2 h σ (zeAr σ.1.1 σ.1.2 p) (zfr (zho σ.1.1 (zx σ.1.2 σ.1.1 0) (zx σ.1.2 σ.1.1 1) (nI m) σ.1.1) (2 * zWt σ.1.2 σ.1.1 * zWt σ.1.2 σ.1.1) p)) 38 [some (.ref 86), some (.int p), some (.int (nI m)), some (.long 0), none, some (.int (nI k)), v6, v7, v8] [] h1 := by
      intro q
      induction q with
      | zero =>
        intro k v6 v7 v8 hk
        obtain rfl : k = c0 := by omega
        have bit := zbt1 m hm k (by omega)
        rw [(hb k hc0).mpr h0] at bit
        refine WG.iload_n (pc' := 39) dX6_hull_38 rfl rfl ?_
        refine WG.iload (pc' := 41) dX6_hull_39 rfl rfl ?_
        refine WG.ishr (pc' := 42) dX6_hull_41 rfl ?_
        refine WG.iconst (v := 1) (pc' := 43) dX6_hull_42 rfl rfl ?_
        refine WG.iand (pc' := 44) dX6_hull_43 rfl ?_
        rw [bit]
        refine WG.if_ne (tgt := 53) (pc' := 47) dX6_hull_44 rfl (by decide) (fun c_44 => ?_) (fun c_44 => ?_)
        · exact J53 _ _ _
        · exact absurd c_44 (by decide)
      | succ q ih =>
        intro k v6 v7 v8 hk
        have bit := zbt1 m hm k (by omega)
        rw [show m / 2 ^ k % 2 = 0 by have := mt (hb k (by omega)).mp (hmin k (by omega)); omega] at bit
        have fin := ih (k + 1) v6 v7 v8 (by omega)
        rw [nI_succ] at fin
        refine WG.iload_n (pc' := 39) dX6_hull_38 rfl rfl ?_
        refine WG.iload (pc' := 41) dX6_hull_39 rfl rfl ?_
        refine WG.ishr (pc' := 42) dX6_hull_41 rfl ?_
        refine WG.iconst (v := 1) (pc' := 43) dX6_hull_42 rfl rfl ?_
        refine WG.iand (pc' := 44) dX6_hull_43 rfl ?_
        rw [bit]
        refine WG.if_ne (tgt := 53) (pc' := 47) dX6_hull_44 rfl (by decide) (fun c_44 => ?_) (fun c_44 => ?_)
        · exact absurd rfl c_44
        · refine WG.iinc1 (L' := [_, _, _, _, _, _, _, _, _]) (pc' := 50) dX6_hull_47 rfl rfl (by decide) rfl ?_
          refine WG.goto (tgt := 38) dX6_hull_50 (by decide) ?_
          exact fin
    refine WG.lconst (v := 0) (pc' := 34) dX6_hull_33 rfl rfl ?_
    refine WG.lstore_n (L' := [_, _, _, _, _, _, _, _, _]) (pc' := 35) dX6_hull_34 rfl (by decide) rfl ?_
    refine WG.iconst (v := 0) (pc' := 36) dX6_hull_35 rfl rfl ?_
    refine WG.istore (L' := [_, _, _, _, _, _, _, _, _]) (pc' := 38) dX6_hull_36 rfl (by decide) rfl ?_
    exact loop c0 0 _ _ _ (by omega)
  refine WG.iload_n (pc' := 1) dX6_hull_0 rfl rfl ?_
  refine WG.callSd (c_X6_isPart h p) m_X6_197 b_X6_isPart rfl (zrk_of rfl) rfl (Nat.le_of_ble_eq_true rfl) dX6_hull_1 (pc' := 4) rfl ?_
  refine WG.if_ne (tgt := 14) (pc' := 7) dX6_hull_4 rfl (by decide) (fun c_4 => ?_) (fun c_4 => ?_)
  · rw [zb_ne] at c_4
    refine WG.aload_n (pc' := 15) dX6_hull_14 rfl rfl ?_
    refine WG.callV (m_spreads hX) m_X6_200 b_X6_spreadsAll rfl rfl rfl (zrk_of rfl) rfl (Nat.le_of_ble_eq_true rfl) dX6_hull_15 (pc' := 18) rfl (fun r_ h_ q_ => ?_)
    obtain ⟨rfl, hL, hX1, hF1⟩ := q_
    refine WG.if_ne (tgt := 28) (pc' := 21) dX6_hull_18 rfl (by decide) (fun c_18 => ?_) (fun c_18 => ?_)
    · rw [zb_ne] at c_18
      refine WG.aload_n (pc' := 29) dX6_hull_28 rfl rfl ?_
      refine WG.callVd (c_X6_outlineBits hX1.1 hL) m_X6_270 b_X6_outlineBits rfl rfl rfl (zrk_of rfl) rfl (Nat.le_of_ble_eq_true rfl) dX6_hull_29 (pc' := 32) rfl ?_
      rw [em2]
      refine WG.istore_n (L' := [_, _, _, _, _, _, _, _, _]) (pc' := 33) dX6_hull_32 rfl (by decide) rfl ?_
      exact J _ _ _ _ _ _ _ hL hX1 hF1 c_18 c_4
    · rw [zb_eq] at c_18
      refine WG.aload_n (pc' := 22) dX6_hull_21 rfl rfl ?_
      refine WG.bipush (v := -3) (pc' := 24) dX6_hull_22 rfl rfl ?_
      refine WG.callVd (c_X6_far 3 (by decide)) m_X6_177 b_X6_far rfl rfl rfl (zrk_of rfl) rfl (Nat.le_of_ble_eq_true rfl) dX6_hull_24 (pc' := 27) rfl ?_
      refine WG.lreturn dX6_hull_27 rfl ?_
      exact zrMl hX1 hF1 (by decide) ((zes_n c_4).trans (zes_t c_18))
  · rw [zb_eq] at c_4
    refine WG.aload_n (pc' := 8) dX6_hull_7 rfl rfl ?_
    refine WG.bipush (v := -2) (pc' := 10) dX6_hull_8 rfl rfl ?_
    refine WG.callVd (c_X6_far 2 (by decide)) m_X6_177 b_X6_far rfl rfl rfl (zrk_of rfl) rfl (Nat.le_of_ble_eq_true rfl) dX6_hull_10 (pc' := 13) rfl ?_
    refine WG.lreturn dX6_hull_13 rfl ?_
    exact zrMl hX zFr.rf (by decide) (zes_t c_4)
