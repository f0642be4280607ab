/-! lots -/
def zqz (n : Nat) (z : Int32) : Nat → Int32
  | 0 => z
  | r + 1 => zz (zqz n z r) n
def zqf (f : zf) (n : Nat) (z : Int32) : Nat → zf
  | 0 => f
  | r + 1 => zlot (zqf f n z r) (zqz n z r)
noncomputable def zqa (f : zf) (n : Nat) (z : Int32) : Nat → Int32
  | 0 => 0
  | r + 1 => if 0 < zWt (zqf f n z (r + 1)) n ∧ zmo n (zx (zqf f n z (r + 1)) n 0) (zx (zqf f n z (r + 1)) n 1) n = 0 then zqa f n z r + 1 else zqa f n z r
def zqb (f : zf) (n : Nat) (z : Int32) : Nat → Int32
  | 0 => 0
  | r + 1 => zqb f n z r + zm0 (zqf f n z (r + 1)) n
theorem zqa_t {f : zf} {n : Nat} {z : Int32} {r : Nat} (h1 : 0 < zWt (zqf f n z (r + 1)) n) (h2 : zmo n (zx (zqf f n z (r + 1)) n 0) (zx (zqf f n z (r + 1)) n 1) n = 0) : zqa f n z (r + 1) = zqa f n z r + 1 := if_pos ⟨h1, h2⟩
theorem zqa_f {f : zf} {n : Nat} {z : Int32} {r : Nat} (h : ¬ (0 < zWt (zqf f n z (r + 1)) n ∧ zmo n (zx (zqf f n z (r + 1)) n 0) (zx (zqf f n z (r + 1)) n 1) n = 0)) : zqa f n z (r + 1) = zqa f n z r := if_neg h
noncomputable def zeLt (m w : Int32) : Int32 := zes [(m < 1, -4), (20 < m, -6), (¬ (w = 0 ∨ w = 1), -2)]
theorem z120 {m : Int32} (h1 : ¬ m < 1) (h2 : ¬ 20 < m) : ∃ k, 0 < k ∧ k ≤ 20 ∧ m = nI k := by
  have e : nI 21 = 21 := rfl
  obtain ⟨j, hj, rfl⟩ := zsd_of (m := 21) (by decide) (show zsd 21 m from ⟨by grind, by rw [e]; grind⟩)
  have h3 := mt (nI_ltI (a := j) (b := 1) (by omega) (by omega)).mpr h1
  exact ⟨j, by omega, by omega, rfl⟩
set_option maxHeartbeats 4000000 in
set_option maxRecDepth 100000 in
theorem x_lotsL {σ : zA} {h : zH} {e z w : Int32} {M : Nat} (hM : M ≤ 20) (he : e = 0) : ∀ (m r : Nat) (h1 : zH), r + m = M → RX σ h1 → RS 7 σ.1.1 (zqf σ.1.2 σ.1.1 z r) h1 → zFr zB1 h h1 → W_X5_lots (zPi RX zB1 h σ e (if w = 0 then zqa σ.1.2 σ.1.1 z M else zqb σ.1.2 σ.1.1 z M) σ) 62 [some (.ref 0), some (.int (nI M)), some (.int z), some (.int w), some (.int (zqz σ.1.1 z r)), some (.int (zqa σ.1.2 σ.1.1 z r)), some (.int (zqb σ.1.2 σ.1.1 z r)), some (.int (nI r))] [] h1 := by
  intro m
  induction m with
  | zero =>
    intro r h1 hr hX1 hD hF
    obtain rfl : r = M := by omega
    refine WG.iload (pc' := 64) dX5_lots_62 rfl rfl ?_
    refine WG.iload_n (pc' := 65) dX5_lots_64 rfl rfl ?_
    refine WG.icmp_ge (tgt := 131) (pc' := 68) dX5_lots_65 rfl (by decide) (fun c_65 => ?_) (fun c_65 => ?_)
    · refine WG.iload_n (pc' := 132) dX5_lots_131 rfl rfl ?_
      refine WG.if_ne (tgt := 140) (pc' := 135) dX5_lots_132 rfl (by decide) (fun c_132 => ?_) (fun c_132 => ?_)
      · refine WG.iload (pc' := 142) dX5_lots_140 rfl rfl ?_
        refine WG.ireturn dX5_lots_142 rfl (by first | rfl | decide) ?_
        first
          | exact zok hX1 hF he (by rw [if_pos c_132])
          | exact zok hX1 hF he (by rw [if_neg c_132])
      · refine WG.iload (pc' := 137) dX5_lots_135 rfl rfl ?_
        refine WG.goto (tgt := 142) dX5_lots_137 (by decide) ?_
        refine WG.ireturn dX5_lots_142 rfl (by first | rfl | decide) ?_
        first
          | exact zok hX1 hF he (by rw [if_pos c_132])
          | exact zok hX1 hF he (by rw [if_neg c_132])
    · exact absurd (by rw [nI_leI (by omega) (by omega)]; omega) c_65
  | succ m ih =>
    intro r h1 hr hX1 hD hF
    have hn := hD.2.1
    refine WG.iload (pc' := 64) dX5_lots_62 rfl rfl ?_
    refine WG.iload_n (pc' := 65) dX5_lots_64 rfl rfl ?_
    refine WG.icmp_ge (tgt := 131) (pc' := 68) dX5_lots_65 rfl (by decide) (fun c_65 => ?_) (fun c_65 => ?_)
    · exact absurd c_65 (by rw [nI_leI (by omega) (by omega)]; omega)
    · refine WG.aload_n (pc' := 69) dX5_lots_68 rfl rfl ?_
      refine WG.getR (r := 7) f_X5_16 (pc' := 72) dX5_lots_69 rfl rfl rfl rfl ?_
      refine WG.iload (pc' := 74) dX5_lots_72 rfl rfl ?_
      refine WG.callV (c_X4_drawTimes hD) m_X5_242 b_X4_drawTimes rfl rfl rfl (zrk_of rfl) rfl (Nat.le_of_ble_eq_true rfl) dX5_lots_74 (pc' := 77) rfl (fun r_ h_ q_ => ?_)
      obtain ⟨rfl, hD2, hF2⟩ := q_
      have hX2 := hX1.fo hF2 (fun o q => Or.inl ⟨q.1, by have := q.2; omega⟩)
      have hG2 := hF.tr (hF2.mo (fun o q => by obtain ⟨q1, q2⟩ := q; show o < 86; omega))
      refine WG.istore (L' := [_, _, _, _, _, _, _, _]) (pc' := 79) dX5_lots_77 rfl (by decide) rfl ?_
      refine WG.iload (pc' := 81) dX5_lots_79 rfl rfl ?_
      refine WG.aload_n (pc' := 82) dX5_lots_81 rfl rfl ?_
      refine WG.getR (r := 7) f_X5_16 (pc' := 85) dX5_lots_82 rfl rfl rfl rfl ?_
      refine WG.aload_n (pc' := 86) dX5_lots_85 rfl rfl ?_
      refine WG.getR (r := 7) f_X5_16 (pc' := 89) dX5_lots_86 rfl rfl rfl rfl ?_
      refine WG.callVd (c_X4_all hD2) m_X5_147 b_X4_all rfl rfl rfl (zrk_of rfl) rfl (Nat.le_of_ble_eq_true rfl) dX5_lots_89 (pc' := 92) rfl ?_
      refine WG.callVd (c_X4_missing hD2 _) m_X5_219 b_X4_missing rfl rfl rfl (zrk_of rfl) rfl (Nat.le_of_ble_eq_true rfl) dX5_lots_92 (pc' := 95) rfl ?_
      rw [zmg_all hn]
      refine WG.iadd (pc' := 96) dX5_lots_95 rfl ?_
      refine WG.istore (L' := [_, _, _, _, _, _, _, _]) (pc' := 98) dX5_lots_96 rfl (by decide) rfl ?_
      refine WG.aload_n (pc' := 99) dX5_lots_98 rfl rfl ?_
      refine WG.getR (r := 69) f_X5_36 (pc' := 102) dX5_lots_99 rfl rfl rfl rfl ?_
      refine WG.aload_n (pc' := 103) dX5_lots_102 rfl rfl ?_
      refine WG.getR (r := 7) f_X5_16 (pc' := 106) dX5_lots_103 rfl rfl rfl rfl ?_
      refine WG.callV (c_X0_settle hD2) m_X5_156 b_X0_settle rfl rfl rfl (zrk_of rfl) rfl (Nat.le_of_ble_eq_true rfl) dX5_lots_106 (pc' := 109) rfl (fun r_ h_ q_ => ?_)
      obtain ⟨rfl, hL, hF3⟩ := q_
      have hD3 := hD2.fo hF3 (fun o q => by obtain ⟨q1, q2⟩ := q; omega)
      have hX3 := hX2.fo hF3 (fun o q => Or.inr (Or.inl ⟨q.1, by have := q.2; omega⟩))
      have hG3 := hG2.tr (hF3.mo (fun o q => by obtain ⟨q1, q2⟩ := q; show o < 86; omega))
      have fin := ih (r + 1) h_ (by omega) hX3 hD3 hG3
      rw [nI_succ] at fin
      refine WG.if_eq (tgt := 125) (pc' := 112) dX5_lots_109 rfl (by decide) (fun c_109 => ?_) (fun c_109 => ?_)
      · have c109 : ¬ 0 < zWt (zqf σ.1.2 σ.1.1 z (r + 1)) σ.1.1 := fun q => absurd c_109 (by rw [if_pos (show 0 < zWt (zlot (zqf σ.1.2 σ.1.1 z r) (zqz σ.1.1 z r)) σ.1.1 from q)]; decide)
        rw [zqa_f (fun q => c109 q.1)] at fin
        refine WG.iinc1 (L' := [_, _, _, _, _, _, _, _]) (pc' := 128) dX5_lots_125 rfl rfl (by decide) rfl ?_
        refine WG.goto (tgt := 62) dX5_lots_128 (by decide) ?_
        exact fin
      · have c109 : 0 < zWt (zqf σ.1.2 σ.1.1 z (r + 1)) σ.1.1 := Classical.byContradiction (fun q => c_109 (if_neg q))
        refine WG.aload_n (pc' := 113) dX5_lots_112 rfl rfl ?_
        refine WG.getR (r := 69) f_X5_36 (pc' := 116) dX5_lots_113 rfl rfl rfl rfl ?_
        refine WG.callVd (c_X0_meetings hL) m_X5_196 b_X0_meetings rfl rfl rfl (zrk_of rfl) rfl (Nat.le_of_ble_eq_true rfl) dX5_lots_116 (pc' := 119) rfl ?_
        refine WG.if_ne (tgt := 125) (pc' := 122) dX5_lots_119 rfl (by decide) (fun c_119 => ?_) (fun c_119 => ?_)
        · rw [zqa_f (fun q => c_119 q.2)] at fin
          refine WG.iinc1 (L' := [_, _, _, _, _, _, _, _]) (pc' := 128) dX5_lots_125 rfl rfl (by decide) rfl ?_
          refine WG.goto (tgt := 62) dX5_lots_128 (by decide) ?_
          exact fin
        · rw [zqa_t c109 c_119] at fin
          refine WG.iinc1 (L' := [_, _, _, _, _, _, _, _]) (pc' := 125) dX5_lots_122 rfl rfl (by decide) rfl ?_
          refine WG.iinc1 (L' := [_, _, _, _, _, _, _, _]) (pc' := 128) dX5_lots_125 rfl rfl (by decide) rfl ?_
          refine WG.goto (tgt := 62) dX5_lots_128 (by decide) ?_
          exact fin
set_option maxHeartbeats 4000000 in
set_option maxRecDepth 100000 in
theorem x_lots {σ : zA} {h : zH} (hX : RX σ h) (m z w : Int32) : K_X5_lots [.ref 0, .int m, .int z, .int w] h (zPi RX zB1 h σ (zeLt m w) (if w = 0 then zqa σ.1.2 σ.1.1 z m.toNatClampNeg else zqb σ.1.2 σ.1.1 z m.toNatClampNeg) σ) := by
  have hS := hX.1
  refine CT.of rfl rfl (Nat.le_of_ble_eq_true rfl) rfl ?_
  refine WG.iload_n (pc' := 1) dX5_lots_0 rfl rfl ?_
  refine WG.iconst (v := 1) (pc' := 2) dX5_lots_1 rfl rfl ?_
  refine WG.icmp_ge (tgt := 12) (pc' := 5) dX5_lots_2 rfl (by decide) (fun c_2 => ?_) (fun c_2 => ?_)
  · refine WG.iload_n (pc' := 13) dX5_lots_12 rfl rfl ?_
    refine WG.bipush (v := 20) (pc' := 15) dX5_lots_13 rfl rfl ?_
    refine WG.icmp_le (tgt := 25) (pc' := 18) dX5_lots_15 rfl (by decide) (fun c_15 => ?_) (fun c_15 => ?_)
    · have c1 : ¬ m < 1 := by grind
      have c2 : ¬ 20 < m := by grind
      refine WG.iload_n (pc' := 26) dX5_lots_25 rfl rfl ?_
      refine WG.callSd (c_X5_isOneOfTwo h w) m_X5_144 b_X5_isOneOfTwo rfl (zrk_of rfl) rfl (Nat.le_of_ble_eq_true rfl) dX5_lots_26 (pc' := 29) rfl ?_
      refine WG.if_ne (tgt := 39) (pc' := 32) dX5_lots_29 rfl (by decide) (fun c_29 => ?_) (fun c_29 => ?_)
      · rw [zb_ne] at c_29
        have he : zeLt m w = 0 := (zes_f c1).trans ((zes_f c2).trans (zes_n c_29))
        obtain ⟨M, hM0, hM, rfl⟩ := z120 c1 c2
        rw [nI_clamp (show M < 2 ^ 31 by omega)]
        refine WG.aload_n (pc' := 40) dX5_lots_39 rfl rfl ?_
        refine WG.getR (r := 7) f_X5_16 (pc' := 43) dX5_lots_40 rfl rfl rfl rfl ?_
        refine WG.aload_n (pc' := 44) dX5_lots_43 rfl rfl ?_
        refine WG.getR (r := 1) f_X5_10 (pc' := 47) dX5_lots_44 rfl rfl rfl rfl ?_
        refine WG.callV (c_X4_become (k := 7) isS_7 hS (by decide)) m_X5_75 b_X4_become rfl rfl rfl (zrk_of rfl) rfl (Nat.le_of_ble_eq_true rfl) dX5_lots_47 (pc' := 50) rfl (fun r_ h_ q_ => ?_)
        obtain ⟨rfl, hD2, hF2⟩ := q_
        have hX2 := hX.fo hF2 (fun o q => Or.inl ⟨q.1, by have := q.2; omega⟩)
        refine WG.iload_n (pc' := 51) dX5_lots_50 rfl rfl ?_
        refine WG.istore (L' := [_, _, _, _, _, _, _, _]) (pc' := 53) dX5_lots_51 rfl (by decide) rfl ?_
        refine WG.iconst (v := 0) (pc' := 54) dX5_lots_53 rfl rfl ?_
        refine WG.istore (L' := [_, _, _, _, _, _, _, _]) (pc' := 56) dX5_lots_54 rfl (by decide) rfl ?_
        refine WG.iconst (v := 0) (pc' := 57) dX5_lots_56 rfl rfl ?_
        refine WG.istore (L' := [_, _, _, _, _, _, _, _]) (pc' := 59) dX5_lots_57 rfl (by decide) rfl ?_
        refine WG.iconst (v := 0) (pc' := 60) dX5_lots_59 rfl rfl ?_
        refine WG.istore (L' := [_, _, _, _, _, _, _, _]) (pc' := 62) dX5_lots_60 rfl (by decide) rfl ?_
        exact x_lotsL hM he M 0 _ (by omega) hX2 hD2 (hF2.mo (fun o q => by obtain ⟨q1, q2⟩ := q; show o < 86; omega))
      · rw [zb_eq] at c_29
        refine WG.aload_n (pc' := 33) dX5_lots_32 rfl rfl ?_
        refine WG.bipush (v := -2) (pc' := 35) dX5_lots_33 rfl rfl ?_
        refine WG.callVd (c_X5_refuse 2 (by decide)) m_X5_71 b_X5_refuse rfl rfl rfl (zrk_of rfl) rfl (Nat.le_of_ble_eq_true rfl) dX5_lots_35 (pc' := 38) rfl ?_
        refine WG.ireturn dX5_lots_38 rfl (by first | rfl | decide) ?_
        exact zrX hX zFr.rf (by decide) ((zes_f c1).trans ((zes_f c2).trans (zes_t c_29)))
    · refine WG.aload_n (pc' := 19) dX5_lots_18 rfl rfl ?_
      refine WG.bipush (v := -6) (pc' := 21) dX5_lots_19 rfl rfl ?_
      refine WG.callVd (c_X5_refuse 6 (by decide)) m_X5_71 b_X5_refuse rfl rfl rfl (zrk_of rfl) rfl (Nat.le_of_ble_eq_true rfl) dX5_lots_21 (pc' := 24) rfl ?_
      refine WG.ireturn dX5_lots_24 rfl (by first | rfl | decide) ?_
      exact zrX hX zFr.rf (by decide) ((zes_f (by grind)).trans (zes_t (by grind)))
  · refine WG.aload_n (pc' := 6) dX5_lots_5 rfl rfl ?_
    refine WG.bipush (v := -4) (pc' := 8) dX5_lots_6 rfl rfl ?_
    refine WG.callVd (c_X5_refuse 4 (by decide)) m_X5_71 b_X5_refuse rfl rfl rfl (zrk_of rfl) rfl (Nat.le_of_ble_eq_true rfl) dX5_lots_8 (pc' := 11) rfl ?_
    refine WG.ireturn dX5_lots_11 rfl (by first | rfl | decide) ?_
    exact zrX hX zFr.rf (by decide) (zes_t (by grind))
