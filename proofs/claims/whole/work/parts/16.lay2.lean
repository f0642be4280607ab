def zuN (x : Int64) : Nat := x.toUInt64.toNat
theorem zuN_inj {x y : Int64} (h : zuN x = zuN y) : x = y := congrArg UInt64.toInt64 (UInt64.toNat_inj.mp h)
theorem zuN_int (x : Int64) : x.toInt = if 2 * zuN x < 18446744073709551616 then (zuN x : Int) else (zuN x : Int) - 18446744073709551616 := BitVec.toInt_eq_toNat_cond _
theorem zuN_s63 (x : Int64) : zuN (x.toUInt64 >>> ((63 : Int32).toInt64.toUInt64 &&& Int64.toUInt64 63)).toInt64 = zuN x / 9223372036854775808 := by
  have h : ((63 : Int32).toInt64.toUInt64 &&& Int64.toUInt64 63).toNat % 64 = 63 := by decide
  show (x.toUInt64 >>> _).toNat = _
  rw [UInt64.toNat_shiftRight, Nat.shiftRight_eq_div_pow, h]
  rfl
theorem zushr63 (x : Int64) : (x.toUInt64 >>> ((63 : Int32).toInt64.toUInt64 &&& Int64.toUInt64 63)).toInt64 = if x < 0 then 1 else 0 := by
  apply zuN_inj
  rw [zuN_s63]
  have hi := zuN_int x
  have hl : zuN x < 18446744073709551616 := x.toUInt64.toNat_lt
  by_cases c : x < 0
  · have c1 := Int64.lt_iff_toInt_lt.mp c
    rw [if_pos c]
    rw [show zuN 1 = 1 from by decide]
    have : (0 : Int64).toInt = 0 := by decide
    split at hi <;> omega
  · have c1 := mt Int64.lt_iff_toInt_lt.mpr c
    rw [if_neg c]
    rw [show zuN 0 = 0 from by decide]
    have : (0 : Int64).toInt = 0 := by decide
    split at hi <;> omega
theorem zshr63 (x : Int64) : x >>> ((63 : Int32).toInt64 &&& 63) = if x < 0 then -1 else 0 := by
  apply Int64.toInt_inj.mp
  have e : (x >>> ((63 : Int32).toInt64 &&& 63)).toInt = x.toInt >>> 63 := by
    show (x.toBitVec.sshiftRight (((63 : Int32).toInt64 &&& 63).toBitVec.smod 64).toNat).toInt = _
    rw [show (((63 : Int32).toInt64 &&& 63).toBitVec.smod 64).toNat = 63 by decide, BitVec.toInt_sshiftRight]
    rfl
  rw [e, Int.shiftRight_eq_div_pow]
  have h1 := x.toInt_lt
  have h2 := x.le_toInt
  have z : (0 : Int64).toInt = 0 := by decide
  by_cases c : x < 0
  · have c1 := Int64.lt_iff_toInt_lt.mp c
    rw [if_pos c, show (-1 : Int64).toInt = -1 by decide]
    omega
  · have c1 := mt Int64.lt_iff_toInt_lt.mpr c
    rw [if_neg c, z]
    omega
theorem zsgn_eq (x : Int64) : ((x >>> ((63 : Int32).toInt64 &&& 63)) ||| ((-x).toUInt64 >>> ((63 : Int32).toInt64.toUInt64 &&& Int64.toUInt64 63)).toInt64).toInt32 = zsgn x := by
  rw [zshr63, zushr63]
  unfold zsgn
  by_cases c : x < 0
  · have hu : (if -x < 0 then (1 : Int64) else 0) = 1 ∨ (if -x < 0 then (1 : Int64) else 0) = 0 := by
      by_cases c3 : -x < 0
      · rw [if_pos c3]; exact Or.inl rfl
      · rw [if_neg c3]; exact Or.inr rfl
    rw [if_pos c, show (if 0 < x then (1 : Int32) else if x < 0 then -1 else 0) = -1 by rw [if_neg (by grind), if_pos c]]
    rcases hu with e | e <;> rw [e] <;> decide
  · rw [if_neg c]
    by_cases c2 : 0 < x
    · rw [if_pos c2, if_pos (by grind)]
      decide
    · have e : x = 0 := by grind
      subst e
      decide
set_option maxHeartbeats 4000000 in
set_option maxRecDepth 100000 in
theorem c_J13_signum (h : zH) (x : Int64) : K_J13_signum_95d88 [.long x] h (zD (some (.int (zsgn x))) h) := by
  refine CT.of rfl rfl (Nat.le_of_ble_eq_true rfl) rfl ?_
  refine WG.lload_n (pc' := 1) dJ13_signum_95d88_0 rfl rfl ?_
  refine WG.bipush (v := 63) (pc' := 3) dJ13_signum_95d88_1 rfl rfl ?_
  refine WG.lshr (pc' := 4) dJ13_signum_95d88_3 rfl ?_
  refine WG.lload_n (pc' := 5) dJ13_signum_95d88_4 rfl rfl ?_
  refine WG.lneg (pc' := 6) dJ13_signum_95d88_5 rfl ?_
  refine WG.bipush (v := 63) (pc' := 8) dJ13_signum_95d88_6 rfl rfl ?_
  refine WG.lushr (pc' := 9) dJ13_signum_95d88_8 rfl ?_
  refine WG.lor (pc' := 10) dJ13_signum_95d88_9 rfl ?_
  refine WG.l2i (pc' := 11) dJ13_signum_95d88_10 rfl ?_
  refine WG.ireturn dJ13_signum_95d88_11 rfl (by first | rfl | decide) ?_
  exact ⟨by rw [zsgn_eq], rfl⟩
section zLay2
variable {n : Nat} {w : Int64} {ux uy px py : Nat → Int64} {h : zH}
theorem zro_lt {n a : Nat} (ha : a < n) : zro n (a + 1) < n := by unfold zro; split <;> omega
def zps (px py : Nat → Int64) (a p b q : Nat) : Prop := zsgn (zlf px py a p b) * zsgn (zlf px py a p q) < 0 ∧ zsgn (zlf px py b q a) * zsgn (zlf px py b q p) < 0
def zmtp (px py : Nat → Int64) (a p b q : Nat) : Prop := zps px py a p b q ∨ (zlf px py a p b = 0 ∧ zbw px py a p b) ∨ (zlf px py a p q = 0 ∧ zbw px py a p q) ∨ (zlf px py b q a = 0 ∧ zbw px py b q a) ∨ (zlf px py b q p = 0 ∧ zbw px py b q p)
def zmt (n : Nat) (px py : Nat → Int64) (a b : Nat) : Prop := zmtp px py a (zro n (a + 1)) b (zro n (b + 1))
set_option maxHeartbeats 4000000 in
set_option maxRecDepth 100000 in
theorem c_X0_meet (hL : RLay n w ux uy px py h) {a b : Nat} (ha : a < n) (hb : b < n) : K_X0_meet [.ref 69, .int (nI a), .int (nI b)] h (zD (some (.int (zb (zmt n px py a b)))) h) := by
  have hn := hL.1
  have hp := zro_lt ha
  have hq := zro_lt hb
  refine CT.of rfl rfl (Nat.le_of_ble_eq_true rfl) rfl ?_
  unfold zmt
  have cr : ∀ i, i < n → K_X0_round [.ref 69, .int (nI (i + 1))] h (zD (some (.int (nI (zro n (i + 1))))) h) := fun i hi => c_X0_round hL (by omega)
  have cra := cr a ha
  have crb := cr b hb
  generalize zro n (a + 1) = p at hp cra ⊢
  generalize zro n (b + 1) = q at hq crb ⊢
  have J : ∀ v : Int32, (v ≠ 0 ↔ zps px py a p b q) → W_X0_meet (zD (some (.int (zb (zmtp px py a p b q)))) h) 91 [some (.ref 69), some (.int (nI a)), some (.int (nI b)), some (.int (nI p)), some (.int (nI q)), some (.long (zlf px py a p b)), none, some (.long (zlf px py a p q)), none, some (.long (zlf px py b q a)), none, some (.long (zlf px py b q p)), none, some (.int v)] [] h := by
    intro v hv
    refine WG.iload (pc' := 93) dX0_meet_91 rfl rfl ?_
    refine WG.if_ne (tgt := 167) (pc' := 96) dX0_meet_93 rfl (by decide) (fun c_93 => ?_) (fun c_93 => ?_)
    · refine WG.iconst (v := 1) (pc' := 168) dX0_meet_167 rfl rfl ?_
      refine WG.goto (tgt := 172) dX0_meet_168 (by decide) ?_
      refine WG.ireturn dX0_meet_172 rfl (by first | rfl | decide) ?_
      exact ⟨by first | (rw [zb_t (by clear cr cra crb hL; unfold zmtp; grind)]; done) | (rw [zb_f (by clear cr cra crb hL; unfold zmtp; grind)]; done), rfl⟩
    · refine WG.lload (pc' := 98) dX0_meet_96 rfl rfl ?_
      refine WG.lconst (v := 0) (pc' := 99) dX0_meet_98 rfl rfl ?_
      refine WG.lif_ne (tgt := 113) (pc1 := 100) (pc' := 103) dX0_meet_99 rfl dX0_meet_100 rfl (by decide) (fun c_100 => ?_) (fun c_100 => ?_)
      · refine WG.lload (pc' := 115) dX0_meet_113 rfl rfl ?_
        refine WG.lconst (v := 0) (pc' := 116) dX0_meet_115 rfl rfl ?_
        refine WG.lif_ne (tgt := 131) (pc1 := 117) (pc' := 120) dX0_meet_116 rfl dX0_meet_117 rfl (by decide) (fun c_117 => ?_) (fun c_117 => ?_)
        · refine WG.lload (pc' := 133) dX0_meet_131 rfl rfl ?_
          refine WG.lconst (v := 0) (pc' := 134) dX0_meet_133 rfl rfl ?_
          refine WG.lif_ne (tgt := 149) (pc1 := 135) (pc' := 138) dX0_meet_134 rfl dX0_meet_135 rfl (by decide) (fun c_135 => ?_) (fun c_135 => ?_)
          · refine WG.lload (pc' := 151) dX0_meet_149 rfl rfl ?_
            refine WG.lconst (v := 0) (pc' := 152) dX0_meet_151 rfl rfl ?_
            refine WG.lif_ne (tgt := 171) (pc1 := 153) (pc' := 156) dX0_meet_152 rfl dX0_meet_153 rfl (by decide) (fun c_153 => ?_) (fun c_153 => ?_)
            · refine WG.iconst (v := 0) (pc' := 172) dX0_meet_171 rfl rfl ?_
              refine WG.ireturn dX0_meet_172 rfl (by first | rfl | decide) ?_
              exact ⟨by first | (rw [zb_t (by clear cr cra crb hL; unfold zmtp; grind)]; done) | (rw [zb_f (by clear cr cra crb hL; unfold zmtp; grind)]; done), rfl⟩
            · refine WG.aload_n (pc' := 157) dX0_meet_156 rfl rfl ?_
              refine WG.iload_n (pc' := 158) dX0_meet_157 rfl rfl ?_
              refine WG.iload (pc' := 160) dX0_meet_158 rfl rfl ?_
              refine WG.iload_n (pc' := 161) dX0_meet_160 rfl rfl ?_
              refine WG.callVd (c_X0_isBetween hL hb hq hp) m_X0_77 b_X0_isBetween rfl rfl rfl (zrk_of rfl) rfl (Nat.le_of_ble_eq_true rfl) dX0_meet_161 (pc' := 164) rfl ?_
              refine WG.if_eq (tgt := 171) (pc' := 167) dX0_meet_164 rfl (by decide) (fun c_164 => ?_) (fun c_164 => ?_)
              · rw [zb_eq] at c_164
                refine WG.iconst (v := 0) (pc' := 172) dX0_meet_171 rfl rfl ?_
                refine WG.ireturn dX0_meet_172 rfl (by first | rfl | decide) ?_
                exact ⟨by first | (rw [zb_t (by clear cr cra crb hL; unfold zmtp; grind)]; done) | (rw [zb_f (by clear cr cra crb hL; unfold zmtp; grind)]; done), rfl⟩
              · rw [zb_nn] at c_164
                refine WG.iconst (v := 1) (pc' := 168) dX0_meet_167 rfl rfl ?_
                refine WG.goto (tgt := 172) dX0_meet_168 (by decide) ?_
                refine WG.ireturn dX0_meet_172 rfl (by first | rfl | decide) ?_
                exact ⟨by first | (rw [zb_t (by clear cr cra crb hL; unfold zmtp; grind)]; done) | (rw [zb_f (by clear cr cra crb hL; unfold zmtp; grind)]; done), rfl⟩
          · refine WG.aload_n (pc' := 139) dX0_meet_138 rfl rfl ?_
            refine WG.iload_n (pc' := 140) dX0_meet_139 rfl rfl ?_
            refine WG.iload (pc' := 142) dX0_meet_140 rfl rfl ?_
            refine WG.iload_n (pc' := 143) dX0_meet_142 rfl rfl ?_
            refine WG.callVd (c_X0_isBetween hL hb hq ha) m_X0_77 b_X0_isBetween rfl rfl rfl (zrk_of rfl) rfl (Nat.le_of_ble_eq_true rfl) dX0_meet_143 (pc' := 146) rfl ?_
            refine WG.if_ne (tgt := 167) (pc' := 149) dX0_meet_146 rfl (by decide) (fun c_146 => ?_) (fun c_146 => ?_)
            · rw [zb_ne] at c_146
              refine WG.iconst (v := 1) (pc' := 168) dX0_meet_167 rfl rfl ?_
              refine WG.goto (tgt := 172) dX0_meet_168 (by decide) ?_
              refine WG.ireturn dX0_meet_172 rfl (by first | rfl | decide) ?_
              exact ⟨by first | (rw [zb_t (by clear cr cra crb hL; unfold zmtp; grind)]; done) | (rw [zb_f (by clear cr cra crb hL; unfold zmtp; grind)]; done), rfl⟩
            · rw [zb_eq] at c_146
              refine WG.lload (pc' := 151) dX0_meet_149 rfl rfl ?_
              refine WG.lconst (v := 0) (pc' := 152) dX0_meet_151 rfl rfl ?_
              refine WG.lif_ne (tgt := 171) (pc1 := 153) (pc' := 156) dX0_meet_152 rfl dX0_meet_153 rfl (by decide) (fun c_153 => ?_) (fun c_153 => ?_)
              · refine WG.iconst (v := 0) (pc' := 172) dX0_meet_171 rfl rfl ?_
                refine WG.ireturn dX0_meet_172 rfl (by first | rfl | decide) ?_
                exact ⟨by first | (rw [zb_t (by clear cr cra crb hL; unfold zmtp; grind)]; done) | (rw [zb_f (by clear cr cra crb hL; unfold zmtp; grind)]; done), rfl⟩
              · refine WG.aload_n (pc' := 157) dX0_meet_156 rfl rfl ?_
                refine WG.iload_n (pc' := 158) dX0_meet_157 rfl rfl ?_
                refine WG.iload (pc' := 160) dX0_meet_158 rfl rfl ?_
                refine WG.iload_n (pc' := 161) dX0_meet_160 rfl rfl ?_
                refine WG.callVd (c_X0_isBetween hL hb hq hp) m_X0_77 b_X0_isBetween rfl rfl rfl (zrk_of rfl) rfl (Nat.le_of_ble_eq_true rfl) dX0_meet_161 (pc' := 164) rfl ?_
                refine WG.if_eq (tgt := 171) (pc' := 167) dX0_meet_164 rfl (by decide) (fun c_164 => ?_) (fun c_164 => ?_)
                · rw [zb_eq] at c_164
                  refine WG.iconst (v := 0) (pc' := 172) dX0_meet_171 rfl rfl ?_
                  refine WG.ireturn dX0_meet_172 rfl (by first | rfl | decide) ?_
                  exact ⟨by first | (rw [zb_t (by clear cr cra crb hL; unfold zmtp; grind)]; done) | (rw [zb_f (by clear cr cra crb hL; unfold zmtp; grind)]; done), rfl⟩
                · rw [zb_nn] at c_164
                  refine WG.iconst (v := 1) (pc' := 168) dX0_meet_167 rfl rfl ?_
                  refine WG.goto (tgt := 172) dX0_meet_168 (by decide) ?_
                  refine WG.ireturn dX0_meet_172 rfl (by first | rfl | decide) ?_
                  exact ⟨by first | (rw [zb_t (by clear cr cra crb hL; unfold zmtp; grind)]; done) | (rw [zb_f (by clear cr cra crb hL; unfold zmtp; grind)]; done), rfl⟩
        · refine WG.aload_n (pc' := 121) dX0_meet_120 rfl rfl ?_
          refine WG.iload_n (pc' := 122) dX0_meet_121 rfl rfl ?_
          refine WG.iload_n (pc' := 123) dX0_meet_122 rfl rfl ?_
          refine WG.iload (pc' := 125) dX0_meet_123 rfl rfl ?_
          refine WG.callVd (c_X0_isBetween hL ha hp hq) m_X0_77 b_X0_isBetween rfl rfl rfl (zrk_of rfl) rfl (Nat.le_of_ble_eq_true rfl) dX0_meet_125 (pc' := 128) rfl ?_
          refine WG.if_ne (tgt := 167) (pc' := 131) dX0_meet_128 rfl (by decide) (fun c_128 => ?_) (fun c_128 => ?_)
          · rw [zb_ne] at c_128
            refine WG.iconst (v := 1) (pc' := 168) dX0_meet_167 rfl rfl ?_
            refine WG.goto (tgt := 172) dX0_meet_168 (by decide) ?_
            refine WG.ireturn dX0_meet_172 rfl (by first | rfl | decide) ?_
            exact ⟨by first | (rw [zb_t (by clear cr cra crb hL; unfold zmtp; grind)]; done) | (rw [zb_f (by clear cr cra crb hL; unfold zmtp; grind)]; done), rfl⟩
          · rw [zb_eq] at c_128
            refine WG.lload (pc' := 133) dX0_meet_131 rfl rfl ?_
            refine WG.lconst (v := 0) (pc' := 134) dX0_meet_133 rfl rfl ?_
            refine WG.lif_ne (tgt := 149) (pc1 := 135) (pc' := 138) dX0_meet_134 rfl dX0_meet_135 rfl (by decide) (fun c_135 => ?_) (fun c_135 => ?_)
            · refine WG.lload (pc' := 151) dX0_meet_149 rfl rfl ?_
              refine WG.lconst (v := 0) (pc' := 152) dX0_meet_151 rfl rfl ?_
              refine WG.lif_ne (tgt := 171) (pc1 := 153) (pc' := 156) dX0_meet_152 rfl dX0_meet_153 rfl (by decide) (fun c_153 => ?_) (fun c_153 => ?_)
              · refine WG.iconst (v := 0) (pc' := 172) dX0_meet_171 rfl rfl ?_
                refine WG.ireturn dX0_meet_172 rfl (by first | rfl | decide) ?_
                exact ⟨by first | (rw [zb_t (by clear cr cra crb hL; unfold zmtp; grind)]; done) | (rw [zb_f (by clear cr cra crb hL; unfold zmtp; grind)]; done), rfl⟩
              · refine WG.aload_n (pc' := 157) dX0_meet_156 rfl rfl ?_
                refine WG.iload_n (pc' := 158) dX0_meet_157 rfl rfl ?_
                refine WG.iload (pc' := 160) dX0_meet_158 rfl rfl ?_
                refine WG.iload_n (pc' := 161) dX0_meet_160 rfl rfl ?_
                refine WG.callVd (c_X0_isBetween hL hb hq hp) m_X0_77 b_X0_isBetween rfl rfl rfl (zrk_of rfl) rfl (Nat.le_of_ble_eq_true rfl) dX0_meet_161 (pc' := 164) rfl ?_
                refine WG.if_eq (tgt := 171) (pc' := 167) dX0_meet_164 rfl (by decide) (fun c_164 => ?_) (fun c_164 => ?_)
                · rw [zb_eq] at c_164
                  refine WG.iconst (v := 0) (pc' := 172) dX0_meet_171 rfl rfl ?_
                  refine WG.ireturn dX0_meet_172 rfl (by first | rfl | decide) ?_
                  exact ⟨by first | (rw [zb_t (by clear cr cra crb hL; unfold zmtp; grind)]; done) | (rw [zb_f (by clear cr cra crb hL; unfold zmtp; grind)]; done), rfl⟩
                · rw [zb_nn] at c_164
                  refine WG.iconst (v := 1) (pc' := 168) dX0_meet_167 rfl rfl ?_
                  refine WG.goto (tgt := 172) dX0_meet_168 (by decide) ?_
                  refine WG.ireturn dX0_meet_172 rfl (by first | rfl | decide) ?_
                  exact ⟨by first | (rw [zb_t (by clear cr cra crb hL; unfold zmtp; grind)]; done) | (rw [zb_f (by clear cr cra crb hL; unfold zmtp; grind)]; done), rfl⟩
            · refine WG.aload_n (pc' := 139) dX0_meet_138 rfl rfl ?_
              refine WG.iload_n (pc' := 140) dX0_meet_139 rfl rfl ?_
              refine WG.iload (pc' := 142) dX0_meet_140 rfl rfl ?_
              refine WG.iload_n (pc' := 143) dX0_meet_142 rfl rfl ?_
              refine WG.callVd (c_X0_isBetween hL hb hq ha) m_X0_77 b_X0_isBetween rfl rfl rfl (zrk_of rfl) rfl (Nat.le_of_ble_eq_true rfl) dX0_meet_143 (pc' := 146) rfl ?_
              refine WG.if_ne (tgt := 167) (pc' := 149) dX0_meet_146 rfl (by decide) (fun c_146 => ?_) (fun c_146 => ?_)
              · rw [zb_ne] at c_146
                refine WG.iconst (v := 1) (pc' := 168) dX0_meet_167 rfl rfl ?_
                refine WG.goto (tgt := 172) dX0_meet_168 (by decide) ?_
                refine WG.ireturn dX0_meet_172 rfl (by first | rfl | decide) ?_
                exact ⟨by first | (rw [zb_t (by clear cr cra crb hL; unfold zmtp; grind)]; done) | (rw [zb_f (by clear cr cra crb hL; unfold zmtp; grind)]; done), rfl⟩
              · rw [zb_eq] at c_146
                refine WG.lload (pc' := 151) dX0_meet_149 rfl rfl ?_
                refine WG.lconst (v := 0) (pc' := 152) dX0_meet_151 rfl rfl ?_
                refine WG.lif_ne (tgt := 171) (pc1 := 153) (pc' := 156) dX0_meet_152 rfl dX0_meet_153 rfl (by decide) (fun c_153 => ?_) (fun c_153 => ?_)
                · refine WG.iconst (v := 0) (pc' := 172) dX0_meet_171 rfl rfl ?_
                  refine WG.ireturn dX0_meet_172 rfl (by first | rfl | decide) ?_
                  exact ⟨by first | (rw [zb_t (by clear cr cra crb hL; unfold zmtp; grind)]; done) | (rw [zb_f (by clear cr cra crb hL; unfold zmtp; grind)]; done), rfl⟩
                · refine WG.aload_n (pc' := 157) dX0_meet_156 rfl rfl ?_
                  refine WG.iload_n (pc' := 158) dX0_meet_157 rfl rfl ?_
                  refine WG.iload (pc' := 160) dX0_meet_158 rfl rfl ?_
                  refine WG.iload_n (pc' := 161) dX0_meet_160 rfl rfl ?_
                  refine WG.callVd (c_X0_isBetween hL hb hq hp) m_X0_77 b_X0_isBetween rfl rfl rfl (zrk_of rfl) rfl (Nat.le_of_ble_eq_true rfl) dX0_meet_161 (pc' := 164) rfl ?_
                  refine WG.if_eq (tgt := 171) (pc' := 167) dX0_meet_164 rfl (by decide) (fun c_164 => ?_) (fun c_164 => ?_)
                  · rw [zb_eq] at c_164
                    refine WG.iconst (v := 0) (pc' := 172) dX0_meet_171 rfl rfl ?_
                    refine WG.ireturn dX0_meet_172 rfl (by first | rfl | decide) ?_
                    exact ⟨by first | (rw [zb_t (by clear cr cra crb hL; unfold zmtp; grind)]; done) | (rw [zb_f (by clear cr cra crb hL; unfold zmtp; grind)]; done), rfl⟩
                  · rw [zb_nn] at c_164
                    refine WG.iconst (v := 1) (pc' := 168) dX0_meet_167 rfl rfl ?_
                    refine WG.goto (tgt := 172) dX0_meet_168 (by decide) ?_
                    refine WG.ireturn dX0_meet_172 rfl (by first | rfl | decide) ?_
                    exact ⟨by first | (rw [zb_t (by clear cr cra crb hL; unfold zmtp; grind)]; done) | (rw [zb_f (by clear cr cra crb hL; unfold zmtp; grind)]; done), rfl⟩
      · refine WG.aload_n (pc' := 104) dX0_meet_103 rfl rfl ?_
        refine WG.iload_n (pc' := 105) dX0_meet_104 rfl rfl ?_
        refine WG.iload_n (pc' := 106) dX0_meet_105 rfl rfl ?_
        refine WG.iload_n (pc' := 107) dX0_meet_106 rfl rfl ?_
        refine WG.callVd (c_X0_isBetween hL ha hp hb) m_X0_77 b_X0_isBetween rfl rfl rfl (zrk_of rfl) rfl (Nat.le_of_ble_eq_true rfl) dX0_meet_107 (pc' := 110) rfl ?_
        refine WG.if_ne (tgt := 167) (pc' := 113) dX0_meet_110 rfl (by decide) (fun c_110 => ?_) (fun c_110 => ?_)
        · rw [zb_ne] at c_110
          refine WG.iconst (v := 1) (pc' := 168) dX0_meet_167 rfl rfl ?_
          refine WG.goto (tgt := 172) dX0_meet_168 (by decide) ?_
          refine WG.ireturn dX0_meet_172 rfl (by first | rfl | decide) ?_
          exact ⟨by first | (rw [zb_t (by clear cr cra crb hL; unfold zmtp; grind)]; done) | (rw [zb_f (by clear cr cra crb hL; unfold zmtp; grind)]; done), rfl⟩
        · rw [zb_eq] at c_110
          refine WG.lload (pc' := 115) dX0_meet_113 rfl rfl ?_
          refine WG.lconst (v := 0) (pc' := 116) dX0_meet_115 rfl rfl ?_
          refine WG.lif_ne (tgt := 131) (pc1 := 117) (pc' := 120) dX0_meet_116 rfl dX0_meet_117 rfl (by decide) (fun c_117 => ?_) (fun c_117 => ?_)
          · refine WG.lload (pc' := 133) dX0_meet_131 rfl rfl ?_
            refine WG.lconst (v := 0) (pc' := 134) dX0_meet_133 rfl rfl ?_
            refine WG.lif_ne (tgt := 149) (pc1 := 135) (pc' := 138) dX0_meet_134 rfl dX0_meet_135 rfl (by decide) (fun c_135 => ?_) (fun c_135 => ?_)
            · refine WG.lload (pc' := 151) dX0_meet_149 rfl rfl ?_
              refine WG.lconst (v := 0) (pc' := 152) dX0_meet_151 rfl rfl ?_
              refine WG.lif_ne (tgt := 171) (pc1 := 153) (pc' := 156) dX0_meet_152 rfl dX0_meet_153 rfl (by decide) (fun c_153 => ?_) (fun c_153 => ?_)
              · refine WG.iconst (v := 0) (pc' := 172) dX0_meet_171 rfl rfl ?_
                refine WG.ireturn dX0_meet_172 rfl (by first | rfl | decide) ?_
                exact ⟨by first | (rw [zb_t (by clear cr cra crb hL; unfold zmtp; grind)]; done) | (rw [zb_f (by clear cr cra crb hL; unfold zmtp; grind)]; done), rfl⟩
              · refine WG.aload_n (pc' := 157) dX0_meet_156 rfl rfl ?_
                refine WG.iload_n (pc' := 158) dX0_meet_157 rfl rfl ?_
                refine WG.iload (pc' := 160) dX0_meet_158 rfl rfl ?_
                refine WG.iload_n (pc' := 161) dX0_meet_160 rfl rfl ?_
                refine WG.callVd (c_X0_isBetween hL hb hq hp) m_X0_77 b_X0_isBetween rfl rfl rfl (zrk_of rfl) rfl (Nat.le_of_ble_eq_true rfl) dX0_meet_161 (pc' := 164) rfl ?_
                refine WG.if_eq (tgt := 171) (pc' := 167) dX0_meet_164 rfl (by decide) (fun c_164 => ?_) (fun c_164 => ?_)
                · rw [zb_eq] at c_164
                  refine WG.iconst (v := 0) (pc' := 172) dX0_meet_171 rfl rfl ?_
                  refine WG.ireturn dX0_meet_172 rfl (by first | rfl | decide) ?_
                  exact ⟨by first | (rw [zb_t (by clear cr cra crb hL; unfold zmtp; grind)]; done) | (rw [zb_f (by clear cr cra crb hL; unfold zmtp; grind)]; done), rfl⟩
                · rw [zb_nn] at c_164
                  refine WG.iconst (v := 1) (pc' := 168) dX0_meet_167 rfl rfl ?_
                  refine WG.goto (tgt := 172) dX0_meet_168 (by decide) ?_
                  refine WG.ireturn dX0_meet_172 rfl (by first | rfl | decide) ?_
                  exact ⟨by first | (rw [zb_t (by clear cr cra crb hL; unfold zmtp; grind)]; done) | (rw [zb_f (by clear cr cra crb hL; unfold zmtp; grind)]; done), rfl⟩
            · refine WG.aload_n (pc' := 139) dX0_meet_138 rfl rfl ?_
              refine WG.iload_n (pc' := 140) dX0_meet_139 rfl rfl ?_
              refine WG.iload (pc' := 142) dX0_meet_140 rfl rfl ?_
              refine WG.iload_n (pc' := 143) dX0_meet_142 rfl rfl ?_
              refine WG.callVd (c_X0_isBetween hL hb hq ha) m_X0_77 b_X0_isBetween rfl rfl rfl (zrk_of rfl) rfl (Nat.le_of_ble_eq_true rfl) dX0_meet_143 (pc' := 146) rfl ?_
              refine WG.if_ne (tgt := 167) (pc' := 149) dX0_meet_146 rfl (by decide) (fun c_146 => ?_) (fun c_146 => ?_)
              · rw [zb_ne] at c_146
                refine WG.iconst (v := 1) (pc' := 168) dX0_meet_167 rfl rfl ?_
                refine WG.goto (tgt := 172) dX0_meet_168 (by decide) ?_
                refine WG.ireturn dX0_meet_172 rfl (by first | rfl | decide) ?_
                exact ⟨by first | (rw [zb_t (by clear cr cra crb hL; unfold zmtp; grind)]; done) | (rw [zb_f (by clear cr cra crb hL; unfold zmtp; grind)]; done), rfl⟩
              · rw [zb_eq] at c_146
                refine WG.lload (pc' := 151) dX0_meet_149 rfl rfl ?_
                refine WG.lconst (v := 0) (pc' := 152) dX0_meet_151 rfl rfl ?_
                refine WG.lif_ne (tgt := 171) (pc1 := 153) (pc' := 156) dX0_meet_152 rfl dX0_meet_153 rfl (by decide) (fun c_153 => ?_) (fun c_153 => ?_)
                · refine WG.iconst (v := 0) (pc' := 172) dX0_meet_171 rfl rfl ?_
                  refine WG.ireturn dX0_meet_172 rfl (by first | rfl | decide) ?_
                  exact ⟨by first | (rw [zb_t (by clear cr cra crb hL; unfold zmtp; grind)]; done) | (rw [zb_f (by clear cr cra crb hL; unfold zmtp; grind)]; done), rfl⟩
                · refine WG.aload_n (pc' := 157) dX0_meet_156 rfl rfl ?_
                  refine WG.iload_n (pc' := 158) dX0_meet_157 rfl rfl ?_
                  refine WG.iload (pc' := 160) dX0_meet_158 rfl rfl ?_
                  refine WG.iload_n (pc' := 161) dX0_meet_160 rfl rfl ?_
                  refine WG.callVd (c_X0_isBetween hL hb hq hp) m_X0_77 b_X0_isBetween rfl rfl rfl (zrk_of rfl) rfl (Nat.le_of_ble_eq_true rfl) dX0_meet_161 (pc' := 164) rfl ?_
                  refine WG.if_eq (tgt := 171) (pc' := 167) dX0_meet_164 rfl (by decide) (fun c_164 => ?_) (fun c_164 => ?_)
                  · rw [zb_eq] at c_164
                    refine WG.iconst (v := 0) (pc' := 172) dX0_meet_171 rfl rfl ?_
                    refine WG.ireturn dX0_meet_172 rfl (by first | rfl | decide) ?_
                    exact ⟨by first | (rw [zb_t (by clear cr cra crb hL; unfold zmtp; grind)]; done) | (rw [zb_f (by clear cr cra crb hL; unfold zmtp; grind)]; done), rfl⟩
                  · rw [zb_nn] at c_164
                    refine WG.iconst (v := 1) (pc' := 168) dX0_meet_167 rfl rfl ?_
                    refine WG.goto (tgt := 172) dX0_meet_168 (by decide) ?_
                    refine WG.ireturn dX0_meet_172 rfl (by first | rfl | decide) ?_
                    exact ⟨by first | (rw [zb_t (by clear cr cra crb hL; unfold zmtp; grind)]; done) | (rw [zb_f (by clear cr cra crb hL; unfold zmtp; grind)]; done), rfl⟩
          · refine WG.aload_n (pc' := 121) dX0_meet_120 rfl rfl ?_
            refine WG.iload_n (pc' := 122) dX0_meet_121 rfl rfl ?_
            refine WG.iload_n (pc' := 123) dX0_meet_122 rfl rfl ?_
            refine WG.iload (pc' := 125) dX0_meet_123 rfl rfl ?_
            refine WG.callVd (c_X0_isBetween hL ha hp hq) m_X0_77 b_X0_isBetween rfl rfl rfl (zrk_of rfl) rfl (Nat.le_of_ble_eq_true rfl) dX0_meet_125 (pc' := 128) rfl ?_
            refine WG.if_ne (tgt := 167) (pc' := 131) dX0_meet_128 rfl (by decide) (fun c_128 => ?_) (fun c_128 => ?_)
            · rw [zb_ne] at c_128
              refine WG.iconst (v := 1) (pc' := 168) dX0_meet_167 rfl rfl ?_
              refine WG.goto (tgt := 172) dX0_meet_168 (by decide) ?_
              refine WG.ireturn dX0_meet_172 rfl (by first | rfl | decide) ?_
              exact ⟨by first | (rw [zb_t (by clear cr cra crb hL; unfold zmtp; grind)]; done) | (rw [zb_f (by clear cr cra crb hL; unfold zmtp; grind)]; done), rfl⟩
            · rw [zb_eq] at c_128
              refine WG.lload (pc' := 133) dX0_meet_131 rfl rfl ?_
              refine WG.lconst (v := 0) (pc' := 134) dX0_meet_133 rfl rfl ?_
              refine WG.lif_ne (tgt := 149) (pc1 := 135) (pc' := 138) dX0_meet_134 rfl dX0_meet_135 rfl (by decide) (fun c_135 => ?_) (fun c_135 => ?_)
              · refine WG.lload (pc' := 151) dX0_meet_149 rfl rfl ?_
                refine WG.lconst (v := 0) (pc' := 152) dX0_meet_151 rfl rfl ?_
                refine WG.lif_ne (tgt := 171) (pc1 := 153) (pc' := 156) dX0_meet_152 rfl dX0_meet_153 rfl (by decide) (fun c_153 => ?_) (fun c_153 => ?_)
                · refine WG.iconst (v := 0) (pc' := 172) dX0_meet_171 rfl rfl ?_
                  refine WG.ireturn dX0_meet_172 rfl (by first | rfl | decide) ?_
                  exact ⟨by first | (rw [zb_t (by clear cr cra crb hL; unfold zmtp; grind)]; done) | (rw [zb_f (by clear cr cra crb hL; unfold zmtp; grind)]; done), rfl⟩
                · refine WG.aload_n (pc' := 157) dX0_meet_156 rfl rfl ?_
                  refine WG.iload_n (pc' := 158) dX0_meet_157 rfl rfl ?_
                  refine WG.iload (pc' := 160) dX0_meet_158 rfl rfl ?_
                  refine WG.iload_n (pc' := 161) dX0_meet_160 rfl rfl ?_
                  refine WG.callVd (c_X0_isBetween hL hb hq hp) m_X0_77 b_X0_isBetween rfl rfl rfl (zrk_of rfl) rfl (Nat.le_of_ble_eq_true rfl) dX0_meet_161 (pc' := 164) rfl ?_
                  refine WG.if_eq (tgt := 171) (pc' := 167) dX0_meet_164 rfl (by decide) (fun c_164 => ?_) (fun c_164 => ?_)
                  · rw [zb_eq] at c_164
                    refine WG.iconst (v := 0) (pc' := 172) dX0_meet_171 rfl rfl ?_
                    refine WG.ireturn dX0_meet_172 rfl (by first | rfl | decide) ?_
                    exact ⟨by first | (rw [zb_t (by clear cr cra crb hL; unfold zmtp; grind)]; done) | (rw [zb_f (by clear cr cra crb hL; unfold zmtp; grind)]; done), rfl⟩
                  · rw [zb_nn] at c_164
                    refine WG.iconst (v := 1) (pc' := 168) dX0_meet_167 rfl rfl ?_
                    refine WG.goto (tgt := 172) dX0_meet_168 (by decide) ?_
                    refine WG.ireturn dX0_meet_172 rfl (by first | rfl | decide) ?_
                    exact ⟨by first | (rw [zb_t (by clear cr cra crb hL; unfold zmtp; grind)]; done) | (rw [zb_f (by clear cr cra crb hL; unfold zmtp; grind)]; done), rfl⟩
              · refine WG.aload_n (pc' := 139) dX0_meet_138 rfl rfl ?_
                refine WG.iload_n (pc' := 140) dX0_meet_139 rfl rfl ?_
                refine WG.iload (pc' := 142) dX0_meet_140 rfl rfl ?_
                refine WG.iload_n (pc' := 143) dX0_meet_142 rfl rfl ?_
                refine WG.callVd (c_X0_isBetween hL hb hq ha) m_X0_77 b_X0_isBetween rfl rfl rfl (zrk_of rfl) rfl (Nat.le_of_ble_eq_true rfl) dX0_meet_143 (pc' := 146) rfl ?_
                refine WG.if_ne (tgt := 167) (pc' := 149) dX0_meet_146 rfl (by decide) (fun c_146 => ?_) (fun c_146 => ?_)
                · rw [zb_ne] at c_146
                  refine WG.iconst (v := 1) (pc' := 168) dX0_meet_167 rfl rfl ?_
                  refine WG.goto (tgt := 172) dX0_meet_168 (by decide) ?_
                  refine WG.ireturn dX0_meet_172 rfl (by first | rfl | decide) ?_
                  exact ⟨by first | (rw [zb_t (by clear cr cra crb hL; unfold zmtp; grind)]; done) | (rw [zb_f (by clear cr cra crb hL; unfold zmtp; grind)]; done), rfl⟩
                · rw [zb_eq] at c_146
                  refine WG.lload (pc' := 151) dX0_meet_149 rfl rfl ?_
                  refine WG.lconst (v := 0) (pc' := 152) dX0_meet_151 rfl rfl ?_
                  refine WG.lif_ne (tgt := 171) (pc1 := 153) (pc' := 156) dX0_meet_152 rfl dX0_meet_153 rfl (by decide) (fun c_153 => ?_) (fun c_153 => ?_)
                  · refine WG.iconst (v := 0) (pc' := 172) dX0_meet_171 rfl rfl ?_
                    refine WG.ireturn dX0_meet_172 rfl (by first | rfl | decide) ?_
                    exact ⟨by first | (rw [zb_t (by clear cr cra crb hL; unfold zmtp; grind)]; done) | (rw [zb_f (by clear cr cra crb hL; unfold zmtp; grind)]; done), rfl⟩
                  · refine WG.aload_n (pc' := 157) dX0_meet_156 rfl rfl ?_
                    refine WG.iload_n (pc' := 158) dX0_meet_157 rfl rfl ?_
                    refine WG.iload (pc' := 160) dX0_meet_158 rfl rfl ?_
                    refine WG.iload_n (pc' := 161) dX0_meet_160 rfl rfl ?_
                    refine WG.callVd (c_X0_isBetween hL hb hq hp) m_X0_77 b_X0_isBetween rfl rfl rfl (zrk_of rfl) rfl (Nat.le_of_ble_eq_true rfl) dX0_meet_161 (pc' := 164) rfl ?_
                    refine WG.if_eq (tgt := 171) (pc' := 167) dX0_meet_164 rfl (by decide) (fun c_164 => ?_) (fun c_164 => ?_)
                    · rw [zb_eq] at c_164
                      refine WG.iconst (v := 0) (pc' := 172) dX0_meet_171 rfl rfl ?_
                      refine WG.ireturn dX0_meet_172 rfl (by first | rfl | decide) ?_
                      exact ⟨by first | (rw [zb_t (by clear cr cra crb hL; unfold zmtp; grind)]; done) | (rw [zb_f (by clear cr cra crb hL; unfold zmtp; grind)]; done), rfl⟩
                    · rw [zb_nn] at c_164
                      refine WG.iconst (v := 1) (pc' := 168) dX0_meet_167 rfl rfl ?_
                      refine WG.goto (tgt := 172) dX0_meet_168 (by decide) ?_
                      refine WG.ireturn dX0_meet_172 rfl (by first | rfl | decide) ?_
                      exact ⟨by first | (rw [zb_t (by clear cr cra crb hL; unfold zmtp; grind)]; done) | (rw [zb_f (by clear cr cra crb hL; unfold zmtp; grind)]; done), rfl⟩
  refine WG.aload_n (pc' := 1) dX0_meet_0 rfl rfl ?_
  refine WG.iload_n (pc' := 2) dX0_meet_1 rfl rfl ?_
  refine WG.iconst (v := 1) (pc' := 3) dX0_meet_2 rfl rfl ?_
  refine WG.iadd (pc' := 4) dX0_meet_3 rfl ?_
  rw [nI_1]
  refine WG.callVd (cra) m_X0_60 b_X0_round rfl rfl rfl (zrk_of rfl) rfl (Nat.le_of_ble_eq_true rfl) dX0_meet_4 (pc' := 7) rfl ?_
  refine WG.istore_n (L' := [_, _, _, _, _, _, _, _, _, _, _, _, _, _]) (pc' := 8) dX0_meet_7 rfl (by decide) rfl ?_
  refine WG.aload_n (pc' := 9) dX0_meet_8 rfl rfl ?_
  refine WG.iload_n (pc' := 10) dX0_meet_9 rfl rfl ?_
  refine WG.iconst (v := 1) (pc' := 11) dX0_meet_10 rfl rfl ?_
  refine WG.iadd (pc' := 12) dX0_meet_11 rfl ?_
  rw [nI_1]
  refine WG.callVd (crb) m_X0_60 b_X0_round rfl rfl rfl (zrk_of rfl) rfl (Nat.le_of_ble_eq_true rfl) dX0_meet_12 (pc' := 15) rfl ?_
  refine WG.istore (L' := [_, _, _, _, _, _, _, _, _, _, _, _, _, _]) (pc' := 17) dX0_meet_15 rfl (by decide) rfl ?_
  refine WG.aload_n (pc' := 18) dX0_meet_17 rfl rfl ?_
  refine WG.iload_n (pc' := 19) dX0_meet_18 rfl rfl ?_
  refine WG.iload_n (pc' := 20) dX0_meet_19 rfl rfl ?_
  refine WG.iload_n (pc' := 21) dX0_meet_20 rfl rfl ?_
  refine WG.callVd (c_X0_leftness hL ha hp hb) m_X0_67 b_X0_leftness rfl rfl rfl (zrk_of rfl) rfl (Nat.le_of_ble_eq_true rfl) dX0_meet_21 (pc' := 24) rfl ?_
  refine WG.lstore (L' := [_, _, _, _, _, _, _, _, _, _, _, _, _, _]) (pc' := 26) dX0_meet_24 rfl (by decide) rfl ?_
  refine WG.aload_n (pc' := 27) dX0_meet_26 rfl rfl ?_
  refine WG.iload_n (pc' := 28) dX0_meet_27 rfl rfl ?_
  refine WG.iload_n (pc' := 29) dX0_meet_28 rfl rfl ?_
  refine WG.iload (pc' := 31) dX0_meet_29 rfl rfl ?_
  refine WG.callVd (c_X0_leftness hL ha hp hq) m_X0_67 b_X0_leftness rfl rfl rfl (zrk_of rfl) rfl (Nat.le_of_ble_eq_true rfl) dX0_meet_31 (pc' := 34) rfl ?_
  refine WG.lstore (L' := [_, _, _, _, _, _, _, _, _, _, _, _, _, _]) (pc' := 36) dX0_meet_34 rfl (by decide) rfl ?_
  refine WG.aload_n (pc' := 37) dX0_meet_36 rfl rfl ?_
  refine WG.iload_n (pc' := 38) dX0_meet_37 rfl rfl ?_
  refine WG.iload (pc' := 40) dX0_meet_38 rfl rfl ?_
  refine WG.iload_n (pc' := 41) dX0_meet_40 rfl rfl ?_
  refine WG.callVd (c_X0_leftness hL hb hq ha) m_X0_67 b_X0_leftness rfl rfl rfl (zrk_of rfl) rfl (Nat.le_of_ble_eq_true rfl) dX0_meet_41 (pc' := 44) rfl ?_
  refine WG.lstore (L' := [_, _, _, _, _, _, _, _, _, _, _, _, _, _]) (pc' := 46) dX0_meet_44 rfl (by decide) rfl ?_
  refine WG.aload_n (pc' := 47) dX0_meet_46 rfl rfl ?_
  refine WG.iload_n (pc' := 48) dX0_meet_47 rfl rfl ?_
  refine WG.iload (pc' := 50) dX0_meet_48 rfl rfl ?_
  refine WG.iload_n (pc' := 51) dX0_meet_50 rfl rfl ?_
  refine WG.callVd (c_X0_leftness hL hb hq hp) m_X0_67 b_X0_leftness rfl rfl rfl (zrk_of rfl) rfl (Nat.le_of_ble_eq_true rfl) dX0_meet_51 (pc' := 54) rfl ?_
  refine WG.lstore (L' := [_, _, _, _, _, _, _, _, _, _, _, _, _, _]) (pc' := 56) dX0_meet_54 rfl (by decide) rfl ?_
  refine WG.lload (pc' := 58) dX0_meet_56 rfl rfl ?_
  refine WG.callSd (c_J13_signum h _) m_X0_71 b_J13_signum_95d88 rfl (zrk_of rfl) rfl (Nat.le_of_ble_eq_true rfl) dX0_meet_58 (pc' := 61) rfl ?_
  refine WG.lload (pc' := 63) dX0_meet_61 rfl rfl ?_
  refine WG.callSd (c_J13_signum h _) m_X0_71 b_J13_signum_95d88 rfl (zrk_of rfl) rfl (Nat.le_of_ble_eq_true rfl) dX0_meet_63 (pc' := 66) rfl ?_
  refine WG.imul (pc' := 67) dX0_meet_66 rfl ?_
  refine WG.if_ge (tgt := 88) (pc' := 70) dX0_meet_67 rfl (by decide) (fun c_67 => ?_) (fun c_67 => ?_)
  · refine WG.iconst (v := 0) (pc' := 89) dX0_meet_88 rfl rfl ?_
    refine WG.istore (L' := [_, _, _, _, _, _, _, _, _, _, _, _, _, _]) (pc' := 91) dX0_meet_89 rfl (by decide) rfl ?_
    exact J _ (by unfold zps; clear cr cra crb hL J; grind)
  · refine WG.lload (pc' := 72) dX0_meet_70 rfl rfl ?_
    refine WG.callSd (c_J13_signum h _) m_X0_71 b_J13_signum_95d88 rfl (zrk_of rfl) rfl (Nat.le_of_ble_eq_true rfl) dX0_meet_72 (pc' := 75) rfl ?_
    refine WG.lload (pc' := 77) dX0_meet_75 rfl rfl ?_
    refine WG.callSd (c_J13_signum h _) m_X0_71 b_J13_signum_95d88 rfl (zrk_of rfl) rfl (Nat.le_of_ble_eq_true rfl) dX0_meet_77 (pc' := 80) rfl ?_
    refine WG.imul (pc' := 81) dX0_meet_80 rfl ?_
    refine WG.if_ge (tgt := 88) (pc' := 84) dX0_meet_81 rfl (by decide) (fun c_81 => ?_) (fun c_81 => ?_)
    · refine WG.iconst (v := 0) (pc' := 89) dX0_meet_88 rfl rfl ?_
      refine WG.istore (L' := [_, _, _, _, _, _, _, _, _, _, _, _, _, _]) (pc' := 91) dX0_meet_89 rfl (by decide) rfl ?_
      exact J _ (by unfold zps; clear cr cra crb hL J; grind)
    · refine WG.iconst (v := 1) (pc' := 85) dX0_meet_84 rfl rfl ?_
      refine WG.goto (tgt := 89) dX0_meet_85 (by decide) ?_
      refine WG.istore (L' := [_, _, _, _, _, _, _, _, _, _, _, _, _, _]) (pc' := 91) dX0_meet_89 rfl (by decide) rfl ?_
      exact J _ (by unfold zps; clear cr cra crb hL J; grind)
noncomputable def zmi (n : Nat) (px py : Nat → Int64) (a : Nat) : Nat → Int32
  | 0 => 0
  | b + 1 => zmi n px py a b + (if a < b then zb (¬ znb n a b ∧ zmt n px py a b) else 0)
noncomputable def zmo (n : Nat) (px py : Nat → Int64) : Nat → Int32
  | 0 => 0
  | a + 1 => zmo n px py a + zmi n px py a n
theorem zmi_0 (n : Nat) (px py : Nat → Int64) (a : Nat) : ∀ b, b ≤ a + 1 → zmi n px py a b = 0 := by
  intro b
  induction b with
  | zero => intro _; rfl
  | succ b ih => intro h; show zmi n px py a b + _ = 0; rw [ih (by omega), if_neg (by omega)]; rfl
set_option maxHeartbeats 4000000 in
set_option maxRecDepth 100000 in
theorem c_X0_meetings (hL : RLay n w ux uy px py h) : K_X0_meetings [.ref 69] h (zD (some (.int (zmo n px py n))) h) := by
  have hn := hL.1
  have h4 := hL.2.1
  refine CT.of rfl rfl (Nat.le_of_ble_eq_true rfl) rfl ?_
  have loop : ∀ (m a : Nat) (v : Option Value), a ≤ n → n - a < m → W_X0_meetings (zD (some (.int (zmo n px py n))) h) 4 [some (.ref 69), some (.int (zmo n px py a)), some (.int (nI a)), v] [] h := by
    intro m
    induction m with
    | zero => intro a v h1 h2; omega
    | succ m ih =>
      intro a v ha hm
      have inner : ∀ (m2 b : Nat), a < n → b ≤ n → a < b → n - b < m2 → W_X0_meetings (zD (some (.int (zmo n px py n))) h) 16 [some (.ref 69), some (.int (zmo n px py a + zmi n px py a b)), some (.int (nI a)), some (.int (nI b))] [] h := by
        intro m2
        induction m2 with
        | zero => intro b h1 h2 h3 h4; omega
        | succ m2 ih2 =>
          intro b hlt hb hab hm2
          refine WG.iload_n (pc' := 17) dX0_meetings_16 rfl rfl ?_
          refine WG.aload_n (pc' := 18) dX0_meetings_17 rfl rfl ?_
          refine WG.getI f_X0_24 (pc' := 21) dX0_meetings_18 rfl rfl rfl ?_
          refine WG.icmp_ge (tgt := 51) (pc' := 24) dX0_meetings_21 rfl (by decide) (fun c_21 => ?_) (fun c_21 => ?_)
          · obtain rfl : b = n := by have := (zle h4 (by omega) (by omega)).mp c_21; omega
            refine WG.iinc1 (L' := [_, _, _, _]) (pc' := 54) dX0_meetings_51 rfl rfl (by decide) rfl ?_
            refine WG.goto (tgt := 4) dX0_meetings_54 (by decide) ?_
            rw [nI_1]
            exact ih (a + 1) _ hlt (by omega)
          · have hbl : b < n := by have := mt (zle (i := b) h4 (by omega) (by omega)).mpr c_21; omega
            have e := ih2 (b + 1) hlt hbl (by omega) (by omega)
            rw [nI_succ, show zmi n px py a (b + 1) = zmi n px py a b + zb (¬ znb n a b ∧ zmt n px py a b) by show zmi n px py a b + _ = _; rw [if_pos hab]] at e
            refine WG.aload_n (pc' := 25) dX0_meetings_24 rfl rfl ?_
            refine WG.iload_n (pc' := 26) dX0_meetings_25 rfl rfl ?_
            refine WG.iload_n (pc' := 27) dX0_meetings_26 rfl rfl ?_
            refine WG.callVd (c_X0_areNeighbours hL hlt hbl) m_X0_90 b_X0_areNeighbours rfl rfl rfl (zrk_of rfl) rfl (Nat.le_of_ble_eq_true rfl) dX0_meetings_27 (pc' := 30) rfl ?_
            refine WG.if_ne (tgt := 45) (pc' := 33) dX0_meetings_30 rfl (by decide) (fun c_30 => ?_) (fun c_30 => ?_)
            · rw [zb_ne] at c_30
              rw [zb_f (fun q => q.1 c_30), show zmi n px py a b + 0 = zmi n px py a b from Int32.add_zero _] at e
              refine WG.iinc1 (L' := [_, _, _, _]) (pc' := 48) dX0_meetings_45 rfl rfl (by decide) rfl ?_
              refine WG.goto (tgt := 16) dX0_meetings_48 (by decide) ?_
              exact e
            · rw [zb_eq] at c_30
              refine WG.aload_n (pc' := 34) dX0_meetings_33 rfl rfl ?_
              refine WG.iload_n (pc' := 35) dX0_meetings_34 rfl rfl ?_
              refine WG.iload_n (pc' := 36) dX0_meetings_35 rfl rfl ?_
              refine WG.callVd (c_X0_meet hL hlt hbl) m_X0_94 b_X0_meet rfl rfl rfl (zrk_of rfl) rfl (Nat.le_of_ble_eq_true rfl) dX0_meetings_36 (pc' := 39) rfl ?_
              refine WG.if_eq (tgt := 45) (pc' := 42) dX0_meetings_39 rfl (by decide) (fun c_39 => ?_) (fun c_39 => ?_)
              · rw [zb_eq] at c_39
                rw [zb_f (fun q => c_39 q.2), show zmi n px py a b + 0 = zmi n px py a b from Int32.add_zero _] at e
                refine WG.iinc1 (L' := [_, _, _, _]) (pc' := 48) dX0_meetings_45 rfl rfl (by decide) rfl ?_
                refine WG.goto (tgt := 16) dX0_meetings_48 (by decide) ?_
                exact e
              · rw [zb_nn] at c_39
                rw [zb_t ⟨c_30, c_39⟩, ← Int32.add_assoc] at e
                refine WG.iinc1 (L' := [_, _, _, _]) (pc' := 45) dX0_meetings_42 rfl rfl (by decide) rfl ?_
                refine WG.iinc1 (L' := [_, _, _, _]) (pc' := 48) dX0_meetings_45 rfl rfl (by decide) rfl ?_
                refine WG.goto (tgt := 16) dX0_meetings_48 (by decide) ?_
                exact e
      refine WG.iload_n (pc' := 5) dX0_meetings_4 rfl rfl ?_
      refine WG.aload_n (pc' := 6) dX0_meetings_5 rfl rfl ?_
      refine WG.getI f_X0_24 (pc' := 9) dX0_meetings_6 rfl rfl rfl ?_
      refine WG.icmp_ge (tgt := 57) (pc' := 12) dX0_meetings_9 rfl (by decide) (fun c_9 => ?_) (fun c_9 => ?_)
      · obtain rfl : a = n := by have := (zle h4 (by omega) (by omega)).mp c_9; omega
        refine WG.iload_n (pc' := 58) dX0_meetings_57 rfl rfl ?_
        refine WG.ireturn dX0_meetings_58 rfl (by first | rfl | decide) ?_
        exact ⟨rfl, rfl⟩
      · have hlt : a < n := by have := mt (zle (i := a) h4 (by omega) (by omega)).mpr c_9; omega
        refine WG.iload_n (pc' := 13) dX0_meetings_12 rfl rfl ?_
        refine WG.iconst (v := 1) (pc' := 14) dX0_meetings_13 rfl rfl ?_
        refine WG.iadd (pc' := 15) dX0_meetings_14 rfl ?_
        refine WG.istore_n (L' := [_, _, _, _]) (pc' := 16) dX0_meetings_15 rfl (by decide) rfl ?_
        have e := inner (n + 1) (a + 1) hlt hlt (by omega) (by omega)
        rw [zmi_0 n px py a (a + 1) (by omega), show zmo n px py a + 0 = zmo n px py a from Int32.add_zero _] at e
        rw [nI_1]
        exact e
  refine WG.iconst (v := 0) (pc' := 1) dX0_meetings_0 rfl rfl ?_
  refine WG.istore_n (L' := [_, _, _, _]) (pc' := 2) dX0_meetings_1 rfl (by decide) rfl ?_
  refine WG.iconst (v := 0) (pc' := 3) dX0_meetings_2 rfl rfl ?_
  refine WG.istore_n (L' := [_, _, _, _]) (pc' := 4) dX0_meetings_3 rfl (by decide) rfl ?_
  exact loop (n + 1) 0 _ (by omega) (by omega)
end zLay2
