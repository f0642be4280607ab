/-! likely, the other side -/
theorem zbt1 : ∀ m, m < 256 → ∀ i, i < 8 → ((nI m >>> (nI i &&& 31)) &&& 1) = nI (m / 2 ^ i % 2) := by decide +kernel
theorem zbt2 : ∀ n, n < 9 → ∀ m, m < 2 ^ n → ∀ i, i < n → (2 ^ n - 1 - m) / 2 ^ i % 2 = 1 - m / 2 ^ i % 2 := by decide +kernel
theorem zbt3 : ∀ n, n < 9 → ∀ m, m < 2 ^ n → zpc m 8 = zpc m n := by decide +kernel
theorem zbt4 : ∀ n, n < 9 → (1 : Int32) <<< (nI n &&& 31) = nI (2 ^ n) := by decide +kernel
theorem zsl_rev {g : Nat → Int64} {N : Nat} : ∀ k, k ≤ N → zsl (fun m => g (N - 1 - m)) k + zsl g (N - k) = zsl g N := by
  intro k
  induction k with
  | zero => intro _; show (0 : Int64) + zsl g (N - 0) = _; rw [Nat.sub_zero]; grind
  | succ k ih =>
    intro hk
    have q := ih (by omega)
    rw [show N - k = (N - (k + 1)) + 1 by omega] at q
    rw [← q]
    show (zsl (fun m => g (N - 1 - m)) k + g (N - 1 - k)) + zsl g (N - (k + 1)) = zsl (fun m => g (N - 1 - m)) k + (zsl g (N - (k + 1)) + g (N - (k + 1)))
    rw [show N - 1 - k = N - (k + 1) by omega]
    grind
def zsb (f : zf) (a m : Nat) (i : Nat) : Int32 := zsum (fun p => if m / 2 ^ p % 2 = 1 then zsp f p a else 0) i
theorem zsb_e {f : zf} {a n m : Nat} (hn : n ≤ 8) (hm : m < 2 ^ n) : zmf f a n - zsb f a m n = zms f a (nI (2 ^ n - 1 - m)) n := by
  have hp := zp2 hn
  have h1 : zms f a (nI (2 ^ n - 1 - m)) n + zsb f a m n = zmf f a n := by
    unfold zms zmf zsb
    rw [← zsum_add]
    refine zsum_eq n (fun i hi => ?_)
    rw [zbt1 _ (by omega) i (by omega), zbt2 n (by omega) m hm i hi]
    by_cases c : m / 2 ^ i % 2 = 1
    · rw [if_pos c, c, show nI (1 - 1) = 0 from rfl]; grind
    · rw [if_neg c, show m / 2 ^ i % 2 = 0 by omega, show nI (1 - 0) = 1 from rfl]; grind
  rw [← h1]; grind
set_option maxHeartbeats 4000000 in
set_option maxRecDepth 100000 in
theorem m_likC {n : Nat} {f : zf} {h : zH} (hG : RG 88 0 n f h) {a b p : Int32} {S T A : Int64} {m : Nat} (hm : m < 2 ^ n) (hA : A = a.toInt64 - 1) {Q : Option Value → zH → Prop} (hK : ∀ v14 : Option Value, W_X6_likely Q 208 [some (.ref 86), some (.int a), some (.int b), some (.int p), some (.long S), none, some (.long T), none, some (.int (nI m)), some (.long (zpow A (zpc (2 ^ n - 1 - m) n))), none, some (.int (zmf f 0 n - zsb f 0 m n)), some (.int (zmf f 1 n - zsb f 1 m n)), some (.int (nI n)), v14] [] h) : ∀ (q i : Nat) (v14 : Option Value), i + q = n → W_X6_likely Q 115 [some (.ref 86), some (.int a), some (.int b), some (.int p), some (.long S), none, some (.long T), none, some (.int (nI m)), some (.long (zpow A (zpc (2 ^ n - 1 - m) i))), none, some (.int (zmf f 0 n - zsb f 0 m i)), some (.int (zmf f 1 n - zsb f 1 m i)), some (.int (nI i)), v14] [] h := by
  have hn := hG.1
  have hp := zp2 hn
  intro q
  induction q with
  | zero =>
    intro i v14 hi
    obtain rfl : i = n := by omega
    refine WG.iload (pc' := 117) dX6_likely_115 rfl rfl ?_
    refine WG.aload_n (pc' := 118) dX6_likely_117 rfl rfl ?_
    refine WG.callVd (c_X6_many hG) m_X6_63 b_X6_many rfl rfl rfl (zrk_of rfl) rfl (Nat.le_of_ble_eq_true rfl) dX6_likely_118 (pc' := 121) rfl ?_
    refine WG.icmp_ge (tgt := 208) (pc' := 124) dX6_likely_121 rfl (by decide) (fun c_121 => ?_) (fun c_121 => ?_)
    · exact hK _
    · exact absurd (by rw [nI_leI (by omega) (by omega)]; omega) c_121
  | succ q ih =>
    intro i v14 hi
    have d1 := zbt1 m (by omega) i (by omega)
    have d2 := zbt2 n (by omega) m hm i (by omega)
    by_cases c : m / 2 ^ i % 2 = 1
    · have e1 : zpc (2 ^ n - 1 - m) (i + 1) = zpc (2 ^ n - 1 - m) i := by show _ + _ = _; rw [d2, c]; rfl
      have e2 : ∀ x, zmf f x n - zsb f x m (i + 1) = zmf f x n - zsb f x m i - zsp f i x := by
        intro x
        show zmf f x n - (zsb f x m i + (if m / 2 ^ i % 2 = 1 then zsp f i x else 0)) = _
        rw [if_pos c]; grind
      have fin := fun v14 => ih (i + 1) v14 (by omega)
      rw [e1, e2 0, e2 1, nI_succ] at fin
      rw [c] at d1
      refine WG.iload (pc' := 117) dX6_likely_115 rfl rfl ?_
      refine WG.aload_n (pc' := 118) dX6_likely_117 rfl rfl ?_
      refine WG.callVd (c_X6_many hG) m_X6_63 b_X6_many rfl rfl rfl (zrk_of rfl) rfl (Nat.le_of_ble_eq_true rfl) dX6_likely_118 (pc' := 121) rfl ?_
      refine WG.icmp_ge (tgt := 208) (pc' := 124) dX6_likely_121 rfl (by decide) (fun c_121 => ?_) (fun c_121 => ?_)
      · exact absurd c_121 (by rw [nI_leI (by omega) (by omega)]; omega)
      · refine WG.iload (pc' := 126) dX6_likely_124 rfl rfl ?_
        refine WG.iload (pc' := 128) dX6_likely_126 rfl rfl ?_
        refine WG.ishr (pc' := 129) dX6_likely_128 rfl ?_
        refine WG.iconst (v := 1) (pc' := 130) dX6_likely_129 rfl rfl ?_
        refine WG.iand (pc' := 131) dX6_likely_130 rfl ?_
        refine WG.iconst (v := 1) (pc' := 132) dX6_likely_131 rfl rfl ?_
        rw [d1]
        refine WG.icmp_ne (tgt := 139) (pc' := 135) dX6_likely_132 rfl (by decide) (fun c_132 => ?_) (fun c_132 => ?_)
        · exact absurd rfl c_132
        · refine WG.iconst (v := 1) (pc' := 136) dX6_likely_135 rfl rfl ?_
          refine WG.goto (tgt := 140) dX6_likely_136 (by decide) ?_
          refine WG.istore (L' := [_, _, _, _, _, _, _, _, _, _, _, _, _, _, _]) (pc' := 142) dX6_likely_140 rfl (by decide) rfl ?_
          refine WG.lload (pc' := 144) dX6_likely_142 rfl rfl ?_
          refine WG.iload (pc' := 146) dX6_likely_144 rfl rfl ?_
          refine WG.if_eq (tgt := 153) (pc' := 149) dX6_likely_146 rfl (by decide) (fun c_146 => ?_) (fun c_146 => ?_)
          · exact absurd c_146 (by decide)
          · refine WG.lconst (v := 1) (pc' := 150) dX6_likely_149 rfl rfl ?_
            refine WG.goto (tgt := 157) dX6_likely_150 (by decide) ?_
            refine WG.lmul (pc' := 158) dX6_likely_157 rfl ?_
            rw [Int64.mul_one]
            refine WG.lstore (L' := [_, _, _, _, _, _, _, _, _, _, _, _, _, _, _]) (pc' := 160) dX6_likely_158 rfl (by decide) rfl ?_
            refine WG.iload (pc' := 162) dX6_likely_160 rfl rfl ?_
            refine WG.iload (pc' := 164) dX6_likely_162 rfl rfl ?_
            refine WG.if_eq (tgt := 177) (pc' := 167) dX6_likely_164 rfl (by decide) (fun c_164 => ?_) (fun c_164 => ?_)
            · exact absurd c_164 (by decide)
            · refine WG.aload_n (pc' := 168) dX6_likely_167 rfl rfl ?_
              refine WG.iload (pc' := 170) dX6_likely_168 rfl rfl ?_
              refine WG.iconst (v := 0) (pc' := 171) dX6_likely_170 rfl rfl ?_
              refine WG.callVd (c_X6_step (a := 0) hG (by omega) (by decide)) m_X6_93 b_X6_step rfl rfl rfl (zrk_of rfl) rfl (Nat.le_of_ble_eq_true rfl) dX6_likely_171 (pc' := 174) rfl ?_
              refine WG.goto (tgt := 178) dX6_likely_174 (by decide) ?_
              refine WG.isub (pc' := 179) dX6_likely_178 rfl ?_
              refine WG.istore (L' := [_, _, _, _, _, _, _, _, _, _, _, _, _, _, _]) (pc' := 181) dX6_likely_179 rfl (by decide) rfl ?_
              refine WG.iload (pc' := 183) dX6_likely_181 rfl rfl ?_
              refine WG.iload (pc' := 185) dX6_likely_183 rfl rfl ?_
              refine WG.if_eq (tgt := 198) (pc' := 188) dX6_likely_185 rfl (by decide) (fun c_185 => ?_) (fun c_185 => ?_)
              · exact absurd c_185 (by decide)
              · refine WG.aload_n (pc' := 189) dX6_likely_188 rfl rfl ?_
                refine WG.iload (pc' := 191) dX6_likely_189 rfl rfl ?_
                refine WG.iconst (v := 1) (pc' := 192) dX6_likely_191 rfl rfl ?_
                refine WG.callVd (c_X6_step (a := 1) hG (by omega) (by decide)) m_X6_93 b_X6_step rfl rfl rfl (zrk_of rfl) rfl (Nat.le_of_ble_eq_true rfl) dX6_likely_192 (pc' := 195) rfl ?_
                refine WG.goto (tgt := 199) dX6_likely_195 (by decide) ?_
                refine WG.isub (pc' := 200) dX6_likely_199 rfl ?_
                refine WG.istore (L' := [_, _, _, _, _, _, _, _, _, _, _, _, _, _, _]) (pc' := 202) dX6_likely_200 rfl (by decide) rfl ?_
                refine WG.iinc1 (L' := [_, _, _, _, _, _, _, _, _, _, _, _, _, _, _]) (pc' := 205) dX6_likely_202 rfl rfl (by decide) rfl ?_
                refine WG.goto (tgt := 115) dX6_likely_205 (by decide) ?_
                exact fin _
    · have c0 : m / 2 ^ i % 2 = 0 := by omega
      have e1 : zpow A (zpc (2 ^ n - 1 - m) (i + 1)) = zpow A (zpc (2 ^ n - 1 - m) i) * A := by
        show zpow A (zpc (2 ^ n - 1 - m) i + _) = _
        rw [d2, c0]; rfl
      have e2 : ∀ x, zmf f x n - zsb f x m (i + 1) = zmf f x n - zsb f x m i - 0 := by
        intro x
        show zmf f x n - (zsb f x m i + (if m / 2 ^ i % 2 = 1 then zsp f i x else 0)) = _
        rw [if_neg c]; grind
      have fin := fun v14 => ih (i + 1) v14 (by omega)
      rw [e1, e2 0, e2 1, nI_succ] at fin
      rw [c0] at d1
      refine WG.iload (pc' := 117) dX6_likely_115 rfl rfl ?_
      refine WG.aload_n (pc' := 118) dX6_likely_117 rfl rfl ?_
      refine WG.callVd (c_X6_many hG) m_X6_63 b_X6_many rfl rfl rfl (zrk_of rfl) rfl (Nat.le_of_ble_eq_true rfl) dX6_likely_118 (pc' := 121) rfl ?_
      refine WG.icmp_ge (tgt := 208) (pc' := 124) dX6_likely_121 rfl (by decide) (fun c_121 => ?_) (fun c_121 => ?_)
      · exact absurd c_121 (by rw [nI_leI (by omega) (by omega)]; omega)
      · refine WG.iload (pc' := 126) dX6_likely_124 rfl rfl ?_
        refine WG.iload (pc' := 128) dX6_likely_126 rfl rfl ?_
        refine WG.ishr (pc' := 129) dX6_likely_128 rfl ?_
        refine WG.iconst (v := 1) (pc' := 130) dX6_likely_129 rfl rfl ?_
        refine WG.iand (pc' := 131) dX6_likely_130 rfl ?_
        refine WG.iconst (v := 1) (pc' := 132) dX6_likely_131 rfl rfl ?_
        rw [d1]
        refine WG.icmp_ne (tgt := 139) (pc' := 135) dX6_likely_132 rfl (by decide) (fun c_132 => ?_) (fun c_132 => ?_)
        · refine WG.iconst (v := 0) (pc' := 140) dX6_likely_139 rfl rfl ?_
          refine WG.istore (L' := [_, _, _, _, _, _, _, _, _, _, _, _, _, _, _]) (pc' := 142) dX6_likely_140 rfl (by decide) rfl ?_
          refine WG.lload (pc' := 144) dX6_likely_142 rfl rfl ?_
          refine WG.iload (pc' := 146) dX6_likely_144 rfl rfl ?_
          refine WG.if_eq (tgt := 153) (pc' := 149) dX6_likely_146 rfl (by decide) (fun c_146 => ?_) (fun c_146 => ?_)
          · refine WG.iload_n (pc' := 154) dX6_likely_153 rfl rfl ?_
            refine WG.i2l (pc' := 155) dX6_likely_154 rfl ?_
            refine WG.lconst (v := 1) (pc' := 156) dX6_likely_155 rfl rfl ?_
            refine WG.lsub (pc' := 157) dX6_likely_156 rfl ?_
            rw [← hA]
            refine WG.lmul (pc' := 158) dX6_likely_157 rfl ?_
            refine WG.lstore (L' := [_, _, _, _, _, _, _, _, _, _, _, _, _, _, _]) (pc' := 160) dX6_likely_158 rfl (by decide) rfl ?_
            refine WG.iload (pc' := 162) dX6_likely_160 rfl rfl ?_
            refine WG.iload (pc' := 164) dX6_likely_162 rfl rfl ?_
            refine WG.if_eq (tgt := 177) (pc' := 167) dX6_likely_164 rfl (by decide) (fun c_164 => ?_) (fun c_164 => ?_)
            · refine WG.iconst (v := 0) (pc' := 178) dX6_likely_177 rfl rfl ?_
              refine WG.isub (pc' := 179) dX6_likely_178 rfl ?_
              refine WG.istore (L' := [_, _, _, _, _, _, _, _, _, _, _, _, _, _, _]) (pc' := 181) dX6_likely_179 rfl (by decide) rfl ?_
              refine WG.iload (pc' := 183) dX6_likely_181 rfl rfl ?_
              refine WG.iload (pc' := 185) dX6_likely_183 rfl rfl ?_
              refine WG.if_eq (tgt := 198) (pc' := 188) dX6_likely_185 rfl (by decide) (fun c_185 => ?_) (fun c_185 => ?_)
              · refine WG.iconst (v := 0) (pc' := 199) dX6_likely_198 rfl rfl ?_
                refine WG.isub (pc' := 200) dX6_likely_199 rfl ?_
                refine WG.istore (L' := [_, _, _, _, _, _, _, _, _, _, _, _, _, _, _]) (pc' := 202) dX6_likely_200 rfl (by decide) rfl ?_
                refine WG.iinc1 (L' := [_, _, _, _, _, _, _, _, _, _, _, _, _, _, _]) (pc' := 205) dX6_likely_202 rfl rfl (by decide) rfl ?_
                refine WG.goto (tgt := 115) dX6_likely_205 (by decide) ?_
                exact fin _
              · exact absurd rfl c_185
            · exact absurd rfl c_164
          · exact absurd rfl c_146
        · exact absurd c_132 (by decide)
