/-! likely, the other side -/
theorem zbt1 : ∀ m, m < 256 → ∀ i, i < 8 → ((nI m >>> (nI i &&& 31)) &&& 1) = nI (m / 2 ^ i % 2) := by decide +kernel
theorem zbt2 : ∀ n, n < 9 → ∀ m, m < 2 ^ n → ∀ i, i < n → (2 ^ n - 1 - m) / 2 ^ i % 2 = 1 - m / 2 ^ i % 2 := by decide +kernel
theorem zbt3 : ∀ n, n < 9 → ∀ m, m < 2 ^ n → zpc m 8 = zpc m n := by decide +kernel
theorem zbt4 : ∀ n, n < 9 → (1 : Int32) <<< (nI n &&& 31) = nI (2 ^ n) := by decide +kernel
theorem zsl_rev {g : Nat → Int64} {N : Nat} : ∀ k, k ≤ N → zsl (fun m => g (N - 1 - m)) k + zsl g (N - k) = zsl g N := by
  intro k
  induction k with
  | zero => intro _; show (0 : Int64) + zsl g (N - 0) = _; rw [Nat.sub_zero]; grind
  | succ k ih =>
    intro hk
    have q := ih (by omega)
    rw [show N - k = (N - (k + 1)) + 1 by omega] at q
    rw [← q]
    show (zsl (fun m => g (N - 1 - m)) k + g (N - 1 - k)) + zsl g (N - (k + 1)) = zsl (fun m => g (N - 1 - m)) k + (zsl g (N - (k + 1)) + g (N - (k + 1)))
    rw [show N - 1 - k = N - (k + 1) by omega]
    grind
def zsb (f : zf) (a m : Nat) (i : Nat) : Int32 := zsum (fun p => if m / 2 ^ p % 2 = 1 then zsp f p a else 0) i
theorem zsb_e {f : zf} {a n m : Nat} (hn : n ≤ 8) (hm : m < 2 ^ n) : zmf f a n - zsb f a m n = zms f a (nI (2 ^ n - 1 - m)) n := by
  have hp := zp2 hn
  have h1 : zms f a (nI (2 ^ n - 1 - m)) n + zsb f a m n = zmf f a n := by
    unfold zms zmf zsb
    rw [← zsum_add]
    refine zsum_eq n (fun i hi => ?_)
    rw [zbt1 _ (by omega) i (by omega), zbt2 n (by omega) m hm i hi]
    by_cases c : m / 2 ^ i % 2 = 1
    · rw [if_pos c, c, show nI (1 - 1) = 0 from rfl]; grind
    · rw [if_neg c, show m / 2 ^ i % 2 = 0 by omega, show nI (1 - 0) = 1 from rfl]; grind
  rw [← h1]; grind
set_option maxHeartbeats 4000000 in
set_option maxRecDepth 100000 in
theorem m_likC {n : Nat} {f : zf} {h : zH} (hG : RG 88 0 n f h) {a b p : Int32} {S T A : Int64} {m : Nat} (hm : m < 2 ^ n) (hA : A = a.toInt64 - 1) {Q : Option Value → zH → Prop} (hK : ∀ v14 : Option Value, W_X6_likely Q 208 [some (.ref 86), some (.int a), some (.int b), some (.int p), some (.long S), none, some (.long T), none, some (.int (nI m)), some (.long (zpow A (zpc (2 ^ n - 1 - m) n))), none, some (.int (zmf f 0 n - zsb f 0 m n)), some (.int (zmf f 1 n - zsb f 1 m n)), some (.int (nI n)), v14] [] h) : ∀ (q i : Nat) (v14 : Option Value), i + q = n → W_X6_likely Q 115 [some (.ref 86), some (.int a), some (.int b), some (.int p), some (.long S), none, some (.long T), none, some (.int (nI m)), some (.long (zpow A (zpc (2 ^ n - 1 - m) i))), none, some (.int (zmf f 0 n - zsb f 0 m i)), some (.int (zmf f 1 n - zsb f 1 m i)), some (.int (nI i)), v14] [] h := by
  have hn := hG.1
  have hp := zp2 hn
  intro q
  induction q with
  | zero =>
    intro i v14 hi
    obtain rfl : i = n := by omega
    refine WG.iload (pc' := 117) dX6_likely_115 rfl rfl ?_
    refine WG.aload_n (pc' := 118) dX6_likely_117 rfl rfl ?_
    refine WG.callVd (c_X6_many hG) m_X6_63 b_X6_many rfl rfl rfl (zrk_of rfl) rfl (Nat.le_of_ble_eq_true rfl) dX6_likely_118 (pc' := 121) rfl ?_
    refine WG.icmp_ge (tgt := 208) (pc' := 124) dX6_likely_121 rfl (by decide) (fun c_121 => ?_) (fun c_121 => ?_)
    · exact hK _
    · exact absurd (by rw [nI_leI (by omega) (by omega)]; omega) c_121
  | succ q ih =>
    intro i v14 hi
    have d1 := zbt1 m (by omega) i (by omega)
    have d2 := zbt2 n (by omega) m hm i (by omega)
    by_cases c : m / 2 ^ i % 2 = 1
    · have e1 : zpc (2 ^ n - 1 - m) (i + 1) = zpc (2 ^ n - 1 - m) i := by show _ + _ = _; rw [d2, c]; rfl
      have e2 : ∀ x, zmf f x n - zsb f x m (i + 1) = zmf f x n - zsb f x m i - zsp f i x := by
        intro x
        show zmf f x n - (zsb f x m i + (if m / 2 ^ i % 2 = 1 then zsp f i x else 0)) = _
        rw [if_pos c]; grind
      have fin := fun v14 => ih (i + 1) v14 (by omega)
      rw [e1, e2 0, e2 1, nI_succ] at fin
      rw [c] at d1
      refine WG.iload (pc' := 117) dX6_likely_115 rfl rfl ?_
      refine WG.aload_n (pc' := 118) dX6_likely_117 rfl rfl ?_
      refine WG.callVd (c_X6_many hG) m_X6_63 b_X6_many rfl rfl rfl (zrk_of rfl) rfl (Nat.le_of_ble_eq_true rfl) dX6_likely_118 (pc' := 121) rfl ?_
      refine WG.icmp_ge (tgt := 208) (pc' := 124) dX6_likely_121 rfl (by decide) (fun c_121 => ?_) (fun c_121 => ?_)
      · exact absurd c_121 (by rw [nI_leI (by omega) (by omega)]; omega)
      · refine WG.iload (pc' := 126) dX6_likely_124 rfl rfl ?_
        refine WG.iload (pc' := 128) dX6_likely_126 rfl rfl ?_
        refine WG.ishr (pc' := 129) dX6_likely_128 rfl ?_
        refine WG.iconst (v := 1) (pc' := 130) dX6_likely_129 rfl rfl ?_
        refine WG.iand (pc' := 131) dX6_likely_130 rfl ?_
        refine WG.iconst (v := 1) (pc' := 132) dX6_likely_131 rfl rfl ?_
        rw [d1]
        refine WG.icmp_ne (tgt := 139) (pc' := 135) dX6_likely_132 rfl (by decide) (fun c_132 => ?_) (fun c_132 => ?_)
        · exact absurd rfl c_132
        · refine WG.iconst (v := 1) (pc' := 136) dX6_likely_135 rfl rfl ?_
          refine WG.goto (tgt := 140) dX6_likely_136 (by decide) ?_
          refine WG.istore (L' := [_, _, _, _, _, _, _, _, _, _, _, _, _, _, _]) (pc' := 142) dX6_likely_140 rfl (by decide) rfl ?_
          refine WG.lload (pc' := 144) dX6_likely_142 rfl rfl ?_
          refine WG.iload (pc' := 146) dX6_likely_144 rfl rfl ?_
          refine WG.if_eq (tgt := 153) (pc' := 149) dX6_likely_146 rfl (by decide) (fun c_146 => ?_) (fun c_146 => ?_)
          · exact absurd c_146 (by decide)
          · refine WG.lconst (v := 1) (pc' := 150) dX6_likely_149 rfl rfl ?_
            refine WG.goto (tgt := 157) dX6_likely_150 (by decide) ?_
            refine WG.lmul (pc' := 158) dX6_likely_157 rfl ?_
            rw [Int64.mul_one]
            refine WG.lstore (L' := [_, _, _, _, _, _, _, _, _, _, _, _, _, _, _]) (pc' := 160) dX6_likely_158 rfl (by decide) rfl ?_
            refine WG.iload (pc' := 162) dX6_likely_160 rfl rfl ?_
            refine WG.iload (pc' := 164) dX6_likely_162 rfl rfl ?_
            refine WG.if_eq (tgt := 177) (pc' := 167) dX6_likely_164 rfl (by decide) (fun c_164 => ?_) (fun c_164 => ?_)
            · exact absurd c_164 (by decide)
            · refine WG.aload_n (pc' := 168) dX6_likely_167 rfl rfl ?_
              refine WG.iload (pc' := 170) dX6_likely_168 rfl rfl ?_
              refine WG.iconst (v := 0) (pc' := 171) dX6_likely_170 rfl rfl ?_
              refine WG.callVd (c_X6_step (a := 0) hG (by omega) (by decide)) m_X6_93 b_X6_step rfl rfl rfl (zrk_of rfl) rfl (Nat.le_of_ble_eq_true rfl) dX6_likely_171 (pc' := 174) rfl ?_
              refine WG.goto (tgt := 178) dX6_likely_174 (by decide) ?_
              refine WG.isub (pc' := 179) dX6_likely_178 rfl ?_
              refine WG.istore (L' := [_, _, _, _, _, _, _, _, _, _, _, _, _, _, _]) (pc' := 181) dX6_likely_179 rfl (by decide) rfl ?_
              refine WG.iload (pc' := 183) dX6_likely_181 rfl rfl ?_
              refine WG.iload (pc' := 185) dX6_likely_183 rfl rfl ?_
              refine WG.if_eq (tgt := 198) (pc' := 188) dX6_likely_185 rfl (by decide) (fun c_185 => ?_) (fun c_185 => ?_)
              · exact absurd c_185 (by decide)
              · refine WG.aload_n (pc' := 189) dX6_likely_188 rfl rfl ?_
                refine WG.iload (pc' := 191) dX6_likely_189 rfl rfl ?_
                refine WG.iconst (v := 1) (pc' := 192) dX6_likely_191 rfl rfl ?_
                refine WG.callVd (c_X6_step (a := 1) hG (by omega) (by decide)) m_X6_93 b_X6_step rfl rfl rfl (zrk_of rfl) rfl (Nat.le_of_ble_eq_true rfl) dX6_likely_192 (pc' := 195) rfl ?_
                refine WG.goto (tgt := 199) dX6_likely_195 (by decide) ?_
                refine WG.isub (pc' := 200) dX6_likely_199 rfl ?_
                refine WG.istore (L' := [_, _, _, _, _, _, _, _, _, _, _, _, _, _, _]) (pc' := 202) dX6_likely_200 rfl (by decide) rfl ?_
                refine WG.iinc1 (L' := [_, _, _, _, _, _, _, _, _, _, _, _, _, _, _]) (pc' := 205) dX6_likely_202 rfl rfl (by decide) rfl ?_
                refine WG.goto (tgt := 115) dX6_likely_205 (by decide) ?_
                exact fin _
    · have c0 : m / 2 ^ i % 2 = 0 := by omega
      have e1 : zpow A (zpc (2 ^ n - 1 - m) (i + 1)) = zpow A (zpc (2 ^ n - 1 - m) i) * A := by
        show zpow A (zpc (2 ^ n - 1 - m) i + _) = _
        rw [d2, c0]; rfl
      have e2 : ∀ x, zmf f x n - zsb f x m (i + 1) = zmf f x n - zsb f x m i - 0 := by
        intro x
        show zmf f x n - (zsb f x m i + (if m / 2 ^ i % 2 = 1 then zsp f i x else 0)) = _
        rw [if_neg c]; grind
      have fin := fun v14 => ih (i + 1) v14 (by omega)
      rw [e1, e2 0, e2 1, nI_succ] at fin
      rw [c0] at d1
      refine WG.iload (pc' := 117) dX6_likely_115 rfl rfl ?_
      refine WG.aload_n (pc' := 118) dX6_likely_117 rfl rfl ?_
      refine WG.callVd (c_X6_many hG) m_X6_63 b_X6_many rfl rfl rfl (zrk_of rfl) rfl (Nat.le_of_ble_eq_true rfl) dX6_likely_118 (pc' := 121) rfl ?_
      refine WG.icmp_ge (tgt := 208) (pc' := 124) dX6_likely_121 rfl (by decide) (fun c_121 => ?_) (fun c_121 => ?_)
      · exact absurd c_121 (by rw [nI_leI (by omega) (by omega)]; omega)
      · refine WG.iload (pc' := 126) dX6_likely_124 rfl rfl ?_
        refine WG.iload (pc' := 128) dX6_likely_126 rfl rfl ?_
        refine WG.ishr (pc' := 129) dX6_likely_128 rfl ?_
        refine WG.iconst (v := 1) (pc' := 130) dX6_likely_129 rfl rfl ?_
        refine WG.iand (pc' := 131) dX6_likely_130 rfl ?_
        refine WG.iconst (v := 1) (pc' := 132) dX6_likely_131 rfl rfl ?_
        rw [d1]
        refine WG.icmp_ne (tgt := 139) (pc' := 135) dX6_likely_132 rfl (by decide) (fun c_132 => ?_) (fun c_132 => ?_)
        · refine WG.iconst (v := 0) (pc' := 140) dX6_likely_139 rfl rfl ?_
          refine WG.istore (L' := [_, _, _, _, _, _, _, _, _, _, _, _, _, _, _]) (pc' := 142) dX6_likely_140 rfl (by decide) rfl ?_
          refine WG.lload (pc' := 144) dX6_likely_142 rfl rfl ?_
          refine WG.iload (pc' := 146) dX6_likely_144 rfl rfl ?_
          refine WG.if_eq (tgt := 153) (pc' := 149) dX6_likely_146 rfl (by decide) (fun c_146 => ?_) (fun c_146 => ?_)
          · refine WG.iload_n (pc' := 154) dX6_likely_153 rfl rfl ?_
            refine WG.i2l (pc' := 155) dX6_likely_154 rfl ?_
            refine WG.lconst (v := 1) (pc' := 156) dX6_likely_155 rfl rfl ?_
            refine WG.lsub (pc' := 157) dX6_likely_156 rfl ?_
            rw [← hA]
            refine WG.lmul (pc' := 158) dX6_likely_157 rfl ?_
            refine WG.lstore (L' := [_, _, _, _, _, _, _, _, _, _, _, _, _, _, _]) (pc' := 160) dX6_likely_158 rfl (by decide) rfl ?_
            refine WG.iload (pc' := 162) dX6_likely_160 rfl rfl ?_
            refine WG.iload (pc' := 164) dX6_likely_162 rfl rfl ?_
            refine WG.if_eq (tgt := 177) (pc' := 167) dX6_likely_164 rfl (by decide) (fun c_164 => ?_) (fun c_164 => ?_)
            · refine WG.iconst (v := 0) (pc' := 178) dX6_likely_177 rfl rfl ?_
              refine WG.isub (pc' := 179) dX6_likely_178 rfl ?_
              refine WG.istore (L' := [_, _, _, _, _, _, _, _, _, _, _, _, _, _, _]) (pc' := 181) dX6_likely_179 rfl (by decide) rfl ?_
              refine WG.iload (pc' := 183) dX6_likely_181 rfl rfl ?_
              refine WG.iload (pc' := 185) dX6_likely_183 rfl rfl ?_
              refine WG.if_eq (tgt := 198) (pc' := 188) dX6_likely_185 rfl (by decide) (fun c_185 => ?_) (fun c_185 => ?_)
              · refine WG.iconst (v := 0) (pc' := 199) dX6_likely_198 rfl rfl ?_
                refine WG.isub (pc' := 200) dX6_likely_199 rfl ?_
                refine WG.istore (L' := [_, _, _, _, _, _, _, _, _, _, _, _, _, _, _]) (pc' := 202) dX6_likely_200 rfl (by decide) rfl ?_
                refine WG.iinc1 (L' := [_, _, _, _, _, _, _, _, _, _, _, _, _, _, _]) (pc' := 205) dX6_likely_202 rfl rfl (by decide) rfl ?_
                refine WG.goto (tgt := 115) dX6_likely_205 (by decide) ?_
                exact fin _
              · exact absurd rfl c_185
            · exact absurd rfl c_164
          · exact absurd rfl c_146
        · exact absurd c_132 (by decide)
set_option maxHeartbeats 4000000 in
set_option maxRecDepth 100000 in
theorem m_likB {σ : zA} {h : zH} {e a b p : Int32} (hX : RM σ h) (he : e = 0) (h1 : ¬ a < 2) (h2 : ¬ 20 < a) : ∀ (q m : Nat) (v9 v10 v11 v12 v13 v14 : Option Value), m + q = 2 ^ σ.1.1 → W_X6_likely (zPl RM zB2 h σ e (zvLk σ.1.1 σ.1.2 a b p)) 84 [some (.ref 86), some (.int a), some (.int b), some (.int p), some (.long (zsl (fun m => zgl_ σ.1.2 σ.1.1 b (a - 1).toInt64 (2 ^ σ.1.1 - 1 - m)) m)), none, some (.long (zpow a.toInt64 σ.1.1)), none, some (.int (nI m)), v9, v10, v11, v12, v13, v14] [] h := by
  have hS := hX.1
  have hn := hS.1
  have hp := zp2 hn
  have ab := za_b h1 h2
  have ea := zbt4 σ.1.1 (by omega)
  intro q
  induction q with
  | zero =>
    intro m v9 v10 v11 v12 v13 v14 hm
    obtain rfl : m = 2 ^ σ.1.1 := by omega
    have er := zsl_rev (g := zgl_ σ.1.2 σ.1.1 b (a - 1).toInt64) (N := 2 ^ σ.1.1) (2 ^ σ.1.1) (Nat.le_refl _)
    rw [Nat.sub_self, show zsl (zgl_ σ.1.2 σ.1.1 b (a - 1).toInt64) 0 = 0 from rfl, Int64.add_zero] at er
    rw [er]
    refine WG.iload (pc' := 86) dX6_likely_84 rfl rfl ?_
    refine WG.iconst (v := 1) (pc' := 87) dX6_likely_86 rfl rfl ?_
    refine WG.aload_n (pc' := 88) dX6_likely_87 rfl rfl ?_
    refine WG.callVd (c_X6_many hS) m_X6_63 b_X6_many rfl rfl rfl (zrk_of rfl) rfl (Nat.le_of_ble_eq_true rfl) dX6_likely_88 (pc' := 91) rfl ?_
    refine WG.ishl (pc' := 92) dX6_likely_91 rfl ?_
    rw [ea]
    refine WG.icmp_ge (tgt := 240) (pc' := 95) dX6_likely_92 rfl (by decide) (fun c_92 => ?_) (fun c_92 => ?_)
    · refine WG.lload (pc' := 242) dX6_likely_240 rfl rfl ?_
      refine WG.lload (pc' := 244) dX6_likely_242 rfl rfl ?_
      refine WG.iload_n (pc' := 245) dX6_likely_244 rfl rfl ?_
      refine WG.callSd (c_X6_lowest (zbd_of (zsl_b (zgl_b ab.2.1) _ (by omega)) (by omega)) (zbd_of (zpw_l ab.1 hn).1 (by decide)) (zpw_l ab.1 hn).2) m_X6_204 b_X6_lowest rfl (zrk_of rfl) rfl (Nat.le_of_ble_eq_true rfl) dX6_likely_245 (pc' := 248) rfl ?_
      refine WG.lreturn dX6_likely_248 rfl ?_
      exact zokl hX zFr.rf he rfl
    · exact absurd (by rw [nI_leI (by omega) (by omega)]; omega) c_92
  | succ q ih =>
    intro m v9 v10 v11 v12 v13 v14 hm
    have b3 := zbt3 σ.1.1 (by omega) (2 ^ σ.1.1 - 1 - m) (by omega)
    have z0 := zsb_e (f := σ.1.2) (a := 0) hn (show m < 2 ^ σ.1.1 by omega)
    have z1 := zsb_e (f := σ.1.2) (a := 1) hn (show m < 2 ^ σ.1.1 by omega)
    have es : zmg σ.1.2 (nI (2 ^ σ.1.1 - 1 - m)) σ.1.1 ≤ b → zsl (fun m => zgl_ σ.1.2 σ.1.1 b (a - 1).toInt64 (2 ^ σ.1.1 - 1 - m)) (m + 1) = zsl (fun m => zgl_ σ.1.2 σ.1.1 b (a - 1).toInt64 (2 ^ σ.1.1 - 1 - m)) m + zpow (a - 1).toInt64 (zpc (2 ^ σ.1.1 - 1 - m) σ.1.1) := fun z => by
      show _ + zgl_ _ _ _ _ _ = _
      unfold zgl_
      rw [if_pos z, b3]
    have en : ¬ zmg σ.1.2 (nI (2 ^ σ.1.1 - 1 - m)) σ.1.1 ≤ b → zsl (fun m => zgl_ σ.1.2 σ.1.1 b (a - 1).toInt64 (2 ^ σ.1.1 - 1 - m)) (m + 1) = zsl (fun m => zgl_ σ.1.2 σ.1.1 b (a - 1).toInt64 (2 ^ σ.1.1 - 1 - m)) m + 0 := fun z => by
      show _ + zgl_ _ _ _ _ _ = _
      unfold zgl_
      rw [if_neg z]
    have fin := fun v9 v10 v11 v12 v13 v14 => ih (m + 1) v9 v10 v11 v12 v13 v14 (by omega)
    rw [nI_succ] at fin
    clear ih
    have J : ∀ v14 : Option Value, W_X6_likely (zPl RM zB2 h σ e (zvLk σ.1.1 σ.1.2 a b p)) 208 [some (.ref 86), some (.int a), some (.int b), some (.int p), some (.long (zsl (fun m => zgl_ σ.1.2 σ.1.1 b (a - 1).toInt64 (2 ^ σ.1.1 - 1 - m)) m)), none, some (.long (zpow a.toInt64 σ.1.1)), none, some (.int (nI m)), some (.long (zpow (a - 1).toInt64 (zpc (2 ^ σ.1.1 - 1 - m) σ.1.1))), none, some (.int (zmf σ.1.2 0 σ.1.1 - zsb σ.1.2 0 m σ.1.1)), some (.int (zmf σ.1.2 1 σ.1.1 - zsb σ.1.2 1 m σ.1.1)), some (.int (nI σ.1.1)), v14] [] h := by
      intro v14
      rw [z0, z1]
      refine WG.lload (pc' := 210) dX6_likely_208 rfl rfl ?_
      refine WG.iload (pc' := 212) dX6_likely_210 rfl rfl ?_
      refine WG.callSd (c_X6_size _ _) m_X6_71 b_X6_size rfl (zrk_of rfl) rfl (Nat.le_of_ble_eq_true rfl) dX6_likely_212 (pc' := 215) rfl ?_
      refine WG.iload (pc' := 217) dX6_likely_215 rfl rfl ?_
      refine WG.callSd (c_X6_size _ _) m_X6_71 b_X6_size rfl (zrk_of rfl) rfl (Nat.le_of_ble_eq_true rfl) dX6_likely_217 (pc' := 220) rfl ?_
      refine WG.iadd (pc' := 221) dX6_likely_220 rfl ?_
      refine WG.iload_n (pc' := 222) dX6_likely_221 rfl rfl ?_
      refine WG.icmp_gt (tgt := 230) (pc' := 225) dX6_likely_222 rfl (by decide) (fun c_222 => ?_) (fun c_222 => ?_)
      · have c2 : ¬ zmg σ.1.2 (nI (2 ^ σ.1.1 - 1 - m)) σ.1.1 ≤ b := by unfold zmg; grind
        rw [en c2] at fin
        refine WG.lconst (v := 0) (pc' := 231) dX6_likely_230 rfl rfl ?_
        refine WG.ladd (pc' := 232) dX6_likely_231 rfl ?_
        refine WG.lstore (L' := [_, _, _, _, _, _, _, _, _, _, _, _, _, _, _]) (pc' := 234) dX6_likely_232 rfl (by decide) rfl ?_
        refine WG.iinc1 (L' := [_, _, _, _, _, _, _, _, _, _, _, _, _, _, _]) (pc' := 237) dX6_likely_234 rfl rfl (by decide) rfl ?_
        refine WG.goto (tgt := 84) dX6_likely_237 (by decide) ?_
        exact fin _ _ _ _ _ _
      · have c2 : zmg σ.1.2 (nI (2 ^ σ.1.1 - 1 - m)) σ.1.1 ≤ b := by unfold zmg; grind
        rw [es c2] at fin
        refine WG.lload (pc' := 227) dX6_likely_225 rfl rfl ?_
        refine WG.goto (tgt := 231) dX6_likely_227 (by decide) ?_
        refine WG.ladd (pc' := 232) dX6_likely_231 rfl ?_
        refine WG.lstore (L' := [_, _, _, _, _, _, _, _, _, _, _, _, _, _, _]) (pc' := 234) dX6_likely_232 rfl (by decide) rfl ?_
        refine WG.iinc1 (L' := [_, _, _, _, _, _, _, _, _, _, _, _, _, _, _]) (pc' := 237) dX6_likely_234 rfl rfl (by decide) rfl ?_
        refine WG.goto (tgt := 84) dX6_likely_237 (by decide) ?_
        exact fin _ _ _ _ _ _
    have C := m_likC (a := a) (b := b) (p := p) (S := zsl (fun m => zgl_ σ.1.2 σ.1.1 b (a - 1).toInt64 (2 ^ σ.1.1 - 1 - m)) m) (T := zpow a.toInt64 σ.1.1) hS (show m < 2 ^ σ.1.1 by omega) ab.2.2 J σ.1.1 0 v14 (by omega)
    rw [show zmf σ.1.2 0 σ.1.1 - zsb σ.1.2 0 m 0 = zmf σ.1.2 0 σ.1.1 from Int32.sub_zero _, show zmf σ.1.2 1 σ.1.1 - zsb σ.1.2 1 m 0 = zmf σ.1.2 1 σ.1.1 from Int32.sub_zero _] at C
    refine WG.iload (pc' := 86) dX6_likely_84 rfl rfl ?_
    refine WG.iconst (v := 1) (pc' := 87) dX6_likely_86 rfl rfl ?_
    refine WG.aload_n (pc' := 88) dX6_likely_87 rfl rfl ?_
    refine WG.callVd (c_X6_many hS) m_X6_63 b_X6_many rfl rfl rfl (zrk_of rfl) rfl (Nat.le_of_ble_eq_true rfl) dX6_likely_88 (pc' := 91) rfl ?_
    refine WG.ishl (pc' := 92) dX6_likely_91 rfl ?_
    rw [ea]
    refine WG.icmp_ge (tgt := 240) (pc' := 95) dX6_likely_92 rfl (by decide) (fun c_92 => ?_) (fun c_92 => ?_)
    · exact absurd c_92 (by rw [nI_leI (by omega) (by omega)]; omega)
    · refine WG.lconst (v := 1) (pc' := 96) dX6_likely_95 rfl rfl ?_
      refine WG.lstore (L' := [_, _, _, _, _, _, _, _, _, _, _, _, _, _, _]) (pc' := 98) dX6_likely_96 rfl (by decide) rfl ?_
      refine WG.aload_n (pc' := 99) dX6_likely_98 rfl rfl ?_
      refine WG.iconst (v := 0) (pc' := 100) dX6_likely_99 rfl rfl ?_
      refine WG.callVd (c_X6_missOf (a := 0) hS (by decide)) m_X6_181 b_X6_missOf rfl rfl rfl (zrk_of rfl) rfl (Nat.le_of_ble_eq_true rfl) dX6_likely_100 (pc' := 103) rfl ?_
      refine WG.istore (L' := [_, _, _, _, _, _, _, _, _, _, _, _, _, _, _]) (pc' := 105) dX6_likely_103 rfl (by decide) rfl ?_
      refine WG.aload_n (pc' := 106) dX6_likely_105 rfl rfl ?_
      refine WG.iconst (v := 1) (pc' := 107) dX6_likely_106 rfl rfl ?_
      refine WG.callVd (c_X6_missOf (a := 1) hS (by decide)) m_X6_181 b_X6_missOf rfl rfl rfl (zrk_of rfl) rfl (Nat.le_of_ble_eq_true rfl) dX6_likely_107 (pc' := 110) rfl ?_
      refine WG.istore (L' := [_, _, _, _, _, _, _, _, _, _, _, _, _, _, _]) (pc' := 112) dX6_likely_110 rfl (by decide) rfl ?_
      refine WG.iconst (v := 0) (pc' := 113) dX6_likely_112 rfl rfl ?_
      refine WG.istore (L' := [_, _, _, _, _, _, _, _, _, _, _, _, _, _, _]) (pc' := 115) dX6_likely_113 rfl (by decide) rfl ?_
      exact C
set_option maxHeartbeats 4000000 in
set_option maxRecDepth 100000 in
theorem m_likA {σ : zA} {h : zH} {e a b p : Int32} (hX : RM σ h) (he : e = 0) (h1 : ¬ a < 2) (h2 : ¬ 20 < a) : ∀ (q k : Nat), k + q = σ.1.1 → W_X6_likely (zPl RM zB2 h σ e (zvLk σ.1.1 σ.1.2 a b p)) 59 [some (.ref 86), some (.int a), some (.int b), some (.int p), some (.long 0), none, some (.long (zpow a.toInt64 k)), none, some (.int (nI k)), none, none, none, none, none, none] [] h := by
  have hS := hX.1
  have hn := hS.1
  intro q
  induction q with
  | zero =>
    intro k hk
    obtain rfl : k = σ.1.1 := by omega
    refine WG.iload (pc' := 61) dX6_likely_59 rfl rfl ?_
    refine WG.aload_n (pc' := 62) dX6_likely_61 rfl rfl ?_
    refine WG.callVd (c_X6_many hS) m_X6_63 b_X6_many rfl rfl rfl (zrk_of rfl) rfl (Nat.le_of_ble_eq_true rfl) dX6_likely_62 (pc' := 65) rfl ?_
    refine WG.icmp_ge (tgt := 81) (pc' := 68) dX6_likely_65 rfl (by decide) (fun c_65 => ?_) (fun c_65 => ?_)
    · refine WG.iconst (v := 0) (pc' := 82) dX6_likely_81 rfl rfl ?_
      refine WG.istore (L' := [_, _, _, _, _, _, _, _, _, _, _, _, _, _, _]) (pc' := 84) dX6_likely_82 rfl (by decide) rfl ?_
      exact m_likB hX he h1 h2 (2 ^ σ.1.1) 0 _ _ _ _ _ _ (by omega)
    · exact absurd (by rw [nI_leI (by omega) (by omega)]; omega) c_65
  | succ q ih =>
    intro k hk
    refine WG.iload (pc' := 61) dX6_likely_59 rfl rfl ?_
    refine WG.aload_n (pc' := 62) dX6_likely_61 rfl rfl ?_
    refine WG.callVd (c_X6_many hS) m_X6_63 b_X6_many rfl rfl rfl (zrk_of rfl) rfl (Nat.le_of_ble_eq_true rfl) dX6_likely_62 (pc' := 65) rfl ?_
    refine WG.icmp_ge (tgt := 81) (pc' := 68) dX6_likely_65 rfl (by decide) (fun c_65 => ?_) (fun c_65 => ?_)
    · exact absurd c_65 (by rw [nI_leI (by omega) (by omega)]; omega)
    · refine WG.lload (pc' := 70) dX6_likely_68 rfl rfl ?_
      refine WG.iload_n (pc' := 71) dX6_likely_70 rfl rfl ?_
      refine WG.i2l (pc' := 72) dX6_likely_71 rfl ?_
      refine WG.lmul (pc' := 73) dX6_likely_72 rfl ?_
      refine WG.lstore (L' := [_, _, _, _, _, _, _, _, _, _, _, _, _, _, _]) (pc' := 75) dX6_likely_73 rfl (by decide) rfl ?_
      refine WG.iinc1 (L' := [_, _, _, _, _, _, _, _, _, _, _, _, _, _, _]) (pc' := 78) dX6_likely_75 rfl rfl (by decide) rfl ?_
      refine WG.goto (tgt := 59) dX6_likely_78 (by decide) ?_
      rw [nI_1]
      exact ih (k + 1) (by omega)
set_option maxHeartbeats 4000000 in
set_option maxRecDepth 100000 in
theorem m_likely {σ : zA} {h : zH} (hX : RM σ h) (a b p : Int32) : K_X6_likely [.ref 86, .int a, .int b, .int p] h (zPl RM zB2 h σ (zeLk a b p) (zvLk σ.1.1 σ.1.2 a b p)) := by
  refine CT.of rfl rfl (Nat.le_of_ble_eq_true rfl) rfl ?_
  refine WG.iload_n (pc' := 1) dX6_likely_0 rfl rfl ?_
  refine WG.iconst (v := 2) (pc' := 2) dX6_likely_1 rfl rfl ?_
  refine WG.icmp_lt (tgt := 9) (pc' := 5) dX6_likely_2 rfl (by decide) (fun c_2 => ?_) (fun c_2 => ?_)
  · refine WG.aload_n (pc' := 10) dX6_likely_9 rfl rfl ?_
    refine WG.bipush (v := -4) (pc' := 12) dX6_likely_10 rfl rfl ?_
    refine WG.callVd (c_X6_far 4 (by decide)) m_X6_177 b_X6_far rfl rfl rfl (zrk_of rfl) rfl (Nat.le_of_ble_eq_true rfl) dX6_likely_12 (pc' := 15) rfl ?_
    refine WG.lreturn dX6_likely_15 rfl ?_
    exact zrMl hX zFr.rf (by decide) (zes_t (by grind))
  · refine WG.iload_n (pc' := 6) dX6_likely_5 rfl rfl ?_
    refine WG.if_ge (tgt := 16) (pc' := 9) dX6_likely_6 rfl (by decide) (fun c_6 => ?_) (fun c_6 => ?_)
    · refine WG.iload_n (pc' := 17) dX6_likely_16 rfl rfl ?_
      refine WG.bipush (v := 20) (pc' := 19) dX6_likely_17 rfl rfl ?_
      refine WG.icmp_gt (tgt := 29) (pc' := 22) dX6_likely_19 rfl (by decide) (fun c_19 => ?_) (fun c_19 => ?_)
      · refine WG.aload_n (pc' := 30) dX6_likely_29 rfl rfl ?_
        refine WG.bipush (v := -6) (pc' := 32) dX6_likely_30 rfl rfl ?_
        refine WG.callVd (c_X6_far 6 (by decide)) m_X6_177 b_X6_far rfl rfl rfl (zrk_of rfl) rfl (Nat.le_of_ble_eq_true rfl) dX6_likely_32 (pc' := 35) rfl ?_
        refine WG.lreturn dX6_likely_35 rfl ?_
        exact zrMl hX zFr.rf (by decide) ((zes_f (by grind)).trans (zes_t (by grind)))
      · refine WG.iload_n (pc' := 23) dX6_likely_22 rfl rfl ?_
        refine WG.sipush (v := 9999) (pc' := 26) dX6_likely_23 rfl rfl ?_
        refine WG.icmp_le (tgt := 36) (pc' := 29) dX6_likely_26 rfl (by decide) (fun c_26 => ?_) (fun c_26 => ?_)
        · refine WG.iload_n (pc' := 37) dX6_likely_36 rfl rfl ?_
          refine WG.callSd (c_X6_isPart h p) m_X6_197 b_X6_isPart rfl (zrk_of rfl) rfl (Nat.le_of_ble_eq_true rfl) dX6_likely_37 (pc' := 40) rfl ?_
          refine WG.if_ne (tgt := 50) (pc' := 43) dX6_likely_40 rfl (by decide) (fun c_40 => ?_) (fun c_40 => ?_)
          · rw [zb_ne] at c_40
            have he : zeLk a b p = 0 := (zes_f (by grind)).trans ((zes_f (by grind)).trans (zes_n c_40))
            refine WG.lconst (v := 0) (pc' := 51) dX6_likely_50 rfl rfl ?_
            refine WG.lstore (L' := [_, _, _, _, _, _, _, _, _, _, _, _, _, _, _]) (pc' := 53) dX6_likely_51 rfl (by decide) rfl ?_
            refine WG.lconst (v := 1) (pc' := 54) dX6_likely_53 rfl rfl ?_
            refine WG.lstore (L' := [_, _, _, _, _, _, _, _, _, _, _, _, _, _, _]) (pc' := 56) dX6_likely_54 rfl (by decide) rfl ?_
            refine WG.iconst (v := 0) (pc' := 57) dX6_likely_56 rfl rfl ?_
            refine WG.istore (L' := [_, _, _, _, _, _, _, _, _, _, _, _, _, _, _]) (pc' := 59) dX6_likely_57 rfl (by decide) rfl ?_
            exact m_likA hX he (by grind) (by grind) σ.1.1 0 (by omega)
          · rw [zb_eq] at c_40
            refine WG.aload_n (pc' := 44) dX6_likely_43 rfl rfl ?_
            refine WG.bipush (v := -2) (pc' := 46) dX6_likely_44 rfl rfl ?_
            refine WG.callVd (c_X6_far 2 (by decide)) m_X6_177 b_X6_far rfl rfl rfl (zrk_of rfl) rfl (Nat.le_of_ble_eq_true rfl) dX6_likely_46 (pc' := 49) rfl ?_
            refine WG.lreturn dX6_likely_49 rfl ?_
            exact zrMl hX zFr.rf (by decide) ((zes_f (by grind)).trans ((zes_f (by grind)).trans (zes_t c_40)))
        · refine WG.aload_n (pc' := 30) dX6_likely_29 rfl rfl ?_
          refine WG.bipush (v := -6) (pc' := 32) dX6_likely_30 rfl rfl ?_
          refine WG.callVd (c_X6_far 6 (by decide)) m_X6_177 b_X6_far rfl rfl rfl (zrk_of rfl) rfl (Nat.le_of_ble_eq_true rfl) dX6_likely_32 (pc' := 35) rfl ?_
          refine WG.lreturn dX6_likely_35 rfl ?_
          exact zrMl hX zFr.rf (by decide) ((zes_f (by grind)).trans (zes_t (by grind)))
    · refine WG.aload_n (pc' := 10) dX6_likely_9 rfl rfl ?_
      refine WG.bipush (v := -4) (pc' := 12) dX6_likely_10 rfl rfl ?_
      refine WG.callVd (c_X6_far 4 (by decide)) m_X6_177 b_X6_far rfl rfl rfl (zrk_of rfl) rfl (Nat.le_of_ble_eq_true rfl) dX6_likely_12 (pc' := 15) rfl ?_
      refine WG.lreturn dX6_likely_15 rfl ?_
      exact zrMl hX zFr.rf (by decide) (zes_t (by grind))
