/-! lengths -/
theorem zbut88 : ∀ n, n < 9 → ∀ s, s < n → ∀ t, t < n → ∀ i, i < n → (((zbut n s &&& zbut n t) >>> (nI i &&& 31)) &&& 1) = if i = s ∨ i = t then 0 else 1 := by decide +kernel
theorem zms_2 {f : zf} {a n s t : Nat} (hn : n ≤ 8) (hs : s < n) (ht : t < n) (hne : s ≠ t) : zms f a (zbut n s &&& zbut n t) n = zmf f a n - zsp f s a - zsp f t a := by
  have h1 : (zms f a (zbut n s &&& zbut n t) n + zsum (fun i => if i = s then zsp f i a else 0) n) + zsum (fun i => if i = t then zsp f i a else 0) n = zmf f a n := by
    unfold zms zmf
    rw [← zsum_add, ← zsum_add]
    refine zsum_eq n (fun i hi => ?_)
    rw [zbut88 n (by omega) s hs t ht i hi]
    by_cases c : i = s
    · rw [if_pos (Or.inl c), if_pos c, if_neg (by omega)]; grind
    · by_cases c2 : i = t
      · rw [if_pos (Or.inr c2), if_neg c, if_pos c2]; grind
      · rw [if_neg (by omega), if_neg c, if_neg c2]; grind
  rw [zsum_one, if_pos hs, zsum_one, if_pos ht] at h1
  grind
def zM2 (f : zf) (n a j k : Nat) : Int32 := zmf f a n - zsp f j a - zsp f k a
theorem zM2_b {f : zf} {n a j k : Nat} (hV : VS n f) (ha : a < 2) (hj : j < n) (hk : k < n) : (zmf f a n).toInt64 - (zsp f j a).toInt64 - (zsp f k a).toInt64 = (zM2 f n a j k).toInt64 ∧ (-zM2 f n a j k).toInt64 = -(zM2 f n a j k).toInt64 ∧ zi (-zM2 f n a j k) 15390 := by
  have b0 := zmf_b hV ha
  have b1 := (zsp_b hV hj ha).2
  have b2 := (zsp_b hV hk ha).2
  have s1 := zi_sub b0 b1 (by decide)
  have s2 := zi_sub s1.2 b2 (by decide)
  have l1 := zl_sub (zl_of b0) (zl_of b1) (by decide)
  have l2 := zl_sub l1.2 (zl_of b2) (by decide)
  have ng := zi_neg s2.2 (by decide)
  have ngl := zl_neg (zl_of s2.2) (by decide)
  refine ⟨Int64.toInt_inj.mp ?_, Int64.toInt_inj.mp ?_, ng.2⟩
  · rw [l2.1, l1.1]
    unfold zM2
    rw [zi64, zi64, zi64, zi64, s2.1, s1.1]
  · show (-(zmf f a n - zsp f j a - zsp f k a)).toInt64.toInt = (-(zmf f a n - zsp f j a - zsp f k a).toInt64).toInt
    rw [zi64, ng.1, ngl.1, zi64]
def zdt (f : zf) (j k : Nat) : Int64 := (zun f j 0).toInt64 * (zun f k 1).toInt64 - (zun f j 1).toInt64 * (zun f k 0).toInt64
def zNE (f : zf) (n j k : Nat) : Int64 := (-zM2 f n 0 j k).toInt64 * (zun f k 1).toInt64 - (-zM2 f n 1 j k).toInt64 * (zun f k 0).toInt64
def zNO (f : zf) (n j k : Nat) : Int64 := (zun f j 0).toInt64 * (-zM2 f n 1 j k).toInt64 - (zun f j 1).toInt64 * (-zM2 f n 0 j k).toInt64
theorem zdt_b {f : zf} {n j k : Nat} (hV : VS n f) (hj : j < n) (hk : k < n) : zbd (zdt f j k) := by
  have u := fun (i a : Nat) (hi : i < n) (ha : a < 2) => zl_of (zsp_b hV hi ha).1
  exact zbd_of (zl_sub (zl_mul (u j 0 hj (by decide)) (u k 1 hk (by decide)) (by decide)).2 (zl_mul (u j 1 hj (by decide)) (u k 0 hk (by decide)) (by decide)).2 (by decide)).2 (by decide)
theorem zNE_b {f : zf} {n j k : Nat} (hV : VS n f) (hj : j < n) (hk : k < n) : zbd (zNE f n j k) := by
  have u := fun (i a : Nat) (hi : i < n) (ha : a < 2) => zl_of (zsp_b hV hi ha).1
  have v := fun (a : Nat) (ha : a < 2) => zl_of (zM2_b hV ha hj hk).2.2
  exact zbd_of (zl_sub (zl_mul (v 0 (by decide)) (u k 1 hk (by decide)) (by decide)).2 (zl_mul (v 1 (by decide)) (u k 0 hk (by decide)) (by decide)).2 (by decide)).2 (by decide)
theorem zNO_b {f : zf} {n j k : Nat} (hV : VS n f) (hj : j < n) (hk : k < n) : zbd (zNO f n j k) := by
  have u := fun (i a : Nat) (hi : i < n) (ha : a < 2) => zl_of (zsp_b hV hi ha).1
  have v := fun (a : Nat) (ha : a < 2) => zl_of (zM2_b hV ha hj hk).2.2
  exact zbd_of (zl_sub (zl_mul (u j 0 hj (by decide)) (v 1 (by decide)) (by decide)).2 (zl_mul (u j 1 hj (by decide)) (v 0 (by decide)) (by decide)).2 (by decide)).2 (by decide)
theorem zNE_m {f : zf} {n j k : Nat} (hV : VS n f) (hj : j < n) (hk : k < n) : (zun f k 0).toInt64 * (zM2 f n 1 j k).toInt64 - (zun f k 1).toInt64 * (zM2 f n 0 j k).toInt64 = zNE f n j k := by
  unfold zNE
  rw [(zM2_b hV (a := 0) (by decide) hj hk).2.1, (zM2_b hV (a := 1) (by decide) hj hk).2.1]
  grind
theorem zNO_m {f : zf} {n j k : Nat} (hV : VS n f) (hj : j < n) (hk : k < n) : (zun f j 1).toInt64 * (zM2 f n 0 j k).toInt64 - (zun f j 0).toInt64 * (zM2 f n 1 j k).toInt64 = zNO f n j k := by
  unfold zNO
  rw [(zM2_b hV (a := 0) (by decide) hj hk).2.1, (zM2_b hV (a := 1) (by decide) hj hk).2.1]
  grind
noncomputable def zeLe (n : Nat) (f : zf) (s t w p : Int32) : Int32 := zes [(¬ (zsd n s ∧ zsd n t ∧ s ≠ t), -1), (¬ ((w = 0 ∨ w = 1) ∧ (p = 0 ∨ p = 1)), -2), (zdt f s.toNatClampNeg t.toNatClampNeg = 0, -3)]
noncomputable def zvL (n : Nat) (f : zf) (j k : Nat) (w p : Int32) : Int64 := zfr (if w = 0 then zNE f n j k else zNO f n j k) (zdt f j k) p
set_option maxHeartbeats 4000000 in
set_option maxRecDepth 100000 in
theorem x_lengths {σ : zA} {h : zH} (hX : RX σ h) (hV : VS σ.1.1 σ.1.2) (s t w p : Int32) : K_X5_lengths [.ref 0, .int s, .int t, .int w, .int p] h (zPl RX zB1 h σ (zeLe σ.1.1 σ.1.2 s t w p) (zvL σ.1.1 σ.1.2 s.toNatClampNeg t.toNatClampNeg w p)) := by
  have hS := hX.1
  have hn := hS.2.1
  refine CT.of rfl rfl (Nat.le_of_ble_eq_true rfl) rfl ?_
  refine WG.aload_n (pc' := 1) dX5_lengths_0 rfl rfl ?_
  refine WG.getR (r := 1) f_X5_10 (pc' := 4) dX5_lengths_1 rfl rfl rfl rfl ?_
  refine WG.iload_n (pc' := 5) dX5_lengths_4 rfl rfl ?_
  refine WG.callVd (c_X4_has hS s) m_X5_105 b_X4_has rfl rfl rfl (zrk_of rfl) rfl (Nat.le_of_ble_eq_true rfl) dX5_lengths_5 (pc' := 8) rfl ?_
  refine WG.if_eq (tgt := 27) (pc' := 11) dX5_lengths_8 rfl (by decide) (fun c_8 => ?_) (fun c_8 => ?_)
  · rw [zb_eq] at c_8
    refine WG.aload_n (pc' := 28) dX5_lengths_27 rfl rfl ?_
    refine WG.iconst (v := -1) (pc' := 29) dX5_lengths_28 rfl rfl ?_
    refine WG.callVd (c_X5_refuseLong 1 (by decide)) m_X5_116 b_X5_refuseLong rfl rfl rfl (zrk_of rfl) rfl (Nat.le_of_ble_eq_true rfl) dX5_lengths_29 (pc' := 32) rfl ?_
    refine WG.lreturn dX5_lengths_32 rfl ?_
    first
      | exact zrXl hX zFr.rf (by decide) (zes_t (fun z => c_24 z.2.2))
      | exact zrXl hX zFr.rf (by decide) (zes_t (fun z => z.2.2 c_24))
      | exact zrXl hX zFr.rf (by decide) (zes_t (fun z => c_19 z.2.1))
      | exact zrXl hX zFr.rf (by decide) (zes_t (fun z => c_8 z.1))
  · rw [zb_nn] at c_8
    refine WG.aload_n (pc' := 12) dX5_lengths_11 rfl rfl ?_
    refine WG.getR (r := 1) f_X5_10 (pc' := 15) dX5_lengths_12 rfl rfl rfl rfl ?_
    refine WG.iload_n (pc' := 16) dX5_lengths_15 rfl rfl ?_
    refine WG.callVd (c_X4_has hS t) m_X5_105 b_X4_has rfl rfl rfl (zrk_of rfl) rfl (Nat.le_of_ble_eq_true rfl) dX5_lengths_16 (pc' := 19) rfl ?_
    refine WG.if_eq (tgt := 27) (pc' := 22) dX5_lengths_19 rfl (by decide) (fun c_19 => ?_) (fun c_19 => ?_)
    · rw [zb_eq] at c_19
      refine WG.aload_n (pc' := 28) dX5_lengths_27 rfl rfl ?_
      refine WG.iconst (v := -1) (pc' := 29) dX5_lengths_28 rfl rfl ?_
      refine WG.callVd (c_X5_refuseLong 1 (by decide)) m_X5_116 b_X5_refuseLong rfl rfl rfl (zrk_of rfl) rfl (Nat.le_of_ble_eq_true rfl) dX5_lengths_29 (pc' := 32) rfl ?_
      refine WG.lreturn dX5_lengths_32 rfl ?_
      first
        | exact zrXl hX zFr.rf (by decide) (zes_t (fun z => c_24 z.2.2))
        | exact zrXl hX zFr.rf (by decide) (zes_t (fun z => z.2.2 c_24))
        | exact zrXl hX zFr.rf (by decide) (zes_t (fun z => c_19 z.2.1))
        | exact zrXl hX zFr.rf (by decide) (zes_t (fun z => c_8 z.1))
    · rw [zb_nn] at c_19
      refine WG.iload_n (pc' := 23) dX5_lengths_22 rfl rfl ?_
      refine WG.iload_n (pc' := 24) dX5_lengths_23 rfl rfl ?_
      refine WG.icmp_ne (tgt := 33) (pc' := 27) dX5_lengths_24 rfl (by decide) (fun c_24 => ?_) (fun c_24 => ?_)
      · obtain ⟨j, hj, rfl⟩ := zsd_of (by omega) c_8
        obtain ⟨k, hk, rfl⟩ := zsd_of (by omega) c_19
        have hjk : j ≠ k := fun q => c_24 (by rw [q])
        have e3 : zdt σ.1.2 (nI j).toNatClampNeg (nI k).toNatClampNeg = zdt σ.1.2 j k := by rw [nI_clamp (show j < 2 ^ 31 by omega), nI_clamp (show k < 2 ^ 31 by omega)]
        have c1 : zsd σ.1.1 (nI j) ∧ zsd σ.1.1 (nI k) ∧ nI j ≠ nI k := ⟨c_8, c_19, c_24⟩
        rw [nI_clamp (show j < 2 ^ 31 by omega), nI_clamp (show k < 2 ^ 31 by omega)]
        refine WG.iload_n (pc' := 34) dX5_lengths_33 rfl rfl ?_
        refine WG.callSd (c_X5_isOneOfTwo h w) m_X5_144 b_X5_isOneOfTwo rfl (zrk_of rfl) rfl (Nat.le_of_ble_eq_true rfl) dX5_lengths_34 (pc' := 37) rfl ?_
        refine WG.if_eq (tgt := 48) (pc' := 40) dX5_lengths_37 rfl (by decide) (fun c_37 => ?_) (fun c_37 => ?_)
        · rw [zb_eq] at c_37
          refine WG.aload_n (pc' := 49) dX5_lengths_48 rfl rfl ?_
          refine WG.bipush (v := -2) (pc' := 51) dX5_lengths_49 rfl rfl ?_
          refine WG.callVd (c_X5_refuseLong 2 (by decide)) m_X5_116 b_X5_refuseLong rfl rfl rfl (zrk_of rfl) rfl (Nat.le_of_ble_eq_true rfl) dX5_lengths_51 (pc' := 54) rfl ?_
          refine WG.lreturn dX5_lengths_54 rfl ?_
          first
            | exact zrXl hX zFr.rf (by decide) ((zes_n c1).trans (zes_t (fun z => c_45 z.2)))
            | exact zrXl hX zFr.rf (by decide) ((zes_n c1).trans (zes_t (fun z => c_37 z.1)))
        · rw [zb_nn] at c_37
          refine WG.iload (pc' := 42) dX5_lengths_40 rfl rfl ?_
          refine WG.callSd (c_X5_isOneOfTwo h p) m_X5_144 b_X5_isOneOfTwo rfl (zrk_of rfl) rfl (Nat.le_of_ble_eq_true rfl) dX5_lengths_42 (pc' := 45) rfl ?_
          refine WG.if_ne (tgt := 55) (pc' := 48) dX5_lengths_45 rfl (by decide) (fun c_45 => ?_) (fun c_45 => ?_)
          · rw [zb_ne] at c_45
            refine WG.aload_n (pc' := 56) dX5_lengths_55 rfl rfl ?_
            refine WG.getR (r := 1) f_X5_10 (pc' := 59) dX5_lengths_56 rfl rfl rfl rfl ?_
            refine WG.iload_n (pc' := 60) dX5_lengths_59 rfl rfl ?_
            refine WG.callVd (c_X4_onceEast hS hj) m_X5_213 b_X4_onceEast rfl rfl rfl (zrk_of rfl) rfl (Nat.le_of_ble_eq_true rfl) dX5_lengths_60 (pc' := 63) rfl ?_
            refine WG.i2l (pc' := 64) dX5_lengths_63 rfl ?_
            refine WG.lstore (L' := [_, _, _, _, _, _, _, _, _, _, _, _, _, _, _, _, _, _, _, _, _, _]) (pc' := 66) dX5_lengths_64 rfl (by decide) rfl ?_
            refine WG.aload_n (pc' := 67) dX5_lengths_66 rfl rfl ?_
            refine WG.getR (r := 1) f_X5_10 (pc' := 70) dX5_lengths_67 rfl rfl rfl rfl ?_
            refine WG.iload_n (pc' := 71) dX5_lengths_70 rfl rfl ?_
            refine WG.callVd (c_X4_onceNorth hS hj) m_X5_216 b_X4_onceNorth rfl rfl rfl (zrk_of rfl) rfl (Nat.le_of_ble_eq_true rfl) dX5_lengths_71 (pc' := 74) rfl ?_
            refine WG.i2l (pc' := 75) dX5_lengths_74 rfl ?_
            refine WG.lstore (L' := [_, _, _, _, _, _, _, _, _, _, _, _, _, _, _, _, _, _, _, _, _, _]) (pc' := 77) dX5_lengths_75 rfl (by decide) rfl ?_
            refine WG.aload_n (pc' := 78) dX5_lengths_77 rfl rfl ?_
            refine WG.getR (r := 1) f_X5_10 (pc' := 81) dX5_lengths_78 rfl rfl rfl rfl ?_
            refine WG.iload_n (pc' := 82) dX5_lengths_81 rfl rfl ?_
            refine WG.callVd (c_X4_onceEast hS hk) m_X5_213 b_X4_onceEast rfl rfl rfl (zrk_of rfl) rfl (Nat.le_of_ble_eq_true rfl) dX5_lengths_82 (pc' := 85) rfl ?_
            refine WG.i2l (pc' := 86) dX5_lengths_85 rfl ?_
            refine WG.lstore (L' := [_, _, _, _, _, _, _, _, _, _, _, _, _, _, _, _, _, _, _, _, _, _]) (pc' := 88) dX5_lengths_86 rfl (by decide) rfl ?_
            refine WG.aload_n (pc' := 89) dX5_lengths_88 rfl rfl ?_
            refine WG.getR (r := 1) f_X5_10 (pc' := 92) dX5_lengths_89 rfl rfl rfl rfl ?_
            refine WG.iload_n (pc' := 93) dX5_lengths_92 rfl rfl ?_
            refine WG.callVd (c_X4_onceNorth hS hk) m_X5_216 b_X4_onceNorth rfl rfl rfl (zrk_of rfl) rfl (Nat.le_of_ble_eq_true rfl) dX5_lengths_93 (pc' := 96) rfl ?_
            refine WG.i2l (pc' := 97) dX5_lengths_96 rfl ?_
            refine WG.lstore (L' := [_, _, _, _, _, _, _, _, _, _, _, _, _, _, _, _, _, _, _, _, _, _]) (pc' := 99) dX5_lengths_97 rfl (by decide) rfl ?_
            refine WG.lload (pc' := 101) dX5_lengths_99 rfl rfl ?_
            refine WG.lload (pc' := 103) dX5_lengths_101 rfl rfl ?_
            refine WG.lmul (pc' := 104) dX5_lengths_103 rfl ?_
            refine WG.lload (pc' := 106) dX5_lengths_104 rfl rfl ?_
            refine WG.lload (pc' := 108) dX5_lengths_106 rfl rfl ?_
            refine WG.lmul (pc' := 109) dX5_lengths_108 rfl ?_
            refine WG.lsub (pc' := 110) dX5_lengths_109 rfl ?_
            refine WG.lstore (L' := [_, _, _, _, _, _, _, _, _, _, _, _, _, _, _, _, _, _, _, _, _, _]) (pc' := 112) dX5_lengths_110 rfl (by decide) rfl ?_
            refine WG.lload (pc' := 114) dX5_lengths_112 rfl rfl ?_
            refine WG.lconst (v := 0) (pc' := 115) dX5_lengths_114 rfl rfl ?_
            refine WG.lif_ne (tgt := 126) (pc1 := 116) (pc' := 119) dX5_lengths_115 rfl dX5_lengths_116 rfl (by decide) (fun c_116 => ?_) (fun c_116 => ?_)
            · have cz : zdt σ.1.2 j k ≠ 0 := c_116
              have he : zeLe σ.1.1 σ.1.2 (nI j) (nI k) w p = 0 := (zes_n c1).trans ((zes_n ⟨c_37, c_45⟩).trans (zes_f (by rw [e3]; exact cz)))
              refine WG.aload_n (pc' := 127) dX5_lengths_126 rfl rfl ?_
              refine WG.getR (r := 1) f_X5_10 (pc' := 130) dX5_lengths_127 rfl rfl rfl rfl ?_
              refine WG.iload_n (pc' := 131) dX5_lengths_130 rfl rfl ?_
              refine WG.callVd (c_X4_allBut hS) m_X5_210 b_X4_allBut rfl rfl rfl (zrk_of rfl) rfl (Nat.le_of_ble_eq_true rfl) dX5_lengths_131 (pc' := 134) rfl ?_
              refine WG.aload_n (pc' := 135) dX5_lengths_134 rfl rfl ?_
              refine WG.getR (r := 1) f_X5_10 (pc' := 138) dX5_lengths_135 rfl rfl rfl rfl ?_
              refine WG.iload_n (pc' := 139) dX5_lengths_138 rfl rfl ?_
              refine WG.callVd (c_X4_allBut hS) m_X5_210 b_X4_allBut rfl rfl rfl (zrk_of rfl) rfl (Nat.le_of_ble_eq_true rfl) dX5_lengths_139 (pc' := 142) rfl ?_
              refine WG.iand (pc' := 143) dX5_lengths_142 rfl ?_
              refine WG.istore (L' := [_, _, _, _, _, _, _, _, _, _, _, _, _, _, _, _, _, _, _, _, _, _]) (pc' := 145) dX5_lengths_143 rfl (by decide) rfl ?_
              refine WG.aload_n (pc' := 146) dX5_lengths_145 rfl rfl ?_
              refine WG.getR (r := 1) f_X5_10 (pc' := 149) dX5_lengths_146 rfl rfl rfl rfl ?_
              refine WG.iload (pc' := 151) dX5_lengths_149 rfl rfl ?_
              refine WG.callVd (c_X4_missEast hS _) m_X5_150 b_X4_missEast rfl rfl rfl (zrk_of rfl) rfl (Nat.le_of_ble_eq_true rfl) dX5_lengths_151 (pc' := 154) rfl ?_
              rw [zms_2 hn hj hk hjk]
              refine WG.ineg (pc' := 155) dX5_lengths_154 rfl ?_
              refine WG.i2l (pc' := 156) dX5_lengths_155 rfl ?_
              refine WG.lstore (L' := [_, _, _, _, _, _, _, _, _, _, _, _, _, _, _, _, _, _, _, _, _, _]) (pc' := 158) dX5_lengths_156 rfl (by decide) rfl ?_
              refine WG.aload_n (pc' := 159) dX5_lengths_158 rfl rfl ?_
              refine WG.getR (r := 1) f_X5_10 (pc' := 162) dX5_lengths_159 rfl rfl rfl rfl ?_
              refine WG.iload (pc' := 164) dX5_lengths_162 rfl rfl ?_
              refine WG.callVd (c_X4_missNorth hS _) m_X5_153 b_X4_missNorth rfl rfl rfl (zrk_of rfl) rfl (Nat.le_of_ble_eq_true rfl) dX5_lengths_164 (pc' := 167) rfl ?_
              rw [zms_2 hn hj hk hjk]
              refine WG.ineg (pc' := 168) dX5_lengths_167 rfl ?_
              refine WG.i2l (pc' := 169) dX5_lengths_168 rfl ?_
              refine WG.lstore (L' := [_, _, _, _, _, _, _, _, _, _, _, _, _, _, _, _, _, _, _, _, _, _]) (pc' := 171) dX5_lengths_169 rfl (by decide) rfl ?_
              refine WG.iload_n (pc' := 172) dX5_lengths_171 rfl rfl ?_
              refine WG.if_ne (tgt := 189) (pc' := 175) dX5_lengths_172 rfl (by decide) (fun c_172 => ?_) (fun c_172 => ?_)
              · have cN := zNO_b (n := σ.1.1) hV hj hk
                refine WG.lload (pc' := 191) dX5_lengths_189 rfl rfl ?_
                refine WG.lload (pc' := 193) dX5_lengths_191 rfl rfl ?_
                refine WG.lmul (pc' := 194) dX5_lengths_193 rfl ?_
                refine WG.lload (pc' := 196) dX5_lengths_194 rfl rfl ?_
                refine WG.lload (pc' := 198) dX5_lengths_196 rfl rfl ?_
                refine WG.lmul (pc' := 199) dX5_lengths_198 rfl ?_
                refine WG.lsub (pc' := 200) dX5_lengths_199 rfl ?_
                refine WG.lstore (L' := [_, _, _, _, _, _, _, _, _, _, _, _, _, _, _, _, _, _, _, _, _, _]) (pc' := 202) dX5_lengths_200 rfl (by decide) rfl ?_
                refine WG.lload (pc' := 204) dX5_lengths_202 rfl rfl ?_
                refine WG.lload (pc' := 206) dX5_lengths_204 rfl rfl ?_
                refine WG.iload (pc' := 208) dX5_lengths_206 rfl rfl ?_
                refine WG.callSd (c_X5_fraction cN (zdt_b hV hj hk) cz) m_X5_171 b_X5_fraction rfl (zrk_of rfl) rfl (Nat.le_of_ble_eq_true rfl) dX5_lengths_208 (pc' := 211) rfl ?_
                refine WG.lreturn dX5_lengths_211 rfl ?_
                first
                  | exact zokl hX zFr.rf he (by unfold zvL; rw [if_pos c_172])
                  | exact zokl hX zFr.rf he (by unfold zvL; rw [if_neg c_172])
              · have cN := zNE_b (n := σ.1.1) hV hj hk
                refine WG.lload (pc' := 177) dX5_lengths_175 rfl rfl ?_
                refine WG.lload (pc' := 179) dX5_lengths_177 rfl rfl ?_
                refine WG.lmul (pc' := 180) dX5_lengths_179 rfl ?_
                refine WG.lload (pc' := 182) dX5_lengths_180 rfl rfl ?_
                refine WG.lload (pc' := 184) dX5_lengths_182 rfl rfl ?_
                refine WG.lmul (pc' := 185) dX5_lengths_184 rfl ?_
                refine WG.lsub (pc' := 186) dX5_lengths_185 rfl ?_
                refine WG.goto (tgt := 200) dX5_lengths_186 (by decide) ?_
                refine WG.lstore (L' := [_, _, _, _, _, _, _, _, _, _, _, _, _, _, _, _, _, _, _, _, _, _]) (pc' := 202) dX5_lengths_200 rfl (by decide) rfl ?_
                refine WG.lload (pc' := 204) dX5_lengths_202 rfl rfl ?_
                refine WG.lload (pc' := 206) dX5_lengths_204 rfl rfl ?_
                refine WG.iload (pc' := 208) dX5_lengths_206 rfl rfl ?_
                refine WG.callSd (c_X5_fraction cN (zdt_b hV hj hk) cz) m_X5_171 b_X5_fraction rfl (zrk_of rfl) rfl (Nat.le_of_ble_eq_true rfl) dX5_lengths_208 (pc' := 211) rfl ?_
                refine WG.lreturn dX5_lengths_211 rfl ?_
                first
                  | exact zokl hX zFr.rf he (by unfold zvL; rw [if_pos c_172])
                  | exact zokl hX zFr.rf he (by unfold zvL; rw [if_neg c_172])
            · refine WG.aload_n (pc' := 120) dX5_lengths_119 rfl rfl ?_
              refine WG.bipush (v := -3) (pc' := 122) dX5_lengths_120 rfl rfl ?_
              refine WG.callVd (c_X5_refuseLong 3 (by decide)) m_X5_116 b_X5_refuseLong rfl rfl rfl (zrk_of rfl) rfl (Nat.le_of_ble_eq_true rfl) dX5_lengths_122 (pc' := 125) rfl ?_
              refine WG.lreturn dX5_lengths_125 rfl ?_
              exact zrXl hX zFr.rf (by decide) ((zes_n c1).trans ((zes_n ⟨c_37, c_45⟩).trans (zes_t (by rw [e3]; first | exact c_116 | exact Classical.not_not.mp c_116))))
          · rw [zb_eq] at c_45
            refine WG.aload_n (pc' := 49) dX5_lengths_48 rfl rfl ?_
            refine WG.bipush (v := -2) (pc' := 51) dX5_lengths_49 rfl rfl ?_
            refine WG.callVd (c_X5_refuseLong 2 (by decide)) m_X5_116 b_X5_refuseLong rfl rfl rfl (zrk_of rfl) rfl (Nat.le_of_ble_eq_true rfl) dX5_lengths_51 (pc' := 54) rfl ?_
            refine WG.lreturn dX5_lengths_54 rfl ?_
            first
              | exact zrXl hX zFr.rf (by decide) ((zes_n c1).trans (zes_t (fun z => c_45 z.2)))
              | exact zrXl hX zFr.rf (by decide) ((zes_n c1).trans (zes_t (fun z => c_37 z.1)))
      · refine WG.aload_n (pc' := 28) dX5_lengths_27 rfl rfl ?_
        refine WG.iconst (v := -1) (pc' := 29) dX5_lengths_28 rfl rfl ?_
        refine WG.callVd (c_X5_refuseLong 1 (by decide)) m_X5_116 b_X5_refuseLong rfl rfl rfl (zrk_of rfl) rfl (Nat.le_of_ble_eq_true rfl) dX5_lengths_29 (pc' := 32) rfl ?_
        refine WG.lreturn dX5_lengths_32 rfl ?_
        first
          | exact zrXl hX zFr.rf (by decide) (zes_t (fun z => c_24 z.2.2))
          | exact zrXl hX zFr.rf (by decide) (zes_t (fun z => z.2.2 c_24))
          | exact zrXl hX zFr.rf (by decide) (zes_t (fun z => c_19 z.2.1))
          | exact zrXl hX zFr.rf (by decide) (zes_t (fun z => c_8 z.1))
set_option maxHeartbeats 4000000 in
set_option maxRecDepth 100000 in
theorem m_lengths {σ : zA} {h : zH} (hX : RM σ h) (hV : VS σ.1.1 σ.1.2) (s t w p : Int32) : K_X6_lengths [.ref 86, .int s, .int t, .int w, .int p] h (zPl RM zB2 h σ (zeLe σ.1.1 σ.1.2 s t w p) (zvL σ.1.1 σ.1.2 s.toNatClampNeg t.toNatClampNeg w p)) := by
  have hS := hX.1
  have hn := hS.1
  refine CT.of rfl rfl (Nat.le_of_ble_eq_true rfl) rfl ?_
  refine WG.aload_n (pc' := 1) dX6_lengths_0 rfl rfl ?_
  refine WG.iload_n (pc' := 2) dX6_lengths_1 rfl rfl ?_
  refine WG.callVd (c_X6_isSide hS s) m_X6_106 b_X6_isSide rfl rfl rfl (zrk_of rfl) rfl (Nat.le_of_ble_eq_true rfl) dX6_lengths_2 (pc' := 5) rfl ?_
  refine WG.if_eq (tgt := 21) (pc' := 8) dX6_lengths_5 rfl (by decide) (fun c_5 => ?_) (fun c_5 => ?_)
  · rw [zb_eq] at c_5
    refine WG.aload_n (pc' := 22) dX6_lengths_21 rfl rfl ?_
    refine WG.iconst (v := -1) (pc' := 23) dX6_lengths_22 rfl rfl ?_
    refine WG.callVd (c_X6_far 1 (by decide)) m_X6_177 b_X6_far rfl rfl rfl (zrk_of rfl) rfl (Nat.le_of_ble_eq_true rfl) dX6_lengths_23 (pc' := 26) rfl ?_
    refine WG.lreturn dX6_lengths_26 rfl ?_
    first
      | exact zrMl hX zFr.rf (by decide) (zes_t (fun z => z.2.2 c_18))
      | exact zrMl hX zFr.rf (by decide) (zes_t (fun z => c_13 z.2.1))
      | exact zrMl hX zFr.rf (by decide) (zes_t (fun z => c_5 z.1))
  · rw [zb_nn] at c_5
    refine WG.aload_n (pc' := 9) dX6_lengths_8 rfl rfl ?_
    refine WG.iload_n (pc' := 10) dX6_lengths_9 rfl rfl ?_
    refine WG.callVd (c_X6_isSide hS t) m_X6_106 b_X6_isSide rfl rfl rfl (zrk_of rfl) rfl (Nat.le_of_ble_eq_true rfl) dX6_lengths_10 (pc' := 13) rfl ?_
    refine WG.if_eq (tgt := 21) (pc' := 16) dX6_lengths_13 rfl (by decide) (fun c_13 => ?_) (fun c_13 => ?_)
    · rw [zb_eq] at c_13
      refine WG.aload_n (pc' := 22) dX6_lengths_21 rfl rfl ?_
      refine WG.iconst (v := -1) (pc' := 23) dX6_lengths_22 rfl rfl ?_
      refine WG.callVd (c_X6_far 1 (by decide)) m_X6_177 b_X6_far rfl rfl rfl (zrk_of rfl) rfl (Nat.le_of_ble_eq_true rfl) dX6_lengths_23 (pc' := 26) rfl ?_
      refine WG.lreturn dX6_lengths_26 rfl ?_
      first
        | exact zrMl hX zFr.rf (by decide) (zes_t (fun z => z.2.2 c_18))
        | exact zrMl hX zFr.rf (by decide) (zes_t (fun z => c_13 z.2.1))
        | exact zrMl hX zFr.rf (by decide) (zes_t (fun z => c_5 z.1))
    · rw [zb_nn] at c_13
      refine WG.iload_n (pc' := 17) dX6_lengths_16 rfl rfl ?_
      refine WG.iload_n (pc' := 18) dX6_lengths_17 rfl rfl ?_
      refine WG.icmp_ne (tgt := 27) (pc' := 21) dX6_lengths_18 rfl (by decide) (fun c_18 => ?_) (fun c_18 => ?_)
      · obtain ⟨j, hj, rfl⟩ := zsd_of (by omega) c_5
        obtain ⟨k, hk, rfl⟩ := zsd_of (by omega) c_13
        have hjk : j ≠ k := fun q => c_18 (by rw [q])
        have e3 : zdt σ.1.2 (nI j).toNatClampNeg (nI k).toNatClampNeg = zdt σ.1.2 j k := by rw [nI_clamp (show j < 2 ^ 31 by omega), nI_clamp (show k < 2 ^ 31 by omega)]
        have c1 : zsd σ.1.1 (nI j) ∧ zsd σ.1.1 (nI k) ∧ nI j ≠ nI k := ⟨c_5, c_13, c_18⟩
        rw [nI_clamp (show j < 2 ^ 31 by omega), nI_clamp (show k < 2 ^ 31 by omega)]
        refine WG.iload_n (pc' := 28) dX6_lengths_27 rfl rfl ?_
        refine WG.i2l (pc' := 29) dX6_lengths_28 rfl ?_
        refine WG.lconst (v := 0) (pc' := 30) dX6_lengths_29 rfl rfl ?_
        refine WG.lconst (v := 1) (pc' := 31) dX6_lengths_30 rfl rfl ?_
        refine WG.callSd (c_X6_in _ _ _ _) m_X6_67 b_X6_in rfl (zrk_of rfl) rfl (Nat.le_of_ble_eq_true rfl) dX6_lengths_31 (pc' := 34) rfl ?_
        refine WG.if_eq (tgt := 45) (pc' := 37) dX6_lengths_34 rfl (by decide) (fun c_34 => ?_) (fun c_34 => ?_)
        · rw [zb_eq, zin01] at c_34
          refine WG.aload_n (pc' := 46) dX6_lengths_45 rfl rfl ?_
          refine WG.bipush (v := -2) (pc' := 48) dX6_lengths_46 rfl rfl ?_
          refine WG.callVd (c_X6_far 2 (by decide)) m_X6_177 b_X6_far rfl rfl rfl (zrk_of rfl) rfl (Nat.le_of_ble_eq_true rfl) dX6_lengths_48 (pc' := 51) rfl ?_
          refine WG.lreturn dX6_lengths_51 rfl ?_
          first
            | exact zrMl hX zFr.rf (by decide) ((zes_n c1).trans (zes_t (fun z => c_42 z.2)))
            | exact zrMl hX zFr.rf (by decide) ((zes_n c1).trans (zes_t (fun z => c_34 z.1)))
        · rw [zb_nn, zin01] at c_34
          refine WG.iload (pc' := 39) dX6_lengths_37 rfl rfl ?_
          refine WG.callSd (c_X6_isPart h p) m_X6_197 b_X6_isPart rfl (zrk_of rfl) rfl (Nat.le_of_ble_eq_true rfl) dX6_lengths_39 (pc' := 42) rfl ?_
          refine WG.if_ne (tgt := 52) (pc' := 45) dX6_lengths_42 rfl (by decide) (fun c_42 => ?_) (fun c_42 => ?_)
          · rw [zb_ne] at c_42
            refine WG.aload_n (pc' := 53) dX6_lengths_52 rfl rfl ?_
            refine WG.iload_n (pc' := 54) dX6_lengths_53 rfl rfl ?_
            refine WG.iconst (v := 0) (pc' := 55) dX6_lengths_54 rfl rfl ?_
            refine WG.callVd (c_X6_unit (a := 0) hS hj (by decide)) m_X6_90 b_X6_unit rfl rfl rfl (zrk_of rfl) rfl (Nat.le_of_ble_eq_true rfl) dX6_lengths_55 (pc' := 58) rfl ?_
            refine WG.i2l (pc' := 59) dX6_lengths_58 rfl ?_
            refine WG.lstore (L' := [_, _, _, _, _, _, _, _, _, _, _, _, _, _, _, _, _, _, _]) (pc' := 61) dX6_lengths_59 rfl (by decide) rfl ?_
            refine WG.aload_n (pc' := 62) dX6_lengths_61 rfl rfl ?_
            refine WG.iload_n (pc' := 63) dX6_lengths_62 rfl rfl ?_
            refine WG.iconst (v := 1) (pc' := 64) dX6_lengths_63 rfl rfl ?_
            refine WG.callVd (c_X6_unit (a := 1) hS hj (by decide)) m_X6_90 b_X6_unit rfl rfl rfl (zrk_of rfl) rfl (Nat.le_of_ble_eq_true rfl) dX6_lengths_64 (pc' := 67) rfl ?_
            refine WG.i2l (pc' := 68) dX6_lengths_67 rfl ?_
            refine WG.lstore (L' := [_, _, _, _, _, _, _, _, _, _, _, _, _, _, _, _, _, _, _]) (pc' := 70) dX6_lengths_68 rfl (by decide) rfl ?_
            refine WG.aload_n (pc' := 71) dX6_lengths_70 rfl rfl ?_
            refine WG.iload_n (pc' := 72) dX6_lengths_71 rfl rfl ?_
            refine WG.iconst (v := 0) (pc' := 73) dX6_lengths_72 rfl rfl ?_
            refine WG.callVd (c_X6_unit (a := 0) hS hk (by decide)) m_X6_90 b_X6_unit rfl rfl rfl (zrk_of rfl) rfl (Nat.le_of_ble_eq_true rfl) dX6_lengths_73 (pc' := 76) rfl ?_
            refine WG.i2l (pc' := 77) dX6_lengths_76 rfl ?_
            refine WG.lstore (L' := [_, _, _, _, _, _, _, _, _, _, _, _, _, _, _, _, _, _, _]) (pc' := 79) dX6_lengths_77 rfl (by decide) rfl ?_
            refine WG.aload_n (pc' := 80) dX6_lengths_79 rfl rfl ?_
            refine WG.iload_n (pc' := 81) dX6_lengths_80 rfl rfl ?_
            refine WG.iconst (v := 1) (pc' := 82) dX6_lengths_81 rfl rfl ?_
            refine WG.callVd (c_X6_unit (a := 1) hS hk (by decide)) m_X6_90 b_X6_unit rfl rfl rfl (zrk_of rfl) rfl (Nat.le_of_ble_eq_true rfl) dX6_lengths_82 (pc' := 85) rfl ?_
            refine WG.i2l (pc' := 86) dX6_lengths_85 rfl ?_
            refine WG.lstore (L' := [_, _, _, _, _, _, _, _, _, _, _, _, _, _, _, _, _, _, _]) (pc' := 88) dX6_lengths_86 rfl (by decide) rfl ?_
            refine WG.aload_n (pc' := 89) dX6_lengths_88 rfl rfl ?_
            refine WG.iconst (v := 0) (pc' := 90) dX6_lengths_89 rfl rfl ?_
            refine WG.callVd (c_X6_missOf (a := 0) hS (by decide)) m_X6_181 b_X6_missOf rfl rfl rfl (zrk_of rfl) rfl (Nat.le_of_ble_eq_true rfl) dX6_lengths_90 (pc' := 93) rfl ?_
            refine WG.i2l (pc' := 94) dX6_lengths_93 rfl ?_
            refine WG.aload_n (pc' := 95) dX6_lengths_94 rfl rfl ?_
            refine WG.iload_n (pc' := 96) dX6_lengths_95 rfl rfl ?_
            refine WG.iconst (v := 0) (pc' := 97) dX6_lengths_96 rfl rfl ?_
            refine WG.callVd (c_X6_step (a := 0) hS hj (by decide)) m_X6_93 b_X6_step rfl rfl rfl (zrk_of rfl) rfl (Nat.le_of_ble_eq_true rfl) dX6_lengths_97 (pc' := 100) rfl ?_
            refine WG.i2l (pc' := 101) dX6_lengths_100 rfl ?_
            refine WG.lsub (pc' := 102) dX6_lengths_101 rfl ?_
            refine WG.aload_n (pc' := 103) dX6_lengths_102 rfl rfl ?_
            refine WG.iload_n (pc' := 104) dX6_lengths_103 rfl rfl ?_
            refine WG.iconst (v := 0) (pc' := 105) dX6_lengths_104 rfl rfl ?_
            refine WG.callVd (c_X6_step (a := 0) hS hk (by decide)) m_X6_93 b_X6_step rfl rfl rfl (zrk_of rfl) rfl (Nat.le_of_ble_eq_true rfl) dX6_lengths_105 (pc' := 108) rfl ?_
            refine WG.i2l (pc' := 109) dX6_lengths_108 rfl ?_
            refine WG.lsub (pc' := 110) dX6_lengths_109 rfl ?_
            rw [(zM2_b hV (a := 0) (by decide) hj hk).1]
            refine WG.lstore (L' := [_, _, _, _, _, _, _, _, _, _, _, _, _, _, _, _, _, _, _]) (pc' := 112) dX6_lengths_110 rfl (by decide) rfl ?_
            refine WG.aload_n (pc' := 113) dX6_lengths_112 rfl rfl ?_
            refine WG.iconst (v := 1) (pc' := 114) dX6_lengths_113 rfl rfl ?_
            refine WG.callVd (c_X6_missOf (a := 1) hS (by decide)) m_X6_181 b_X6_missOf rfl rfl rfl (zrk_of rfl) rfl (Nat.le_of_ble_eq_true rfl) dX6_lengths_114 (pc' := 117) rfl ?_
            refine WG.i2l (pc' := 118) dX6_lengths_117 rfl ?_
            refine WG.aload_n (pc' := 119) dX6_lengths_118 rfl rfl ?_
            refine WG.iload_n (pc' := 120) dX6_lengths_119 rfl rfl ?_
            refine WG.iconst (v := 1) (pc' := 121) dX6_lengths_120 rfl rfl ?_
            refine WG.callVd (c_X6_step (a := 1) hS hj (by decide)) m_X6_93 b_X6_step rfl rfl rfl (zrk_of rfl) rfl (Nat.le_of_ble_eq_true rfl) dX6_lengths_121 (pc' := 124) rfl ?_
            refine WG.i2l (pc' := 125) dX6_lengths_124 rfl ?_
            refine WG.lsub (pc' := 126) dX6_lengths_125 rfl ?_
            refine WG.aload_n (pc' := 127) dX6_lengths_126 rfl rfl ?_
            refine WG.iload_n (pc' := 128) dX6_lengths_127 rfl rfl ?_
            refine WG.iconst (v := 1) (pc' := 129) dX6_lengths_128 rfl rfl ?_
            refine WG.callVd (c_X6_step (a := 1) hS hk (by decide)) m_X6_93 b_X6_step rfl rfl rfl (zrk_of rfl) rfl (Nat.le_of_ble_eq_true rfl) dX6_lengths_129 (pc' := 132) rfl ?_
            refine WG.i2l (pc' := 133) dX6_lengths_132 rfl ?_
            refine WG.lsub (pc' := 134) dX6_lengths_133 rfl ?_
            rw [(zM2_b hV (a := 1) (by decide) hj hk).1]
            refine WG.lstore (L' := [_, _, _, _, _, _, _, _, _, _, _, _, _, _, _, _, _, _, _]) (pc' := 136) dX6_lengths_134 rfl (by decide) rfl ?_
            refine WG.lload (pc' := 138) dX6_lengths_136 rfl rfl ?_
            refine WG.lload (pc' := 140) dX6_lengths_138 rfl rfl ?_
            refine WG.lmul (pc' := 141) dX6_lengths_140 rfl ?_
            refine WG.lload (pc' := 143) dX6_lengths_141 rfl rfl ?_
            refine WG.lload (pc' := 145) dX6_lengths_143 rfl rfl ?_
            refine WG.lmul (pc' := 146) dX6_lengths_145 rfl ?_
            refine WG.lsub (pc' := 147) dX6_lengths_146 rfl ?_
            refine WG.lstore (L' := [_, _, _, _, _, _, _, _, _, _, _, _, _, _, _, _, _, _, _]) (pc' := 149) dX6_lengths_147 rfl (by decide) rfl ?_
            refine WG.lload (pc' := 151) dX6_lengths_149 rfl rfl ?_
            refine WG.lconst (v := 0) (pc' := 152) dX6_lengths_151 rfl rfl ?_
            refine WG.lif_ne (tgt := 163) (pc1 := 153) (pc' := 156) dX6_lengths_152 rfl dX6_lengths_153 rfl (by decide) (fun c_153 => ?_) (fun c_153 => ?_)
            · have cz : zdt σ.1.2 j k ≠ 0 := c_153
              have he : zeLe σ.1.1 σ.1.2 (nI j) (nI k) w p = 0 := (zes_n c1).trans ((zes_n ⟨c_34, c_42⟩).trans (zes_f (by rw [e3]; exact cz)))
              refine WG.iload_n (pc' := 164) dX6_lengths_163 rfl rfl ?_
              refine WG.if_ne (tgt := 181) (pc' := 167) dX6_lengths_164 rfl (by decide) (fun c_164 => ?_) (fun c_164 => ?_)
              · have cN := zNO_b (n := σ.1.1) hV hj hk
                have cE := zNO_m (n := σ.1.1) hV hj hk
                refine WG.lload (pc' := 183) dX6_lengths_181 rfl rfl ?_
                refine WG.lload (pc' := 185) dX6_lengths_183 rfl rfl ?_
                refine WG.lmul (pc' := 186) dX6_lengths_185 rfl ?_
                refine WG.lload (pc' := 188) dX6_lengths_186 rfl rfl ?_
                refine WG.lload (pc' := 190) dX6_lengths_188 rfl rfl ?_
                refine WG.lmul (pc' := 191) dX6_lengths_190 rfl ?_
                refine WG.lsub (pc' := 192) dX6_lengths_191 rfl ?_
                refine WG.lload (pc' := 194) dX6_lengths_192 rfl rfl ?_
                refine WG.iload (pc' := 196) dX6_lengths_194 rfl rfl ?_
                rw [cE]
                refine WG.callSd (c_X6_lowest cN (zdt_b hV hj hk) cz) m_X6_204 b_X6_lowest rfl (zrk_of rfl) rfl (Nat.le_of_ble_eq_true rfl) dX6_lengths_196 (pc' := 199) rfl ?_
                refine WG.lreturn dX6_lengths_199 rfl ?_
                first
                  | exact zokl hX zFr.rf he (by unfold zvL; rw [if_pos c_164])
                  | exact zokl hX zFr.rf he (by unfold zvL; rw [if_neg c_164])
              · have cN := zNE_b (n := σ.1.1) hV hj hk
                have cE := zNE_m (n := σ.1.1) hV hj hk
                refine WG.lload (pc' := 169) dX6_lengths_167 rfl rfl ?_
                refine WG.lload (pc' := 171) dX6_lengths_169 rfl rfl ?_
                refine WG.lmul (pc' := 172) dX6_lengths_171 rfl ?_
                refine WG.lload (pc' := 174) dX6_lengths_172 rfl rfl ?_
                refine WG.lload (pc' := 176) dX6_lengths_174 rfl rfl ?_
                refine WG.lmul (pc' := 177) dX6_lengths_176 rfl ?_
                refine WG.lsub (pc' := 178) dX6_lengths_177 rfl ?_
                refine WG.goto (tgt := 192) dX6_lengths_178 (by decide) ?_
                refine WG.lload (pc' := 194) dX6_lengths_192 rfl rfl ?_
                refine WG.iload (pc' := 196) dX6_lengths_194 rfl rfl ?_
                rw [cE]
                refine WG.callSd (c_X6_lowest cN (zdt_b hV hj hk) cz) m_X6_204 b_X6_lowest rfl (zrk_of rfl) rfl (Nat.le_of_ble_eq_true rfl) dX6_lengths_196 (pc' := 199) rfl ?_
                refine WG.lreturn dX6_lengths_199 rfl ?_
                first
                  | exact zokl hX zFr.rf he (by unfold zvL; rw [if_pos c_164])
                  | exact zokl hX zFr.rf he (by unfold zvL; rw [if_neg c_164])
            · refine WG.aload_n (pc' := 157) dX6_lengths_156 rfl rfl ?_
              refine WG.bipush (v := -3) (pc' := 159) dX6_lengths_157 rfl rfl ?_
              refine WG.callVd (c_X6_far 3 (by decide)) m_X6_177 b_X6_far rfl rfl rfl (zrk_of rfl) rfl (Nat.le_of_ble_eq_true rfl) dX6_lengths_159 (pc' := 162) rfl ?_
              refine WG.lreturn dX6_lengths_162 rfl ?_
              exact zrMl hX zFr.rf (by decide) ((zes_n c1).trans ((zes_n ⟨c_34, c_42⟩).trans (zes_t (by rw [e3]; first | exact c_153 | exact Classical.not_not.mp c_153))))
          · rw [zb_eq] at c_42
            refine WG.aload_n (pc' := 46) dX6_lengths_45 rfl rfl ?_
            refine WG.bipush (v := -2) (pc' := 48) dX6_lengths_46 rfl rfl ?_
            refine WG.callVd (c_X6_far 2 (by decide)) m_X6_177 b_X6_far rfl rfl rfl (zrk_of rfl) rfl (Nat.le_of_ble_eq_true rfl) dX6_lengths_48 (pc' := 51) rfl ?_
            refine WG.lreturn dX6_lengths_51 rfl ?_
            first
              | exact zrMl hX zFr.rf (by decide) ((zes_n c1).trans (zes_t (fun z => c_42 z.2)))
              | exact zrMl hX zFr.rf (by decide) ((zes_n c1).trans (zes_t (fun z => c_34 z.1)))
      · refine WG.aload_n (pc' := 22) dX6_lengths_21 rfl rfl ?_
        refine WG.iconst (v := -1) (pc' := 23) dX6_lengths_22 rfl rfl ?_
        refine WG.callVd (c_X6_far 1 (by decide)) m_X6_177 b_X6_far rfl rfl rfl (zrk_of rfl) rfl (Nat.le_of_ble_eq_true rfl) dX6_lengths_23 (pc' := 26) rfl ?_
        refine WG.lreturn dX6_lengths_26 rfl ?_
        first
          | exact zrMl hX zFr.rf (by decide) (zes_t (fun z => z.2.2 c_18))
          | exact zrMl hX zFr.rf (by decide) (zes_t (fun z => c_13 z.2.1))
          | exact zrMl hX zFr.rf (by decide) (zes_t (fun z => c_5 z.1))
