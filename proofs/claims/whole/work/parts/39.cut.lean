/-! cut -/
set_option maxHeartbeats 4000000 in
set_option maxRecDepth 100000 in
theorem c_X5_fraction0 {h : zH} {a : Int64} {p : Int32} (ha : zbd a) : K_X5_fraction [.long a, .long 0, .int p] h (zD (some (.long p.toInt64)) h) := by
  refine CT.of rfl rfl (Nat.le_of_ble_eq_true rfl) rfl ?_
  have hb : zbd 0 := by unfold zbd; decide
  refine WG.lload_n (pc' := 1) dX5_fraction_0 rfl rfl ?_
  refine WG.lload_n (pc' := 2) dX5_fraction_1 rfl rfl ?_
  refine WG.callSd (c_X5_commonDivisor ha hb) m_X5_296 b_X5_commonDivisor rfl (zrk_of rfl) rfl (Nat.le_of_ble_eq_true rfl) dX5_fraction_2 (pc' := 5) rfl ?_
  refine WG.lstore (L' := [_, _, _, _, _, _, _]) (pc' := 7) dX5_fraction_5 rfl (by decide) rfl ?_
  refine WG.lload_n (pc' := 8) dX5_fraction_7 rfl rfl ?_
  refine WG.lconst (v := 0) (pc' := 9) dX5_fraction_8 rfl rfl ?_
  refine WG.lif_eq (tgt := 20) (pc1 := 10) (pc' := 13) dX5_fraction_9 rfl dX5_fraction_10 rfl (by decide) (fun c_10 => ?_) (fun c_10 => ?_)
  · refine WG.iload (pc' := 22) dX5_fraction_20 rfl rfl ?_
    refine WG.i2l (pc' := 23) dX5_fraction_22 rfl ?_
    refine WG.lreturn dX5_fraction_23 rfl ?_
    exact ⟨rfl, rfl⟩
  · exact absurd rfl c_10
theorem zfr_0 {b : Int64} {p : Int32} (hb : zbd b) (h0 : b ≠ 0) (hp : p = 0 ∨ p = 1) : zfr 0 b p = p.toInt64 := by
  have e : Nat.gcd (zna 0) (zna b) = zna b := by show Nat.gcd 0 _ = _; exact Nat.gcd_zero_left _
  have e2 : (if b < 0 then -lN (zna b) else lN (zna b)) = b := by
    rw [← zabs_l hb]
    by_cases c : b < 0
    · rw [if_pos c, if_pos c]; grind
    · rw [if_neg c, if_neg c]
  unfold zfr
  rw [e, e2]
  rcases hp with rfl | rfl
  · rw [if_pos rfl, Int64.zero_div]; rfl
  · rw [if_neg (by decide), Int64.div_self, if_neg h0]; rfl
noncomputable def zcu (n : Nat) (px py : Nat → Int64) (c : Nat) (v : Int64) (w : Int32) (j : Nat) : Nat → Int64
  | 0 => -9
  | m + 1 => @ite Int64 (zrc v (zpa n px py c (j + 1))) (Classical.propDecidable _) (if w = 0 then (nI (j + 1)).toInt64 else if v = 0 then (w - 1).toInt64 else zfr (v - zpa n px py c j) (zpa n px py c (j + 1) - zpa n px py c j) (w - 1)) (zcu n px py c v w (j + 1) m)
def zinv (v s : Int64) (j : Nat) : Prop := (v = 0 ∧ j = 0 ∧ s = 0) ∨ (0 < v ∧ s < v) ∨ (v < 0 ∧ v < s)
theorem zcs_cmp {v s : Int64} (hv : zl v 20000000000000) (hs : zl s 195536769928591872) : (v - s = 0 ↔ v = s) ∧ (0 < v - s ↔ s < v) ∧ zbd (v - s) := by
  have d := zl_sub hv hs (by decide)
  have z : (0 : Int64).toInt = 0 := by decide
  refine ⟨by grind, ?_, zbd_of d.2 (by decide)⟩
  rw [Int64.lt_iff_toInt_lt, Int64.lt_iff_toInt_lt, d.1, z]
  omega
theorem zinv_s {v s s' : Int64} {j j' : Nat} (hi : zinv v s j) (h : ¬ zrc v s') : zinv v s' j' := by unfold zinv zrc at *; grind
set_option maxHeartbeats 4000000 in
set_option maxRecDepth 100000 in
theorem m_cutJ {n : Nat} {w : Int64} {ux uy px py : Nat → Int64} {h1 : zH} (hL : RCm n w ux uy px py h1) {c j m : Nat} {a p : Int32} {v V : Int64} (hv : zl v 20000000000000) (b0 : zl (zpa n px py c j) 195536769928591872) (b1 : zl (zpa n px py c (j + 1)) 195536769928591872) {Q : Option Value → zH → Prop} (hQ : Q (some (.long V)) h1) (hi : zinv v (zpa n px py c j) j) (hr : zrc v (zpa n px py c (j + 1))) (hV : V = zcu n px py c v p j (m + 1)) : W_X6_cut Q 177 [some (.ref 86), some (.int (nI c)), some (.int a), some (.int p), some (.long v), none, some (.int (nI (j + 1))), some (.long (v - zpa n px py c j)), none, some (.long (v - zpa n px py c (j + 1))), none] [] h1 := by
  have d0 := zcs_cmp hv b0
  have d1 := zl_sub b1 b0 (by decide)
  have eV : V = if p = 0 then (nI (j + 1)).toInt64 else if v = 0 then (p - 1).toInt64 else zfr (v - zpa n px py c j) (zpa n px py c (j + 1) - zpa n px py c j) (p - 1) := hV.trans (if_pos hr)
  have ez : v - zpa n px py c (j) - (v - zpa n px py c (j + 1)) = zpa n px py c (j + 1) - zpa n px py c j := by grind
  have ev : v - zpa n px py c j = 0 ↔ v = 0 := by rw [d0.1]; unfold zinv at hi; grind
  have ne : v ≠ 0 → zpa n px py c (j + 1) - zpa n px py c j ≠ 0 := by intro q; unfold zinv at hi; unfold zrc at hr; grind
  have key : ∀ r, r = V → Q (some (.long r)) h1 := fun r e => by rw [e]; exact hQ
  clear hQ
  refine WG.iload_n (pc' := 178) dX6_cut_177 rfl rfl ?_
  refine WG.if_ne (tgt := 187) (pc' := 181) dX6_cut_178 rfl (by decide) (fun c_178 => ?_) (fun c_178 => ?_)
  · refine WG.lload (pc' := 189) dX6_cut_187 rfl rfl ?_
    refine WG.lconst (v := 0) (pc' := 190) dX6_cut_189 rfl rfl ?_
    refine WG.lif_ne (tgt := 201) (pc1 := 191) (pc' := 194) dX6_cut_190 rfl dX6_cut_191 rfl (by decide) (fun c_191 => ?_) (fun c_191 => ?_)
    · refine WG.lload (pc' := 203) dX6_cut_201 rfl rfl ?_
      refine WG.lload (pc' := 205) dX6_cut_203 rfl rfl ?_
      refine WG.lload (pc' := 207) dX6_cut_205 rfl rfl ?_
      refine WG.lsub (pc' := 208) dX6_cut_207 rfl ?_
      refine WG.iload_n (pc' := 209) dX6_cut_208 rfl rfl ?_
      refine WG.iconst (v := 1) (pc' := 210) dX6_cut_209 rfl rfl ?_
      refine WG.isub (pc' := 211) dX6_cut_210 rfl ?_
      rw [ez]
      refine WG.callSd (c_X6_lowest d0.2.2 (zbd_of d1.2 (by decide)) (ne (mt ev.mpr (by first | exact c_191 | assumption)))) m_X6_204 b_X6_lowest rfl (zrk_of rfl) rfl (Nat.le_of_ble_eq_true rfl) dX6_cut_211 (pc' := 214) rfl ?_
      refine WG.lreturn dX6_cut_214 rfl ?_
      first
        | exact key _ (by rw [eV, if_pos c_178])
        | exact key _ (by rw [eV, if_neg c_178, if_pos (ev.mp c_191)])
        | exact key _ (by rw [eV, if_neg c_178, if_neg (mt ev.mpr c_191)])
    · refine WG.iload_n (pc' := 195) dX6_cut_194 rfl rfl ?_
      refine WG.iconst (v := 1) (pc' := 196) dX6_cut_195 rfl rfl ?_
      refine WG.isub (pc' := 197) dX6_cut_196 rfl ?_
      refine WG.i2l (pc' := 198) dX6_cut_197 rfl ?_
      refine WG.goto (tgt := 214) dX6_cut_198 (by decide) ?_
      refine WG.lreturn dX6_cut_214 rfl ?_
      first
        | exact key _ (by rw [eV, if_pos c_178])
        | exact key _ (by rw [eV, if_neg c_178, if_pos (ev.mp c_191)])
        | exact key _ (by rw [eV, if_neg c_178, if_neg (mt ev.mpr c_191)])
  · refine WG.iload (pc' := 183) dX6_cut_181 rfl rfl ?_
    refine WG.i2l (pc' := 184) dX6_cut_183 rfl ?_
    refine WG.goto (tgt := 214) dX6_cut_184 (by decide) ?_
    refine WG.lreturn dX6_cut_214 rfl ?_
    first
      | exact key _ (by rw [eV, if_pos c_178])
      | exact key _ (by rw [eV, if_neg c_178, if_pos (ev.mp c_191)])
      | exact key _ (by rw [eV, if_neg c_178, if_neg (mt ev.mpr c_191)])
theorem zn2 {n : Nat} (hn : n ≤ 8) : nI n - 2 < nI 1 ∨ ∃ d, n = d + 2 ∧ nI n - 2 = nI d := by
  by_cases q : 2 ≤ n
  · right; exact ⟨n - 2, by omega, pk_sub (b := 2) q⟩
  · left
    rcases (show n = 0 ∨ n = 1 by omega) with rfl | rfl <;> decide
theorem zn2_gt {n j : Nat} (hn : n ≤ 8) (hj : 0 < j → j + 2 ≤ n) (hm : n - 2 - j = 0) : nI n - 2 < nI (j + 1) := by
  rcases zn2 hn with q | ⟨d, e1, e2⟩
  · have := nI_leI (a := 1) (b := j + 1) (by omega) (by by_cases z : 0 < j; (have := hj z; omega); omega)
    grind
  · rw [e2, nI_ltI (by omega) (by by_cases z : 0 < j; (have := hj z; omega); omega)]
    omega
theorem zn2_le {n j m : Nat} (hn : n ≤ 8) (hm : n - 2 - j = m + 1) : ¬ nI n - 2 < nI (j + 1) := by
  rcases zn2 hn with q | ⟨d, e1, e2⟩
  · exfalso
    rcases (show 2 ≤ n by omega) with z
    rw [show nI n - 2 = nI (n - 2) from pk_sub (b := 2) z, nI_ltI (by omega) (by omega)] at q
    omega
  · rw [e2, nI_ltI (by omega) (by omega)]
    omega
theorem zpa_B {n c j : Nat} {px py : Nat → Int64} (hn : n ≤ 8) (hB : zPB n px py) (hc : c < n) (h : j + 2 ≤ n ∨ j = 0) : zl (zpa n px py c j) 195536769928591872 := zl_mo (zpa_b hn hB hc j h) (by omega)
set_option maxHeartbeats 4000000 in
set_option maxRecDepth 100000 in
theorem m_cutL {n : Nat} {f : zf} {w : Int64} {ux uy px py : Nat → Int64} {h1 : zH} (hG : RG 88 0 n f h1) (hL : RCm n w ux uy px py h1) (hB : zPB n px py) {c : Nat} (hc : c < n) {a p : Int32} {v V : Int64} (hv : zl v 20000000000000) {Q : Option Value → zH → Prop} (hQ : Q (some (.long V)) h1) : ∀ (m j : Nat) (x7 x8 x9 x10 : Option Value), (0 < j → j + 2 ≤ n) → n - 2 - j = m → zinv v (zpa n px py c j) j → V = zcu n px py c v p j m → W_X6_cut Q 96 [some (.ref 86), some (.int (nI c)), some (.int a), some (.int p), some (.long v), none, some (.int (nI (j + 1))), x7, x8, x9, x10] [] h1 := by
  have hn := hL.1
  intro m
  induction m with
  | zero =>
    intro j x7 x8 x9 x10 hj hm hi hV
    have hgt := zn2_gt hn hj hm
    have hV : V = -9 := hV
    refine WG.iload (pc' := 98) dX6_cut_96 rfl rfl ?_
    refine WG.aload_n (pc' := 99) dX6_cut_98 rfl rfl ?_
    refine WG.callVd (c_X6_many hG) m_X6_63 b_X6_many rfl rfl rfl (zrk_of rfl) rfl (Nat.le_of_ble_eq_true rfl) dX6_cut_99 (pc' := 102) rfl ?_
    refine WG.iconst (v := 2) (pc' := 103) dX6_cut_102 rfl rfl ?_
    refine WG.isub (pc' := 104) dX6_cut_103 rfl ?_
    refine WG.icmp_gt (tgt := 221) (pc' := 107) dX6_cut_104 rfl (by decide) (fun c_104 => ?_) (fun c_104 => ?_)
    · refine WG.ldc2 (pc' := 224) dX6_cut_221 rfl k_X6_291 ?_
      refine WG.lreturn dX6_cut_224 rfl ?_
      exact by rw [hV] at hQ; exact hQ
    · exact absurd hgt c_104
  | succ m ih =>
    intro j x7 x8 x9 x10 hj hm hi hV
    have hle := zn2_le hn hm
    have b0 := zpa_B hn hB hc (j := j) (by omega)
    have b1 := zpa_B hn hB hc (j := j + 1) (by omega)
    have ep : nI (j + 1) - 1 = nI j := pk_sub (a := j + 1) (b := 1) (by omega)
    have d0 := zcs_cmp hv b0
    have d1 := zcs_cmp hv b1
    have J1 : zrc v (zpa n px py c (j + 1)) → W_X6_cut Q 177 [some (.ref 86), some (.int (nI c)), some (.int a), some (.int p), some (.long v), none, some (.int (nI (j + 1))), some (.long (v - zpa n px py c j)), none, some (.long (v - zpa n px py c (j + 1))), none] [] h1 := fun hr => m_cutJ hL hv b0 b1 hQ hi hr hV
    have J2 : ¬ zrc v (zpa n px py c (j + 1)) → ∀ (x7 x8 x9 x10 : Option Value), W_X6_cut Q 96 [some (.ref 86), some (.int (nI c)), some (.int a), some (.int p), some (.long v), none, some (.int (nI (j + 1) + 1)), x7, x8, x9, x10] [] h1 := fun hr x7 x8 x9 x10 => by
      have q := ih (j + 1) x7 x8 x9 x10 (fun _ => by omega) (by omega) (zinv_s hi hr) (hV.trans (if_neg hr))
      rw [nI_succ (j + 1)] at q
      exact q
    unfold zinv at hi
    unfold zrc at J1 J2
    clear ih hV hQ
    refine WG.iload (pc' := 98) dX6_cut_96 rfl rfl ?_
    refine WG.aload_n (pc' := 99) dX6_cut_98 rfl rfl ?_
    refine WG.callVd (c_X6_many hG) m_X6_63 b_X6_many rfl rfl rfl (zrk_of rfl) rfl (Nat.le_of_ble_eq_true rfl) dX6_cut_99 (pc' := 102) rfl ?_
    refine WG.iconst (v := 2) (pc' := 103) dX6_cut_102 rfl rfl ?_
    refine WG.isub (pc' := 104) dX6_cut_103 rfl ?_
    refine WG.icmp_gt (tgt := 221) (pc' := 107) dX6_cut_104 rfl (by decide) (fun c_104 => ?_) (fun c_104 => ?_)
    · exact absurd c_104 hle
    · refine WG.lload (pc' := 109) dX6_cut_107 rfl rfl ?_
      refine WG.aload_n (pc' := 110) dX6_cut_109 rfl rfl ?_
      refine WG.iload_n (pc' := 111) dX6_cut_110 rfl rfl ?_
      refine WG.iload (pc' := 113) dX6_cut_111 rfl rfl ?_
      refine WG.iconst (v := 1) (pc' := 114) dX6_cut_113 rfl rfl ?_
      refine WG.isub (pc' := 115) dX6_cut_114 rfl ?_
      rw [ep]
      refine WG.callVd (c_X6_parcelOf hG hL hc (by omega)) m_X6_285 b_X6_parcelOf rfl rfl rfl (zrk_of rfl) rfl (Nat.le_of_ble_eq_true rfl) dX6_cut_115 (pc' := 118) rfl ?_
      refine WG.lsub (pc' := 119) dX6_cut_118 rfl ?_
      refine WG.lstore (L' := [_, _, _, _, _, _, _, _, _, _, _]) (pc' := 121) dX6_cut_119 rfl (by decide) rfl ?_
      refine WG.lload (pc' := 123) dX6_cut_121 rfl rfl ?_
      refine WG.aload_n (pc' := 124) dX6_cut_123 rfl rfl ?_
      refine WG.iload_n (pc' := 125) dX6_cut_124 rfl rfl ?_
      refine WG.iload (pc' := 127) dX6_cut_125 rfl rfl ?_
      refine WG.callVd (c_X6_parcelOf hG hL hc (by omega)) m_X6_285 b_X6_parcelOf rfl rfl rfl (zrk_of rfl) rfl (Nat.le_of_ble_eq_true rfl) dX6_cut_127 (pc' := 130) rfl ?_
      refine WG.lsub (pc' := 131) dX6_cut_130 rfl ?_
      refine WG.lstore (L' := [_, _, _, _, _, _, _, _, _, _, _]) (pc' := 133) dX6_cut_131 rfl (by decide) rfl ?_
      refine WG.lload (pc' := 135) dX6_cut_133 rfl rfl ?_
      refine WG.lconst (v := 0) (pc' := 136) dX6_cut_135 rfl rfl ?_
      refine WG.lif_eq (tgt := 177) (pc1 := 137) (pc' := 140) dX6_cut_136 rfl dX6_cut_137 rfl (by decide) (fun c_137 => ?_) (fun c_137 => ?_)
      · exact J1 (by clear J1 J2; grind)
      · refine WG.lload (pc' := 142) dX6_cut_140 rfl rfl ?_
        refine WG.lconst (v := 0) (pc' := 143) dX6_cut_142 rfl rfl ?_
        refine WG.lif_eq (tgt := 177) (pc1 := 144) (pc' := 147) dX6_cut_143 rfl dX6_cut_144 rfl (by decide) (fun c_144 => ?_) (fun c_144 => ?_)
        · exact J1 (by clear J1 J2; grind)
        · refine WG.lload (pc' := 149) dX6_cut_147 rfl rfl ?_
          refine WG.lconst (v := 0) (pc' := 150) dX6_cut_149 rfl rfl ?_
          refine WG.lif_le (tgt := 158) (pc1 := 151) (pc' := 154) dX6_cut_150 rfl dX6_cut_151 rfl (by decide) (fun c_151 => ?_) (fun c_151 => ?_)
          · refine WG.iconst (v := 0) (pc' := 159) dX6_cut_158 rfl rfl ?_
            refine WG.lload (pc' := 161) dX6_cut_159 rfl rfl ?_
            refine WG.lconst (v := 0) (pc' := 162) dX6_cut_161 rfl rfl ?_
            refine WG.lif_le (tgt := 170) (pc1 := 163) (pc' := 166) dX6_cut_162 rfl dX6_cut_163 rfl (by decide) (fun c_163 => ?_) (fun c_163 => ?_)
            · refine WG.iconst (v := 0) (pc' := 171) dX6_cut_170 rfl rfl ?_
              refine WG.icmp_ne (tgt := 177) (pc' := 174) dX6_cut_171 rfl (by decide) (fun c_171 => ?_) (fun c_171 => ?_)
              · exact J1 (by clear J1 J2; grind)
              · refine WG.goto (tgt := 215) dX6_cut_174 (by decide) ?_
                refine WG.iinc1 (L' := [_, _, _, _, _, _, _, _, _, _, _]) (pc' := 218) dX6_cut_215 rfl rfl (by decide) rfl ?_
                refine WG.goto (tgt := 96) dX6_cut_218 (by decide) ?_
                exact J2 (by clear J1 J2; grind) _ _ _ _
            · refine WG.iconst (v := 1) (pc' := 167) dX6_cut_166 rfl rfl ?_
              refine WG.goto (tgt := 171) dX6_cut_167 (by decide) ?_
              refine WG.icmp_ne (tgt := 177) (pc' := 174) dX6_cut_171 rfl (by decide) (fun c_171 => ?_) (fun c_171 => ?_)
              · exact J1 (by clear J1 J2; grind)
              · refine WG.goto (tgt := 215) dX6_cut_174 (by decide) ?_
                refine WG.iinc1 (L' := [_, _, _, _, _, _, _, _, _, _, _]) (pc' := 218) dX6_cut_215 rfl rfl (by decide) rfl ?_
                refine WG.goto (tgt := 96) dX6_cut_218 (by decide) ?_
                exact J2 (by clear J1 J2; grind) _ _ _ _
          · refine WG.iconst (v := 1) (pc' := 155) dX6_cut_154 rfl rfl ?_
            refine WG.goto (tgt := 159) dX6_cut_155 (by decide) ?_
            refine WG.lload (pc' := 161) dX6_cut_159 rfl rfl ?_
            refine WG.lconst (v := 0) (pc' := 162) dX6_cut_161 rfl rfl ?_
            refine WG.lif_le (tgt := 170) (pc1 := 163) (pc' := 166) dX6_cut_162 rfl dX6_cut_163 rfl (by decide) (fun c_163 => ?_) (fun c_163 => ?_)
            · refine WG.iconst (v := 0) (pc' := 171) dX6_cut_170 rfl rfl ?_
              refine WG.icmp_ne (tgt := 177) (pc' := 174) dX6_cut_171 rfl (by decide) (fun c_171 => ?_) (fun c_171 => ?_)
              · exact J1 (by clear J1 J2; grind)
              · refine WG.goto (tgt := 215) dX6_cut_174 (by decide) ?_
                refine WG.iinc1 (L' := [_, _, _, _, _, _, _, _, _, _, _]) (pc' := 218) dX6_cut_215 rfl rfl (by decide) rfl ?_
                refine WG.goto (tgt := 96) dX6_cut_218 (by decide) ?_
                exact J2 (by clear J1 J2; grind) _ _ _ _
            · refine WG.iconst (v := 1) (pc' := 167) dX6_cut_166 rfl rfl ?_
              refine WG.goto (tgt := 171) dX6_cut_167 (by decide) ?_
              refine WG.icmp_ne (tgt := 177) (pc' := 174) dX6_cut_171 rfl (by decide) (fun c_171 => ?_) (fun c_171 => ?_)
              · exact J1 (by clear J1 J2; grind)
              · refine WG.goto (tgt := 215) dX6_cut_174 (by decide) ?_
                refine WG.iinc1 (L' := [_, _, _, _, _, _, _, _, _, _, _]) (pc' := 218) dX6_cut_215 rfl rfl (by decide) rfl ?_
                refine WG.goto (tgt := 96) dX6_cut_218 (by decide) ?_
                exact J2 (by clear J1 J2; grind) _ _ _ _
noncomputable def zeCu (n : Nat) (f : zf) (s a p : Int32) : Int32 := zes [(¬ zsd n s, -1), (a < -9999, -4), (9999 < a, -6), (¬ (0 ≤ p ∧ p ≤ 2), -2), (¬ 0 < zWt f n, -3)]
theorem zcv_b {a : Int32} {W : Int64} (h1 : ¬ a < -9999) (h2 : ¬ 9999 < a) (hb : 0 ≤ W.toInt ∧ W.toInt ≤ 2592) : zl (a.toInt64 * 100 * (2 * W * W)) 20000000000000 := by
  have e1 := mt Int32.lt_iff_toInt_lt.mpr h1
  have e2 := mt Int32.lt_iff_toInt_lt.mpr h2
  rw [show (-9999 : Int32).toInt = -9999 by decide] at e1
  rw [show (9999 : Int32).toInt = 9999 by decide] at e2
  have a1 : zl a.toInt64 9999 := zl_of (zi_of (by omega))
  have a2 : zl (100 : Int64) 100 := by unfold zl; decide
  exact zl_mo (zl_mul (zl_mul a1 a2 (by decide)).2 (zun_b hb).2 (by decide)).2 (by decide)
theorem zi_le2 {p : Int32} : (0 ≤ p.toInt64 ∧ p.toInt64 ≤ 2) ↔ (0 ≤ p ∧ p ≤ 2) := by
  rw [show (0 : Int64) = (0 : Int32).toInt64 by decide, show (2 : Int64) = (2 : Int32).toInt64 by decide, Int32.toInt64_le, Int32.toInt64_le]
set_option maxHeartbeats 4000000 in
set_option maxRecDepth 100000 in
theorem m_cut {σ : zA} {h : zH} (hX : RM σ h) (hV : VS σ.1.1 σ.1.2) (s a p : Int32) : K_X6_cut [.ref 86, .int s, .int a, .int p] h (zPl RM zB2 h σ (zeCu σ.1.1 σ.1.2 s a p) (zcu σ.1.1 (zx σ.1.2 σ.1.1 0) (zx σ.1.2 σ.1.1 1) s.toNatClampNeg (a.toInt64 * 100 * (2 * zWt σ.1.2 σ.1.1 * zWt σ.1.2 σ.1.1)) p 0 (σ.1.1 - 2))) := by
  have hS := hX.1
  have hn := hS.1
  have hwb := zWt_b hV
  refine CT.of rfl rfl (Nat.le_of_ble_eq_true rfl) rfl ?_
  refine WG.aload_n (pc' := 1) dX6_cut_0 rfl rfl ?_
  refine WG.iload_n (pc' := 2) dX6_cut_1 rfl rfl ?_
  refine WG.callVd (c_X6_isSide hS s) m_X6_106 b_X6_isSide rfl rfl rfl (zrk_of rfl) rfl (Nat.le_of_ble_eq_true rfl) dX6_cut_2 (pc' := 5) rfl ?_
  refine WG.if_ne (tgt := 14) (pc' := 8) dX6_cut_5 rfl (by decide) (fun c_5 => ?_) (fun c_5 => ?_)
  · rw [zb_ne] at c_5
    refine WG.iload_n (pc' := 15) dX6_cut_14 rfl rfl ?_
    refine WG.sipush (v := -9999) (pc' := 18) dX6_cut_15 rfl rfl ?_
    refine WG.icmp_ge (tgt := 28) (pc' := 21) dX6_cut_18 rfl (by decide) (fun c_18 => ?_) (fun c_18 => ?_)
    · refine WG.iload_n (pc' := 29) dX6_cut_28 rfl rfl ?_
      refine WG.sipush (v := 9999) (pc' := 32) dX6_cut_29 rfl rfl ?_
      refine WG.icmp_le (tgt := 42) (pc' := 35) dX6_cut_32 rfl (by decide) (fun c_32 => ?_) (fun c_32 => ?_)
      · have c4 : ¬ a < -9999 := by grind
        have c6 : ¬ 9999 < a := by grind
        refine WG.iload_n (pc' := 43) dX6_cut_42 rfl rfl ?_
        refine WG.i2l (pc' := 44) dX6_cut_43 rfl ?_
        refine WG.lconst (v := 0) (pc' := 45) dX6_cut_44 rfl rfl ?_
        refine WG.ldc2 (pc' := 48) dX6_cut_45 rfl k_X6_218 ?_
        refine WG.callSd (c_X6_in _ _ _ _) m_X6_67 b_X6_in rfl (zrk_of rfl) rfl (Nat.le_of_ble_eq_true rfl) dX6_cut_48 (pc' := 51) rfl ?_
        refine WG.if_ne (tgt := 61) (pc' := 54) dX6_cut_51 rfl (by decide) (fun c_51 => ?_) (fun c_51 => ?_)
        · rw [zb_ne, zi_le2] at c_51
          refine WG.aload_n (pc' := 62) dX6_cut_61 rfl rfl ?_
          refine WG.callV (m_spreads hX) m_X6_200 b_X6_spreadsAll rfl rfl rfl (zrk_of rfl) rfl (Nat.le_of_ble_eq_true rfl) dX6_cut_62 (pc' := 65) rfl (fun r_ h_ q_ => ?_)
          obtain ⟨rfl, hL, hX1, hF1⟩ := q_
          refine WG.if_ne (tgt := 75) (pc' := 68) dX6_cut_65 rfl (by decide) (fun c_65 => ?_) (fun c_65 => ?_)
          · rw [zb_ne] at c_65
            have he : zeCu σ.1.1 σ.1.2 s a p = 0 := ((zes_n c_5).trans ((zes_f c4).trans ((zes_f c6).trans ((zes_n c_51).trans (zes_n c_65)))))
            obtain ⟨j, hj, rfl⟩ := zsd_of (by omega) c_5
            rw [nI_clamp (show j < 2 ^ 31 by omega)]
            have hw : h_.2 86 12 = zWt σ.1.2 σ.1.1 := hL.2.1
            have ev : 200 * zWt σ.1.2 σ.1.1 * zWt σ.1.2 σ.1.1 * a.toInt64 = a.toInt64 * 100 * (2 * zWt σ.1.2 σ.1.1 * zWt σ.1.2 σ.1.1) := by grind
            refine WG.ldc2 (pc' := 78) dX6_cut_75 rfl k_X6_289 ?_
            refine WG.aload_n (pc' := 79) dX6_cut_78 rfl rfl ?_
            refine WG.getL f_X6_193 (pc' := 82) dX6_cut_79 rfl rfl rfl ?_
            refine WG.lmul (pc' := 83) dX6_cut_82 rfl ?_
            refine WG.aload_n (pc' := 84) dX6_cut_83 rfl rfl ?_
            refine WG.getL f_X6_193 (pc' := 87) dX6_cut_84 rfl rfl rfl ?_
            refine WG.lmul (pc' := 88) dX6_cut_87 rfl ?_
            refine WG.iload_n (pc' := 89) dX6_cut_88 rfl rfl ?_
            refine WG.i2l (pc' := 90) dX6_cut_89 rfl ?_
            refine WG.lmul (pc' := 91) dX6_cut_90 rfl ?_
            rw [hw, ev]
            refine WG.lstore (L' := [_, _, _, _, _, _, _, _, _, _, _]) (pc' := 93) dX6_cut_91 rfl (by decide) rfl ?_
            refine WG.iconst (v := 1) (pc' := 94) dX6_cut_93 rfl rfl ?_
            refine WG.istore (L' := [_, _, _, _, _, _, _, _, _, _, _]) (pc' := 96) dX6_cut_94 rfl (by decide) rfl ?_
            exact m_cutL hX1.1 hL (zPB_x hV) hj (zcv_b c4 c6 hwb) (zokl hX1 hF1 he rfl) (σ.1.1 - 2) 0 _ _ _ _ (by omega) rfl (by show zinv _ 0 0; unfold zinv; grind) rfl
          · rw [zb_eq] at c_65
            refine WG.aload_n (pc' := 69) dX6_cut_68 rfl rfl ?_
            refine WG.bipush (v := -3) (pc' := 71) dX6_cut_69 rfl rfl ?_
            refine WG.callVd (c_X6_far 3 (by decide)) m_X6_177 b_X6_far rfl rfl rfl (zrk_of rfl) rfl (Nat.le_of_ble_eq_true rfl) dX6_cut_71 (pc' := 74) rfl ?_
            refine WG.lreturn dX6_cut_74 rfl ?_
            exact zrMl hX1 hF1 (by decide) ((zes_n c_5).trans ((zes_f c4).trans ((zes_f c6).trans ((zes_n c_51).trans (zes_t c_65)))))
        · rw [zb_eq, zi_le2] at c_51
          refine WG.aload_n (pc' := 55) dX6_cut_54 rfl rfl ?_
          refine WG.bipush (v := -2) (pc' := 57) dX6_cut_55 rfl rfl ?_
          refine WG.callVd (c_X6_far 2 (by decide)) m_X6_177 b_X6_far rfl rfl rfl (zrk_of rfl) rfl (Nat.le_of_ble_eq_true rfl) dX6_cut_57 (pc' := 60) rfl ?_
          refine WG.lreturn dX6_cut_60 rfl ?_
          exact zrMl hX zFr.rf (by decide) ((zes_n c_5).trans ((zes_f c4).trans ((zes_f c6).trans (zes_t c_51))))
      · refine WG.aload_n (pc' := 36) dX6_cut_35 rfl rfl ?_
        refine WG.bipush (v := -6) (pc' := 38) dX6_cut_36 rfl rfl ?_
        refine WG.callVd (c_X6_far 6 (by decide)) m_X6_177 b_X6_far rfl rfl rfl (zrk_of rfl) rfl (Nat.le_of_ble_eq_true rfl) dX6_cut_38 (pc' := 41) rfl ?_
        refine WG.lreturn dX6_cut_41 rfl ?_
        exact zrMl hX zFr.rf (by decide) ((zes_n c_5).trans ((zes_f (by grind)).trans (zes_t (by grind))))
    · refine WG.aload_n (pc' := 22) dX6_cut_21 rfl rfl ?_
      refine WG.bipush (v := -4) (pc' := 24) dX6_cut_22 rfl rfl ?_
      refine WG.callVd (c_X6_far 4 (by decide)) m_X6_177 b_X6_far rfl rfl rfl (zrk_of rfl) rfl (Nat.le_of_ble_eq_true rfl) dX6_cut_24 (pc' := 27) rfl ?_
      refine WG.lreturn dX6_cut_27 rfl ?_
      exact zrMl hX zFr.rf (by decide) ((zes_n c_5).trans (zes_t (by grind)))
  · rw [zb_eq] at c_5
    refine WG.aload_n (pc' := 9) dX6_cut_8 rfl rfl ?_
    refine WG.iconst (v := -1) (pc' := 10) dX6_cut_9 rfl rfl ?_
    refine WG.callVd (c_X6_far 1 (by decide)) m_X6_177 b_X6_far rfl rfl rfl (zrk_of rfl) rfl (Nat.le_of_ble_eq_true rfl) dX6_cut_10 (pc' := 13) rfl ?_
    refine WG.lreturn dX6_cut_13 rfl ?_
    exact zrMl hX zFr.rf (by decide) (zes_t c_5)
theorem zcu_tr {n c : Nat} {px py : Nat → Int64} {v : Int64} {p : Int32} : ∀ (m j : Nat), zinv v (zpa n px py c j) j → (ztr n px py c v j m = -9 ∧ zcu n px py c v p j m = -9) ∨ ∃ i, i < j + m ∧ ztr n px py c v j m = nI (i + 1) ∧ zinv v (zpa n px py c i) i ∧ zrc v (zpa n px py c (i + 1)) ∧ zcu n px py c v p j m = (if p = 0 then (nI (i + 1)).toInt64 else if v = 0 then (p - 1).toInt64 else zfr (v - zpa n px py c i) (zpa n px py c (i + 1) - zpa n px py c i) (p - 1)) := by
  intro m
  induction m with
  | zero => intro j _; exact Or.inl ⟨rfl, rfl⟩
  | succ m ih =>
    intro j hi
    by_cases hr : zrc v (zpa n px py c (j + 1))
    · exact Or.inr ⟨j, by omega, if_pos hr, hi, hr, if_pos hr⟩
    · have e1 : ztr n px py c v j (m + 1) = ztr n px py c v (j + 1) m := if_neg hr
      have e2 : zcu n px py c v p j (m + 1) = zcu n px py c v p (j + 1) m := if_neg hr
      rw [e1, e2]
      rcases ih (j + 1) (zinv_s hi hr) with q | ⟨i, h1, q⟩
      · exact Or.inl q
      · exact Or.inr ⟨i, by omega, q⟩
set_option maxHeartbeats 4000000 in
set_option maxRecDepth 100000 in
theorem x_cutN {c : Nat} {a p : Int32} {v : Int64} {h1 : zH} {x7 x8 x9 x10 : Option Value} {Q : Option Value → zH → Prop} (hQ : Q (some (.long (-9))) h1) : W_X5_cut Q 110 [some (.ref 0), some (.int (nI c)), some (.int a), some (.int p), some (.long v), none, some (.int (-9)), x7, x8, x9, x10] [] h1 := by
  refine WG.iload (pc' := 112) dX5_cut_110 rfl rfl ?_
  refine WG.bipush (v := -9) (pc' := 114) dX5_cut_112 rfl rfl ?_
  refine WG.icmp_eq (tgt := 121) (pc' := 117) dX5_cut_114 rfl (by decide) (fun c_114 => ?_) (fun c_114 => ?_)
  · refine WG.iload (pc' := 123) dX5_cut_121 rfl rfl ?_
    refine WG.i2l (pc' := 124) dX5_cut_123 rfl ?_
    refine WG.lreturn dX5_cut_124 rfl ?_
    exact hQ
  · exact absurd rfl c_114
set_option maxHeartbeats 4000000 in
set_option maxRecDepth 100000 in
theorem x_cutT {n : Nat} {w : Int64} {ux uy px py : Nat → Int64} {h1 : zH} (hL : RLay n w ux uy px py h1) {c i : Nat} (hc : c < n) (hin : i + 3 ≤ n) {a p : Int32} {v V : Int64} (hp : p = 0 ∨ p = 1 ∨ p = 2) (hv : zl v 20000000000000) (b0 : zl (zpa n px py c i) 195536769928591872) (b1 : zl (zpa n px py c (i + 1)) 195536769928591872) {Q : Option Value → zH → Prop} (hQ : Q (some (.long V)) h1) (hi : zinv v (zpa n px py c i) i) (hr : zrc v (zpa n px py c (i + 1))) (eV : V = if p = 0 then (nI (i + 1)).toInt64 else if v = 0 then (p - 1).toInt64 else zfr (v - zpa n px py c i) (zpa n px py c (i + 1) - zpa n px py c i) (p - 1)) {x7 x8 x9 x10 : Option Value} : W_X5_cut Q 110 [some (.ref 0), some (.int (nI c)), some (.int a), some (.int p), some (.long v), none, some (.int (nI (i + 1))), x7, x8, x9, x10] [] h1 := by
  have hn := hL.1
  have d0 := zcs_cmp hv b0
  have d1 := zl_sub b1 b0 (by decide)
  have n9 : ¬ nI (i + 1) = -9 := by
    intro q
    have := nI_leI (a := 0) (b := i + 1) (by omega) (by omega)
    rw [q] at this
    exact absurd (this.mpr (by omega)) (by decide)
  have ep : nI (i + 1) - 1 = nI i := pk_sub (a := i + 1) (b := 1) (by omega)
  have ne : v ≠ 0 → zpa n px py c (i + 1) - zpa n px py c i ≠ 0 := by intro q; unfold zinv at hi; unfold zrc at hr; grind
  have e0 : v = 0 → v - zpa n px py c i = 0 := by intro q; unfold zinv at hi; grind
  have hp2 : p ≠ 0 → p - 1 = 0 ∨ p - 1 = 1 := by
    intro q
    rcases hp with rfl | rfl | rfl
    · exact absurd rfl q
    · left; rfl
    · right; rfl
  have key : ∀ r, r = V → Q (some (.long r)) h1 := fun r e => by rw [e]; exact hQ
  clear hQ
  by_cases z : zpa n px py c (i + 1) - zpa n px py c i = 0
  · have v0 : v = 0 := Classical.byContradiction (fun q => ne q z)
    refine WG.iload (pc' := 112) dX5_cut_110 rfl rfl ?_
    refine WG.bipush (v := -9) (pc' := 114) dX5_cut_112 rfl rfl ?_
    refine WG.icmp_eq (tgt := 121) (pc' := 117) dX5_cut_114 rfl (by decide) (fun c_114 => ?_) (fun c_114 => ?_)
    · exact absurd c_114 n9
    · refine WG.iload_n (pc' := 118) dX5_cut_117 rfl rfl ?_
      refine WG.if_ne (tgt := 125) (pc' := 121) dX5_cut_118 rfl (by decide) (fun c_118 => ?_) (fun c_118 => ?_)
      · refine WG.aload_n (pc' := 126) dX5_cut_125 rfl rfl ?_
        refine WG.getR (r := 69) f_X5_36 (pc' := 129) dX5_cut_126 rfl rfl rfl rfl ?_
        refine WG.iload_n (pc' := 130) dX5_cut_129 rfl rfl ?_
        refine WG.iload (pc' := 132) dX5_cut_130 rfl rfl ?_
        refine WG.iconst (v := 1) (pc' := 133) dX5_cut_132 rfl rfl ?_
        refine WG.isub (pc' := 134) dX5_cut_133 rfl ?_
        rw [ep]
        refine WG.callVd (c_X0_parcelSum hL hc (by omega)) m_X5_229 b_X0_parcelSum rfl rfl rfl (zrk_of rfl) rfl (Nat.le_of_ble_eq_true rfl) dX5_cut_134 (pc' := 137) rfl ?_
        refine WG.lstore (L' := [_, _, _, _, _, _, _, _, _, _, _]) (pc' := 139) dX5_cut_137 rfl (by decide) rfl ?_
        refine WG.aload_n (pc' := 140) dX5_cut_139 rfl rfl ?_
        refine WG.getR (r := 69) f_X5_36 (pc' := 143) dX5_cut_140 rfl rfl rfl rfl ?_
        refine WG.iload_n (pc' := 144) dX5_cut_143 rfl rfl ?_
        refine WG.iload (pc' := 146) dX5_cut_144 rfl rfl ?_
        refine WG.callVd (c_X0_parcelSum hL hc (by omega)) m_X5_229 b_X0_parcelSum rfl rfl rfl (zrk_of rfl) rfl (Nat.le_of_ble_eq_true rfl) dX5_cut_146 (pc' := 149) rfl ?_
        refine WG.lstore (L' := [_, _, _, _, _, _, _, _, _, _, _]) (pc' := 151) dX5_cut_149 rfl (by decide) rfl ?_
        refine WG.lload (pc' := 153) dX5_cut_151 rfl rfl ?_
        refine WG.lload (pc' := 155) dX5_cut_153 rfl rfl ?_
        refine WG.lsub (pc' := 156) dX5_cut_155 rfl ?_
        refine WG.lload (pc' := 158) dX5_cut_156 rfl rfl ?_
        refine WG.lload (pc' := 160) dX5_cut_158 rfl rfl ?_
        refine WG.lsub (pc' := 161) dX5_cut_160 rfl ?_
        refine WG.iload_n (pc' := 162) dX5_cut_161 rfl rfl ?_
        refine WG.iconst (v := 1) (pc' := 163) dX5_cut_162 rfl rfl ?_
        refine WG.isub (pc' := 164) dX5_cut_163 rfl ?_
        rw [z]
        refine WG.callSd (c_X5_fraction0 d0.2.2) m_X5_171 b_X5_fraction rfl (zrk_of rfl) rfl (Nat.le_of_ble_eq_true rfl) dX5_cut_164 (pc' := 167) rfl ?_
        refine WG.lreturn dX5_cut_167 rfl ?_
        exact key _ (by rw [eV, if_neg c_118, if_pos v0])
      · refine WG.iload (pc' := 123) dX5_cut_121 rfl rfl ?_
        refine WG.i2l (pc' := 124) dX5_cut_123 rfl ?_
        refine WG.lreturn dX5_cut_124 rfl ?_
        exact key _ (by rw [eV, if_pos c_118])
  · skip
    refine WG.iload (pc' := 112) dX5_cut_110 rfl rfl ?_
    refine WG.bipush (v := -9) (pc' := 114) dX5_cut_112 rfl rfl ?_
    refine WG.icmp_eq (tgt := 121) (pc' := 117) dX5_cut_114 rfl (by decide) (fun c_114 => ?_) (fun c_114 => ?_)
    · exact absurd c_114 n9
    · refine WG.iload_n (pc' := 118) dX5_cut_117 rfl rfl ?_
      refine WG.if_ne (tgt := 125) (pc' := 121) dX5_cut_118 rfl (by decide) (fun c_118 => ?_) (fun c_118 => ?_)
      · refine WG.aload_n (pc' := 126) dX5_cut_125 rfl rfl ?_
        refine WG.getR (r := 69) f_X5_36 (pc' := 129) dX5_cut_126 rfl rfl rfl rfl ?_
        refine WG.iload_n (pc' := 130) dX5_cut_129 rfl rfl ?_
        refine WG.iload (pc' := 132) dX5_cut_130 rfl rfl ?_
        refine WG.iconst (v := 1) (pc' := 133) dX5_cut_132 rfl rfl ?_
        refine WG.isub (pc' := 134) dX5_cut_133 rfl ?_
        rw [ep]
        refine WG.callVd (c_X0_parcelSum hL hc (by omega)) m_X5_229 b_X0_parcelSum rfl rfl rfl (zrk_of rfl) rfl (Nat.le_of_ble_eq_true rfl) dX5_cut_134 (pc' := 137) rfl ?_
        refine WG.lstore (L' := [_, _, _, _, _, _, _, _, _, _, _]) (pc' := 139) dX5_cut_137 rfl (by decide) rfl ?_
        refine WG.aload_n (pc' := 140) dX5_cut_139 rfl rfl ?_
        refine WG.getR (r := 69) f_X5_36 (pc' := 143) dX5_cut_140 rfl rfl rfl rfl ?_
        refine WG.iload_n (pc' := 144) dX5_cut_143 rfl rfl ?_
        refine WG.iload (pc' := 146) dX5_cut_144 rfl rfl ?_
        refine WG.callVd (c_X0_parcelSum hL hc (by omega)) m_X5_229 b_X0_parcelSum rfl rfl rfl (zrk_of rfl) rfl (Nat.le_of_ble_eq_true rfl) dX5_cut_146 (pc' := 149) rfl ?_
        refine WG.lstore (L' := [_, _, _, _, _, _, _, _, _, _, _]) (pc' := 151) dX5_cut_149 rfl (by decide) rfl ?_
        refine WG.lload (pc' := 153) dX5_cut_151 rfl rfl ?_
        refine WG.lload (pc' := 155) dX5_cut_153 rfl rfl ?_
        refine WG.lsub (pc' := 156) dX5_cut_155 rfl ?_
        refine WG.lload (pc' := 158) dX5_cut_156 rfl rfl ?_
        refine WG.lload (pc' := 160) dX5_cut_158 rfl rfl ?_
        refine WG.lsub (pc' := 161) dX5_cut_160 rfl ?_
        refine WG.iload_n (pc' := 162) dX5_cut_161 rfl rfl ?_
        refine WG.iconst (v := 1) (pc' := 163) dX5_cut_162 rfl rfl ?_
        refine WG.isub (pc' := 164) dX5_cut_163 rfl ?_
        refine WG.callSd (c_X5_fraction d0.2.2 (zbd_of d1.2 (by decide)) z) m_X5_171 b_X5_fraction rfl (zrk_of rfl) rfl (Nat.le_of_ble_eq_true rfl) dX5_cut_164 (pc' := 167) rfl ?_
        refine WG.lreturn dX5_cut_167 rfl ?_
        refine key _ ?_
        rw [eV, if_neg c_118]
        by_cases q : v = 0
        · rw [if_pos q, e0 q, zfr_0 (zbd_of d1.2 (by decide)) z (hp2 c_118)]
        · rw [if_neg q]
      · refine WG.iload (pc' := 123) dX5_cut_121 rfl rfl ?_
        refine WG.i2l (pc' := 124) dX5_cut_123 rfl ?_
        refine WG.lreturn dX5_cut_124 rfl ?_
        exact key _ (by rw [eV, if_pos c_118])
set_option maxHeartbeats 4000000 in
set_option maxRecDepth 100000 in
theorem x_cut {σ : zA} {h : zH} (hX : RX σ h) (hV : VS σ.1.1 σ.1.2) (s a p : Int32) : K_X5_cut [.ref 0, .int s, .int a, .int p] h (zPl RX zB1 h σ (zeCu σ.1.1 σ.1.2 s a p) (zcu σ.1.1 (zx σ.1.2 σ.1.1 0) (zx σ.1.2 σ.1.1 1) s.toNatClampNeg (a.toInt64 * 100 * (2 * zWt σ.1.2 σ.1.1 * zWt σ.1.2 σ.1.1)) p 0 (σ.1.1 - 2))) := by
  have hS := hX.1
  have hn := hS.2.1
  have hwb := zWt_b hV
  refine CT.of rfl rfl (Nat.le_of_ble_eq_true rfl) rfl ?_
  refine WG.aload_n (pc' := 1) dX5_cut_0 rfl rfl ?_
  refine WG.getR (r := 1) f_X5_10 (pc' := 4) dX5_cut_1 rfl rfl rfl rfl ?_
  refine WG.iload_n (pc' := 5) dX5_cut_4 rfl rfl ?_
  refine WG.callVd (c_X4_has hS s) m_X5_105 b_X4_has rfl rfl rfl (zrk_of rfl) rfl (Nat.le_of_ble_eq_true rfl) dX5_cut_5 (pc' := 8) rfl ?_
  refine WG.if_ne (tgt := 17) (pc' := 11) dX5_cut_8 rfl (by decide) (fun c_8 => ?_) (fun c_8 => ?_)
  · rw [zb_ne] at c_8
    refine WG.iload_n (pc' := 18) dX5_cut_17 rfl rfl ?_
    refine WG.sipush (v := -9999) (pc' := 21) dX5_cut_18 rfl rfl ?_
    refine WG.icmp_ge (tgt := 31) (pc' := 24) dX5_cut_21 rfl (by decide) (fun c_21 => ?_) (fun c_21 => ?_)
    · refine WG.iload_n (pc' := 32) dX5_cut_31 rfl rfl ?_
      refine WG.sipush (v := 9999) (pc' := 35) dX5_cut_32 rfl rfl ?_
      refine WG.icmp_le (tgt := 45) (pc' := 38) dX5_cut_35 rfl (by decide) (fun c_35 => ?_) (fun c_35 => ?_)
      · have c4 : ¬ a < -9999 := by grind
        have c6 : ¬ 9999 < a := by grind
        refine WG.iload_n (pc' := 46) dX5_cut_45 rfl rfl ?_
        refine WG.if_lt (tgt := 54) (pc' := 49) dX5_cut_46 rfl (by decide) (fun c_46 => ?_) (fun c_46 => ?_)
        · refine WG.aload_n (pc' := 55) dX5_cut_54 rfl rfl ?_
          refine WG.bipush (v := -2) (pc' := 57) dX5_cut_55 rfl rfl ?_
          refine WG.callVd (c_X5_refuseLong 2 (by decide)) m_X5_116 b_X5_refuseLong rfl rfl rfl (zrk_of rfl) rfl (Nat.le_of_ble_eq_true rfl) dX5_cut_57 (pc' := 60) rfl ?_
          refine WG.lreturn dX5_cut_60 rfl ?_
          exact zrXl hX zFr.rf (by decide) ((zes_n c_8).trans ((zes_f c4).trans ((zes_f c6).trans (zes_t (by grind)))))
        · refine WG.iload_n (pc' := 50) dX5_cut_49 rfl rfl ?_
          refine WG.iconst (v := 2) (pc' := 51) dX5_cut_50 rfl rfl ?_
          refine WG.icmp_le (tgt := 61) (pc' := 54) dX5_cut_51 rfl (by decide) (fun c_51 => ?_) (fun c_51 => ?_)
          · have c2 : 0 ≤ p ∧ p ≤ 2 := by grind
            refine WG.aload_n (pc' := 62) dX5_cut_61 rfl rfl ?_
            refine WG.getR (r := 69) f_X5_36 (pc' := 65) dX5_cut_62 rfl rfl rfl rfl ?_
            refine WG.aload_n (pc' := 66) dX5_cut_65 rfl rfl ?_
            refine WG.getR (r := 1) f_X5_10 (pc' := 69) dX5_cut_66 rfl rfl rfl rfl ?_
            refine WG.callV (x_settle hX) m_X5_156 b_X0_settle rfl rfl rfl (zrk_of rfl) rfl (Nat.le_of_ble_eq_true rfl) dX5_cut_69 (pc' := 72) rfl (fun r_ h_ q_ => ?_)
            obtain ⟨rfl, hL, hX1, hF1⟩ := q_
            refine WG.if_ne (tgt := 82) (pc' := 75) dX5_cut_72 rfl (by decide) (fun c_72 => ?_) (fun c_72 => ?_)
            · rw [zb_ne] at c_72
              have he : zeCu σ.1.1 σ.1.2 s a p = 0 := ((zes_n c_8).trans ((zes_f c4).trans ((zes_f c6).trans ((zes_n c2).trans (zes_n c_72)))))
              obtain ⟨j, hj, rfl⟩ := zsd_of (by omega) c_8
              rw [nI_clamp (show j < 2 ^ 31 by omega)]
              refine WG.iload_n (pc' := 83) dX5_cut_82 rfl rfl ?_
              refine WG.i2l (pc' := 84) dX5_cut_83 rfl ?_
              refine WG.ldc2 (pc' := 87) dX5_cut_84 rfl k_X5_233 ?_
              refine WG.lmul (pc' := 88) dX5_cut_87 rfl ?_
              refine WG.aload_n (pc' := 89) dX5_cut_88 rfl rfl ?_
              refine WG.getR (r := 69) f_X5_36 (pc' := 92) dX5_cut_89 rfl rfl rfl rfl ?_
              refine WG.callVd (c_X0_unit hL) m_X5_183 b_X0_unit rfl rfl rfl (zrk_of rfl) rfl (Nat.le_of_ble_eq_true rfl) dX5_cut_92 (pc' := 95) rfl ?_
              refine WG.lmul (pc' := 96) dX5_cut_95 rfl ?_
              refine WG.lstore (L' := [_, _, _, _, _, _, _, _, _, _, _]) (pc' := 98) dX5_cut_96 rfl (by decide) rfl ?_
              refine WG.aload_n (pc' := 99) dX5_cut_98 rfl rfl ?_
              refine WG.getR (r := 69) f_X5_36 (pc' := 102) dX5_cut_99 rfl rfl rfl rfl ?_
              refine WG.iload_n (pc' := 103) dX5_cut_102 rfl rfl ?_
              refine WG.lload (pc' := 105) dX5_cut_103 rfl rfl ?_
              refine WG.callVd (c_X0_triangle hL hj _) m_X5_235 b_X0_triangleReaching rfl rfl rfl (zrk_of rfl) rfl (Nat.le_of_ble_eq_true rfl) dX5_cut_105 (pc' := 108) rfl ?_
              refine WG.istore (L' := [_, _, _, _, _, _, _, _, _, _, _]) (pc' := 110) dX5_cut_108 rfl (by decide) rfl ?_
              rcases zcu_tr (n := σ.1.1) (c := j) (px := zx σ.1.2 σ.1.1 0) (py := zx σ.1.2 σ.1.1 1) (v := a.toInt64 * 100 * (2 * zWt σ.1.2 σ.1.1 * zWt σ.1.2 σ.1.1)) (p := p) (σ.1.1 - 2) 0 (by show zinv _ 0 0; unfold zinv; grind) with ⟨e1, e2⟩ | ⟨i, h1, e1, h2, h3, e2⟩
              · rw [e1]
                exact x_cutN (zokl hX1 hF1 he e2.symm)
              · rw [e1]
                exact x_cutT hL hj (by omega) (by clear e1 e2 h2 h3 hL; grind) (zcv_b c4 c6 hwb) (zpa_B hn (zPB_x hV) hj (by omega)) (zpa_B hn (zPB_x hV) hj (by omega)) (zokl hX1 hF1 he rfl) h2 h3 e2
            · rw [zb_eq] at c_72
              refine WG.aload_n (pc' := 76) dX5_cut_75 rfl rfl ?_
              refine WG.bipush (v := -3) (pc' := 78) dX5_cut_76 rfl rfl ?_
              refine WG.callVd (c_X5_refuseLong 3 (by decide)) m_X5_116 b_X5_refuseLong rfl rfl rfl (zrk_of rfl) rfl (Nat.le_of_ble_eq_true rfl) dX5_cut_78 (pc' := 81) rfl ?_
              refine WG.lreturn dX5_cut_81 rfl ?_
              exact zrXl hX1 hF1 (by decide) ((zes_n c_8).trans ((zes_f c4).trans ((zes_f c6).trans ((zes_n c2).trans (zes_t c_72)))))
          · refine WG.aload_n (pc' := 55) dX5_cut_54 rfl rfl ?_
            refine WG.bipush (v := -2) (pc' := 57) dX5_cut_55 rfl rfl ?_
            refine WG.callVd (c_X5_refuseLong 2 (by decide)) m_X5_116 b_X5_refuseLong rfl rfl rfl (zrk_of rfl) rfl (Nat.le_of_ble_eq_true rfl) dX5_cut_57 (pc' := 60) rfl ?_
            refine WG.lreturn dX5_cut_60 rfl ?_
            exact zrXl hX zFr.rf (by decide) ((zes_n c_8).trans ((zes_f c4).trans ((zes_f c6).trans (zes_t (by grind)))))
      · refine WG.aload_n (pc' := 39) dX5_cut_38 rfl rfl ?_
        refine WG.bipush (v := -6) (pc' := 41) dX5_cut_39 rfl rfl ?_
        refine WG.callVd (c_X5_refuseLong 6 (by decide)) m_X5_116 b_X5_refuseLong rfl rfl rfl (zrk_of rfl) rfl (Nat.le_of_ble_eq_true rfl) dX5_cut_41 (pc' := 44) rfl ?_
        refine WG.lreturn dX5_cut_44 rfl ?_
        exact zrXl hX zFr.rf (by decide) ((zes_n c_8).trans ((zes_f (by grind)).trans (zes_t (by grind))))
    · refine WG.aload_n (pc' := 25) dX5_cut_24 rfl rfl ?_
      refine WG.bipush (v := -4) (pc' := 27) dX5_cut_25 rfl rfl ?_
      refine WG.callVd (c_X5_refuseLong 4 (by decide)) m_X5_116 b_X5_refuseLong rfl rfl rfl (zrk_of rfl) rfl (Nat.le_of_ble_eq_true rfl) dX5_cut_27 (pc' := 30) rfl ?_
      refine WG.lreturn dX5_cut_30 rfl ?_
      exact zrXl hX zFr.rf (by decide) ((zes_n c_8).trans (zes_t (by grind)))
  · rw [zb_eq] at c_8
    refine WG.aload_n (pc' := 12) dX5_cut_11 rfl rfl ?_
    refine WG.iconst (v := -1) (pc' := 13) dX5_cut_12 rfl rfl ?_
    refine WG.callVd (c_X5_refuseLong 1 (by decide)) m_X5_116 b_X5_refuseLong rfl rfl rfl (zrk_of rfl) rfl (Nat.le_of_ble_eq_true rfl) dX5_cut_13 (pc' := 16) rfl ?_
    refine WG.lreturn dX5_cut_16 rfl ?_
    exact zrXl hX zFr.rf (by decide) (zes_t c_8)
