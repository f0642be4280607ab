/-! copy: the reference's -/
theorem zL_C {h : zH} {o i : Nat} {g : Nat → Int64} {v : Int64} : zL (zC h o g) o i v = zC h o (vp_updL g i v) := by
  unfold zL zC
  refine Prod.ext rfl ?_
  funext k
  by_cases c : k = o
  · simp [c]
  · simp [c]
theorem zC_same {h : zH} {o : Nat} {g : Nat → Int64} (hg : g = h.2 o) : zC h o g = h := by
  unfold zC
  refine Prod.ext rfl ?_
  funext k
  by_cases c : k = o
  · subst c; simp [hg]
  · simp [c]
/-- the last k of n copied -/
def zcup (R : Nat → Int64) (s d n k : Nat) : Nat → Int64 := fun p => if d + (n - k) ≤ p ∧ p < d + n then R (s + (p - d)) else R p
theorem zcpy0 {R : Nat → Int64} {s d : Nat} : va_cpy R R s d 0 = R := by
  funext p; unfold va_cpy; rw [if_neg (by omega)]
theorem zcup0 {R : Nat → Int64} {s d n : Nat} : zcup R s d n 0 = R := by
  funext p; unfold zcup; rw [if_neg (by omega)]
theorem zcupn {R : Nat → Int64} {s d n : Nat} : zcup R s d n n = va_cpy R R s d n := by
  funext p; unfold zcup va_cpy; rw [Nat.sub_self, Nat.add_zero]
theorem zcpyS {R : Nat → Int64} {s d k : Nat} (hs : s + k < d ∨ d + k ≤ s + k) : vp_updL (va_cpy R R s d k) (d + k) (va_cpy R R s d k (s + k)) = va_cpy R R s d (k + 1) := by
  funext p
  unfold vp_updL va_cpy
  by_cases c : p = d + k
  · subst c
    rw [if_pos rfl, if_neg (by omega), if_pos (by omega), show s + (d + k - d) = s + k by omega]
  · rw [if_neg c]
    by_cases c2 : d ≤ p ∧ p < d + k
    · rw [if_pos c2, if_pos (by omega)]
    · rw [if_neg c2, if_neg (by omega)]
theorem zcupS {R : Nat → Int64} {s d n k q : Nat} (hq : q + k + 1 = n) (hs : s + q < d + (n - k) ∨ d + n ≤ s + q) : vp_updL (zcup R s d n k) (d + q) (zcup R s d n k (s + q)) = zcup R s d n (k + 1) := by
  funext p
  unfold vp_updL zcup
  by_cases c : p = d + q
  · subst c
    rw [if_pos rfl, if_neg (by omega), if_pos (by omega), show s + (d + q - d) = s + q by omega]
  · rw [if_neg c]
    by_cases c2 : d + (n - k) ≤ p ∧ p < d + n
    · rw [if_pos c2, if_pos (by omega)]
    · rw [if_neg c2, if_neg (by omega)]
theorem zi20' (l i k : Nat) : (20 : Int32) * nI l + nI i + nI k = nI (20 * l + i + k) := by rw [zi20, nI_add]
theorem zha_m {m : Nat} {i n : Int32} (hm : m ≤ 20) (h1 : ¬ n < 0) (h2 : ¬ i < 0) (h3 : ¬ nI m - n < i) : zha m i n := by
  refine ⟨h2, h1, ?_, h3⟩
  obtain ⟨n', hn', rfl⟩ := nI_of h1
  intro h4
  have h5 := (nI_ltI (a := m) (b := n') (by omega) hn').mp h4
  apply h3
  have e : (nI m - nI n').toInt = (m : Int) - n' := by
    rw [Int32.toInt_sub, nI_toInt (show m < 2 ^ 31 by omega), nI_toInt hn', Int.bmod_eq_of_le] <;> omega
  rw [Int32.lt_iff_toInt_lt, e]
  have := mt Int32.lt_iff_toInt_lt.mpr h2
  rw [show (0 : Int32).toInt = 0 by decide] at this
  omega
set_option maxHeartbeats 4000000 in
set_option maxRecDepth 100000 in
theorem m_copyD {h : zH} {Q : Option Value → zH → Prop} {a b i j n : Nat} (ha : a < 3) (hb : b < 3) (hi : i + n ≤ 20) (hj : j + n ≤ 20) (hne : ¬ (a = b ∧ i < j)) (hQ : Q (some (.int (nI n))) (zC h 99 (va_cpy (h.2 99) (h.2 99) (20 * a + i) (20 * b + j) n))) : ∀ (q k : Nat) (v8 : Option Value), k + q = n → W_X6_copy Q 124 [some (.ref 86), some (.int (nI a)), some (.int (nI i)), some (.int (nI b)), some (.int (nI j)), some (.int (nI n)), some (.int 0), some (.int (nI k)), v8] [] (zC h 99 (va_cpy (h.2 99) (h.2 99) (20 * a + i) (20 * b + j) k)) := by
  intro q
  induction q with
  | zero =>
    intro k v8 hk
    obtain rfl : k = n := by omega
    refine WG.iload (pc' := 126) dX6_copy_124 rfl rfl ?_
    refine WG.iload (pc' := 128) dX6_copy_126 rfl rfl ?_
    refine WG.icmp_ge (tgt := 185) (pc' := 131) dX6_copy_128 rfl (by decide) (fun c_128 => ?_) (fun c_128 => ?_)
    · refine WG.iload (pc' := 187) dX6_copy_185 rfl rfl ?_
      refine WG.ireturn dX6_copy_187 rfl (by first | rfl | decide) ?_
      exact hQ
    · exact absurd (by rw [nI_leI (by omega) (by omega)]; omega) c_128
  | succ q ih =>
    intro k v8 hk
    have fin := fun v8 => ih (k + 1) v8 (by omega)
    rw [← zcpyS (show 20 * a + i + k < 20 * b + j ∨ 20 * b + j + k ≤ 20 * a + i + k by omega), nI_succ, ← zL_C] at fin
    refine WG.iload (pc' := 126) dX6_copy_124 rfl rfl ?_
    refine WG.iload (pc' := 128) dX6_copy_126 rfl rfl ?_
    refine WG.icmp_ge (tgt := 185) (pc' := 131) dX6_copy_128 rfl (by decide) (fun c_128 => ?_) (fun c_128 => ?_)
    · exact absurd c_128 (by rw [nI_leI (by omega) (by omega)]; omega)
    · refine WG.iload (pc' := 133) dX6_copy_131 rfl rfl ?_
      refine WG.if_eq (tgt := 146) (pc' := 136) dX6_copy_133 rfl (by decide) (fun c_133 => ?_) (fun c_133 => ?_)
      · refine WG.iload (pc' := 148) dX6_copy_146 rfl rfl ?_
        refine WG.istore (L' := [_, _, _, _, _, _, _, _, _]) (pc' := 150) dX6_copy_148 rfl (by decide) rfl ?_
        refine WG.aload_n (pc' := 151) dX6_copy_150 rfl rfl ?_
        refine WG.getR (r := 99) f_X6_57 (pc' := 154) dX6_copy_151 rfl rfl rfl rfl ?_
        refine WG.bipush (v := 20) (pc' := 156) dX6_copy_154 rfl rfl ?_
        refine WG.iload_n (pc' := 157) dX6_copy_156 rfl rfl ?_
        refine WG.imul (pc' := 158) dX6_copy_157 rfl ?_
        refine WG.iload (pc' := 160) dX6_copy_158 rfl rfl ?_
        refine WG.iadd (pc' := 161) dX6_copy_160 rfl ?_
        refine WG.iload (pc' := 163) dX6_copy_161 rfl rfl ?_
        refine WG.iadd (pc' := 164) dX6_copy_163 rfl ?_
        refine WG.aload_n (pc' := 165) dX6_copy_164 rfl rfl ?_
        refine WG.getR (r := 99) f_X6_57 (pc' := 168) dX6_copy_165 rfl rfl rfl rfl ?_
        refine WG.bipush (v := 20) (pc' := 170) dX6_copy_168 rfl rfl ?_
        refine WG.iload_n (pc' := 171) dX6_copy_170 rfl rfl ?_
        refine WG.imul (pc' := 172) dX6_copy_171 rfl ?_
        refine WG.iload_n (pc' := 173) dX6_copy_172 rfl rfl ?_
        refine WG.iadd (pc' := 174) dX6_copy_173 rfl ?_
        refine WG.iload (pc' := 176) dX6_copy_174 rfl rfl ?_
        refine WG.iadd (pc' := 177) dX6_copy_176 rfl ?_
        refine WG.laloadN (j := 20 * a + i + k) (pc' := 178) dX6_copy_177 rfl rfl (zi20' a i k) (by omega) (by first | decide | omega) ?_
        rw [zC_s]
        refine WG.lastoreN (j := 20 * b + j + k) (pc' := 179) dX6_copy_178 rfl rfl (zi20' b j k) (by omega) (by first | decide | omega) ?_
        refine WG.iinc1 (L' := [_, _, _, _, _, _, _, _, _]) (pc' := 182) dX6_copy_179 rfl rfl (by decide) rfl ?_
        refine WG.goto (tgt := 124) dX6_copy_182 (by decide) ?_
        exact fin _
      · exact absurd rfl c_133
set_option maxHeartbeats 4000000 in
set_option maxRecDepth 100000 in
theorem m_copyU {h : zH} {Q : Option Value → zH → Prop} {a b i j n : Nat} (ha : a < 3) (hb : b < 3) (hi : i + n ≤ 20) (hj : j + n ≤ 20) (hne : a = b ∧ i < j) (hQ : Q (some (.int (nI n))) (zC h 99 (va_cpy (h.2 99) (h.2 99) (20 * a + i) (20 * b + j) n))) : ∀ (q k : Nat) (v8 : Option Value), k + q = n → W_X6_copy Q 124 [some (.ref 86), some (.int (nI a)), some (.int (nI i)), some (.int (nI b)), some (.int (nI j)), some (.int (nI n)), some (.int 1), some (.int (nI k)), v8] [] (zC h 99 (zcup (h.2 99) (20 * a + i) (20 * b + j) n k)) := by
  intro q
  induction q with
  | zero =>
    intro k v8 hk
    obtain rfl : k = n := by omega
    rw [zcupn]
    refine WG.iload (pc' := 126) dX6_copy_124 rfl rfl ?_
    refine WG.iload (pc' := 128) dX6_copy_126 rfl rfl ?_
    refine WG.icmp_ge (tgt := 185) (pc' := 131) dX6_copy_128 rfl (by decide) (fun c_128 => ?_) (fun c_128 => ?_)
    · refine WG.iload (pc' := 187) dX6_copy_185 rfl rfl ?_
      refine WG.ireturn dX6_copy_187 rfl (by first | rfl | decide) ?_
      exact hQ
    · exact absurd (by rw [nI_leI (by omega) (by omega)]; omega) c_128
  | succ q ih =>
    intro k v8 hk
    have fin := fun v8 => ih (k + 1) v8 (by omega)
    rw [← zcupS (q := q) (by omega) (show 20 * a + i + q < 20 * b + j + (n - k) ∨ 20 * b + j + n ≤ 20 * a + i + q by omega), nI_succ, ← zL_C] at fin
    have eq : nI n - 1 - nI k = nI q := by
      rw [show nI n - 1 = nI (n - 1) from pk_sub (b := 1) (by omega), pk_sub (by omega)]
      exact congrArg nI (by omega)
    refine WG.iload (pc' := 126) dX6_copy_124 rfl rfl ?_
    refine WG.iload (pc' := 128) dX6_copy_126 rfl rfl ?_
    refine WG.icmp_ge (tgt := 185) (pc' := 131) dX6_copy_128 rfl (by decide) (fun c_128 => ?_) (fun c_128 => ?_)
    · exact absurd c_128 (by rw [nI_leI (by omega) (by omega)]; omega)
    · refine WG.iload (pc' := 133) dX6_copy_131 rfl rfl ?_
      refine WG.if_eq (tgt := 146) (pc' := 136) dX6_copy_133 rfl (by decide) (fun c_133 => ?_) (fun c_133 => ?_)
      · exact absurd c_133 (by decide)
      · refine WG.iload (pc' := 138) dX6_copy_136 rfl rfl ?_
        refine WG.iconst (v := 1) (pc' := 139) dX6_copy_138 rfl rfl ?_
        refine WG.isub (pc' := 140) dX6_copy_139 rfl ?_
        refine WG.iload (pc' := 142) dX6_copy_140 rfl rfl ?_
        refine WG.isub (pc' := 143) dX6_copy_142 rfl ?_
        refine WG.goto (tgt := 148) dX6_copy_143 (by decide) ?_
        rw [eq]
        refine WG.istore (L' := [_, _, _, _, _, _, _, _, _]) (pc' := 150) dX6_copy_148 rfl (by decide) rfl ?_
        refine WG.aload_n (pc' := 151) dX6_copy_150 rfl rfl ?_
        refine WG.getR (r := 99) f_X6_57 (pc' := 154) dX6_copy_151 rfl rfl rfl rfl ?_
        refine WG.bipush (v := 20) (pc' := 156) dX6_copy_154 rfl rfl ?_
        refine WG.iload_n (pc' := 157) dX6_copy_156 rfl rfl ?_
        refine WG.imul (pc' := 158) dX6_copy_157 rfl ?_
        refine WG.iload (pc' := 160) dX6_copy_158 rfl rfl ?_
        refine WG.iadd (pc' := 161) dX6_copy_160 rfl ?_
        refine WG.iload (pc' := 163) dX6_copy_161 rfl rfl ?_
        refine WG.iadd (pc' := 164) dX6_copy_163 rfl ?_
        refine WG.aload_n (pc' := 165) dX6_copy_164 rfl rfl ?_
        refine WG.getR (r := 99) f_X6_57 (pc' := 168) dX6_copy_165 rfl rfl rfl rfl ?_
        refine WG.bipush (v := 20) (pc' := 170) dX6_copy_168 rfl rfl ?_
        refine WG.iload_n (pc' := 171) dX6_copy_170 rfl rfl ?_
        refine WG.imul (pc' := 172) dX6_copy_171 rfl ?_
        refine WG.iload_n (pc' := 173) dX6_copy_172 rfl rfl ?_
        refine WG.iadd (pc' := 174) dX6_copy_173 rfl ?_
        refine WG.iload (pc' := 176) dX6_copy_174 rfl rfl ?_
        refine WG.iadd (pc' := 177) dX6_copy_176 rfl ?_
        refine WG.laloadN (j := 20 * a + i + q) (pc' := 178) dX6_copy_177 rfl rfl (zi20' a i q) (by omega) (by first | decide | omega) ?_
        rw [zC_s]
        refine WG.lastoreN (j := 20 * b + j + q) (pc' := 179) dX6_copy_178 rfl rfl (zi20' b j q) (by omega) (by first | decide | omega) ?_
        refine WG.iinc1 (L' := [_, _, _, _, _, _, _, _, _]) (pc' := 182) dX6_copy_179 rfl rfl (by decide) rfl ?_
        refine WG.goto (tgt := 124) dX6_copy_182 (by decide) ?_
        exact fin _
set_option maxHeartbeats 4000000 in
set_option maxRecDepth 100000 in
theorem m_copyP {h : zH} {Q : Option Value → zH → Prop} {a b i j n : Nat} (ha : a < 3) (hb : b < 3) (hi : i + n ≤ 20) (hj : j + n ≤ 20) (hQ : Q (some (.int (nI n))) (zC h 99 (va_cpy (h.2 99) (h.2 99) (20 * a + i) (20 * b + j) n))) (v6 v7 v8 : Option Value) : W_X6_copy Q 103 [some (.ref 86), some (.int (nI a)), some (.int (nI i)), some (.int (nI b)), some (.int (nI j)), some (.int (nI n)), v6, v7, v8] [] h := by
  have hab : nI a = nI b ↔ a = b := nI_eq (by omega) (by omega)
  have hij : nI i < nI j ↔ i < j := nI_ltI (by omega) (by omega)
  by_cases c : a = b ∧ i < j
  · have z := fun v8 => m_copyU ha hb hi hj c hQ n 0 v8 (by omega)
    rw [zcup0, zC_same rfl] at z
    have c1 := hab.mpr c.1
    have c2 := hij.mpr c.2
    refine WG.iload_n (pc' := 104) dX6_copy_103 rfl rfl ?_
    refine WG.iload_n (pc' := 105) dX6_copy_104 rfl rfl ?_
    refine WG.icmp_ne (tgt := 118) (pc' := 108) dX6_copy_105 rfl (by decide) (fun c_105 => ?_) (fun c_105 => ?_)
    · exact absurd c1 c_105
    · refine WG.iload_n (pc' := 109) dX6_copy_108 rfl rfl ?_
      refine WG.iload (pc' := 111) dX6_copy_109 rfl rfl ?_
      refine WG.icmp_ge (tgt := 118) (pc' := 114) dX6_copy_111 rfl (by decide) (fun c_111 => ?_) (fun c_111 => ?_)
      · exact absurd c2 (by grind)
      · refine WG.iconst (v := 1) (pc' := 115) dX6_copy_114 rfl rfl ?_
        refine WG.goto (tgt := 119) dX6_copy_115 (by decide) ?_
        refine WG.istore (L' := [_, _, _, _, _, _, _, _, _]) (pc' := 121) dX6_copy_119 rfl (by decide) rfl ?_
        refine WG.iconst (v := 0) (pc' := 122) dX6_copy_121 rfl rfl ?_
        refine WG.istore (L' := [_, _, _, _, _, _, _, _, _]) (pc' := 124) dX6_copy_122 rfl (by decide) rfl ?_
        exact z _
  · have z := fun v8 => m_copyD ha hb hi hj c hQ n 0 v8 (by omega)
    rw [zcpy0, zC_same rfl] at z
    refine WG.iload_n (pc' := 104) dX6_copy_103 rfl rfl ?_
    refine WG.iload_n (pc' := 105) dX6_copy_104 rfl rfl ?_
    refine WG.icmp_ne (tgt := 118) (pc' := 108) dX6_copy_105 rfl (by decide) (fun c_105 => ?_) (fun c_105 => ?_)
    · refine WG.iconst (v := 0) (pc' := 119) dX6_copy_118 rfl rfl ?_
      refine WG.istore (L' := [_, _, _, _, _, _, _, _, _]) (pc' := 121) dX6_copy_119 rfl (by decide) rfl ?_
      refine WG.iconst (v := 0) (pc' := 122) dX6_copy_121 rfl rfl ?_
      refine WG.istore (L' := [_, _, _, _, _, _, _, _, _]) (pc' := 124) dX6_copy_122 rfl (by decide) rfl ?_
      exact z _
    · refine WG.iload_n (pc' := 109) dX6_copy_108 rfl rfl ?_
      refine WG.iload (pc' := 111) dX6_copy_109 rfl rfl ?_
      refine WG.icmp_ge (tgt := 118) (pc' := 114) dX6_copy_111 rfl (by decide) (fun c_111 => ?_) (fun c_111 => ?_)
      · refine WG.iconst (v := 0) (pc' := 119) dX6_copy_118 rfl rfl ?_
        refine WG.istore (L' := [_, _, _, _, _, _, _, _, _]) (pc' := 121) dX6_copy_119 rfl (by decide) rfl ?_
        refine WG.iconst (v := 0) (pc' := 122) dX6_copy_121 rfl rfl ?_
        refine WG.istore (L' := [_, _, _, _, _, _, _, _, _]) (pc' := 124) dX6_copy_122 rfl (by decide) rfl ?_
        exact z _
      · exact absurd ⟨hab.mp c_105, hij.mp (by grind)⟩ c
theorem RM.cp {σ : zA} {h : zH} (hX : RM σ h) {a b m m' i j n : Nat} {s s' : Int32} {g g' : Nat → Int64} (hR : RQ a (some (s, m, g)) h) (hR' : RQ b (some (s', m', g')) h) (h1 : i + n ≤ m) (h2 : j + n ≤ m') : RM (zsL σ b (some (s', m', va_cpy g g' i j n))) (zC h 99 (va_cpy (h.2 99) (h.2 99) (20 * a + i) (20 * b + j) n)) ∧ zFr zB2 h (zC h 99 (va_cpy (h.2 99) (h.2 99) (20 * a + i) (20 * b + j) n)) := by
  obtain ⟨q1, q2, q3, q4, q5⟩ := hR'
  refine ⟨hX.setQ ⟨q1, q2, q3, q4, fun p hp => ?_⟩ (zFr.rf.C (Or.inr (Or.inr rfl))) (fun _ _ => rfl) (fun _ _ => rfl) (fun y p hp hy => ?_), zFr.rf.C (by show 86 ≤ 99; decide)⟩
  · rw [zC_s]
    by_cases c : j ≤ p ∧ p < j + n
    · rw [pk_cpy_in (by omega) (by omega), pk_cpy_in c.1 c.2, show 20 * a + i + (20 * b + p - (20 * b + j)) = 20 * a + (i + (p - j)) by omega]
      exact hR.2.2.2.2 _ (by omega)
    · rw [pk_cpy_out (by omega), pk_cpy_out (by omega)]
      exact q5 p hp
  · rw [zC_s, pk_cpy_out (by have := hR.1; omega)]
set_option maxHeartbeats 4000000 in
set_option maxRecDepth 100000 in
theorem m_copyJ {σ : zA} {h : zH} {e : Int32} (hX : RM σ h) (he : e = 0) {a b : Nat} (ha : a < 3) (hb : b < 3) {m m' : Nat} {s s' i j n : Int32} {g g' : Nat → Int64} (hR : RQ a (some (s, m, g)) h) (hR' : RQ b (some (s', m', g')) h) (hsame : zsL σ b (some (s', m', g')) = σ) (v6 v7 v8 : Option Value) : W_X6_copy (zPi RM zB2 h σ e (zvC (some (s, m, g)) (some (s', m', g')) i j n) (zsL σ b (zuC (some (s, m, g)) (some (s', m', g')) i j n))) 41 [some (.ref 86), some (.int (nI a)), some (.int i), some (.int (nI b)), some (.int j), some (.int n), v6, v7, v8] [] h := by
  have r3 := hR.2.2.1
  have r4 := hR.2.2.2.1
  have r3' := hR'.2.2.1
  have r4' := hR'.2.2.2.1
  have no : ¬ (s = s' ∧ zha m i n ∧ zha m' j n) → zsL σ b (zuC (some (s, m, g)) (some (s', m', g')) i j n) = σ := fun q => by rw [show zuC (some (s, m, g)) (some (s', m', g')) i j n = some (s', m', g') from if_neg q, hsame]
  refine WG.aload_n (pc' := 42) dX6_copy_41 rfl rfl ?_
  refine WG.getR (r := 97) f_X6_51 (pc' := 45) dX6_copy_42 rfl rfl rfl rfl ?_
  refine WG.iload_n (pc' := 46) dX6_copy_45 rfl rfl ?_
  refine WG.ialoadN (j := a) (pc' := 47) dX6_copy_46 rfl rfl rfl (by omega) (by first | decide | omega) ?_
  rw [r3]
  refine WG.aload_n (pc' := 48) dX6_copy_47 rfl rfl ?_
  refine WG.getR (r := 97) f_X6_51 (pc' := 51) dX6_copy_48 rfl rfl rfl rfl ?_
  refine WG.iload_n (pc' := 52) dX6_copy_51 rfl rfl ?_
  refine WG.ialoadN (j := b) (pc' := 53) dX6_copy_52 rfl rfl rfl (by omega) (by first | decide | omega) ?_
  rw [r3']
  refine WG.icmp_eq (tgt := 59) (pc' := 56) dX6_copy_53 rfl (by decide) (fun c_53 => ?_) (fun c_53 => ?_)
  · refine WG.iload (pc' := 61) dX6_copy_59 rfl rfl ?_
    refine WG.if_lt (tgt := 100) (pc' := 64) dX6_copy_61 rfl (by decide) (fun c_61 => ?_) (fun c_61 => ?_)
    · have hbad : ¬ (zha m i n ∧ zha m' j n) := fun q => q.1.2.1 c_61
      refine WG.bipush (v := -13) (pc' := 102) dX6_copy_100 rfl rfl ?_
      refine WG.ireturn dX6_copy_102 rfl (by first | rfl | decide) ?_
      exact zok (by rw [no (fun q => hbad q.2)]; exact hX) zFr.rf he ((if_pos c_53).trans (if_neg hbad)).symm
    · refine WG.iload_n (pc' := 65) dX6_copy_64 rfl rfl ?_
      refine WG.if_lt (tgt := 100) (pc' := 68) dX6_copy_65 rfl (by decide) (fun c_65 => ?_) (fun c_65 => ?_)
      · have hbad : ¬ (zha m i n ∧ zha m' j n) := fun q => q.1.1 c_65
        refine WG.bipush (v := -13) (pc' := 102) dX6_copy_100 rfl rfl ?_
        refine WG.ireturn dX6_copy_102 rfl (by first | rfl | decide) ?_
        exact zok (by rw [no (fun q => hbad q.2)]; exact hX) zFr.rf he ((if_pos c_53).trans (if_neg hbad)).symm
      · refine WG.iload (pc' := 70) dX6_copy_68 rfl rfl ?_
        refine WG.if_lt (tgt := 100) (pc' := 73) dX6_copy_70 rfl (by decide) (fun c_70 => ?_) (fun c_70 => ?_)
        · have hbad : ¬ (zha m i n ∧ zha m' j n) := fun q => q.2.1 c_70
          refine WG.bipush (v := -13) (pc' := 102) dX6_copy_100 rfl rfl ?_
          refine WG.ireturn dX6_copy_102 rfl (by first | rfl | decide) ?_
          exact zok (by rw [no (fun q => hbad q.2)]; exact hX) zFr.rf he ((if_pos c_53).trans (if_neg hbad)).symm
        · refine WG.iload_n (pc' := 74) dX6_copy_73 rfl rfl ?_
          refine WG.aload_n (pc' := 75) dX6_copy_74 rfl rfl ?_
          refine WG.getR (r := 98) f_X6_54 (pc' := 78) dX6_copy_75 rfl rfl rfl rfl ?_
          refine WG.iload_n (pc' := 79) dX6_copy_78 rfl rfl ?_
          refine WG.ialoadN (j := a) (pc' := 80) dX6_copy_79 rfl rfl rfl (by omega) (by first | decide | omega) ?_
          rw [r4]
          refine WG.iload (pc' := 82) dX6_copy_80 rfl rfl ?_
          refine WG.isub (pc' := 83) dX6_copy_82 rfl ?_
          refine WG.icmp_gt (tgt := 100) (pc' := 86) dX6_copy_83 rfl (by decide) (fun c_83 => ?_) (fun c_83 => ?_)
          · have hbad : ¬ (zha m i n ∧ zha m' j n) := fun q => q.1.2.2.2 c_83
            refine WG.bipush (v := -13) (pc' := 102) dX6_copy_100 rfl rfl ?_
            refine WG.ireturn dX6_copy_102 rfl (by first | rfl | decide) ?_
            exact zok (by rw [no (fun q => hbad q.2)]; exact hX) zFr.rf he ((if_pos c_53).trans (if_neg hbad)).symm
          · refine WG.iload (pc' := 88) dX6_copy_86 rfl rfl ?_
            refine WG.aload_n (pc' := 89) dX6_copy_88 rfl rfl ?_
            refine WG.getR (r := 98) f_X6_54 (pc' := 92) dX6_copy_89 rfl rfl rfl rfl ?_
            refine WG.iload_n (pc' := 93) dX6_copy_92 rfl rfl ?_
            refine WG.ialoadN (j := b) (pc' := 94) dX6_copy_93 rfl rfl rfl (by omega) (by first | decide | omega) ?_
            rw [r4']
            refine WG.iload (pc' := 96) dX6_copy_94 rfl rfl ?_
            refine WG.isub (pc' := 97) dX6_copy_96 rfl ?_
            refine WG.icmp_le (tgt := 103) (pc' := 100) dX6_copy_97 rfl (by decide) (fun c_97 => ?_) (fun c_97 => ?_)
            · have g1 : zha m i n := zha_m hR.1 c_61 c_65 c_83
              have g2 : zha m' j n := zha_m hR'.1 c_61 c_70 (by grind)
              have ev : zvC (some (s, m, g)) (some (s', m', g')) i j n = n := (if_pos c_53).trans (if_pos ⟨g1, g2⟩)
              have eu : zuC (some (s, m, g)) (some (s', m', g')) i j n = some (s', m', va_cpy g g' i.toNatClampNeg j.toNatClampNeg n.toNatClampNeg) := if_pos ⟨c_53, g1, g2⟩
              obtain ⟨i', n', rfl, rfl, l1⟩ := zha_of hR.1 g1
              obtain ⟨j', n2, rfl, en, l2⟩ := zha_of hR'.1 g2
              have hm := hR.1
              have hm' := hR'.1
              obtain rfl : n' = n2 := (nI_eq (by omega) (by omega)).mp en
              rw [nI_clamp (show i' < 2 ^ 31 by omega), nI_clamp (show j' < 2 ^ 31 by omega), nI_clamp (show n' < 2 ^ 31 by omega)] at eu
              have fin := hX.cp hR hR' l1 l2
              have hQ : zPi RM zB2 h σ e (zvC (some (s, m, g)) (some (s', m', g')) (nI i') (nI j') (nI n')) (zsL σ b (zuC (some (s, m, g)) (some (s', m', g')) (nI i') (nI j') (nI n'))) (some (.int (nI n'))) (zC h 99 (va_cpy (h.2 99) (h.2 99) (20 * a + i') (20 * b + j') n')) := zok (by rw [eu]; exact fin.1) fin.2 he ev.symm
              exact m_copyP ha hb (by omega) (by omega) hQ _ _ _
            · have hbad : ¬ (zha m i n ∧ zha m' j n) := fun q => q.2.2.2.2 (by grind)
              refine WG.bipush (v := -13) (pc' := 102) dX6_copy_100 rfl rfl ?_
              refine WG.ireturn dX6_copy_102 rfl (by first | rfl | decide) ?_
              exact zok (by rw [no (fun q => hbad q.2)]; exact hX) zFr.rf he ((if_pos c_53).trans (if_neg hbad)).symm
  · refine WG.bipush (v := -12) (pc' := 58) dX6_copy_56 rfl rfl ?_
    refine WG.ireturn dX6_copy_58 rfl (by first | rfl | decide) ?_
    exact zok (by rw [no (fun q => c_53 q.1)]; exact hX) zFr.rf he (if_neg c_53).symm
set_option maxHeartbeats 4000000 in
set_option maxRecDepth 100000 in
theorem m_copy {σ : zA} {h : zH} (hX : RM σ h) (l i k j n : Int32) : K_X6_copy [.ref 86, .int l, .int i, .int k, .int j, .int n] h (zPi RM zB2 h σ (zeC l k) (zvC (σ.2.2.2.2.2.1 l.toNatClampNeg) (σ.2.2.2.2.2.1 k.toNatClampNeg) i j n) (zsL σ k.toNatClampNeg (zuC (σ.2.2.2.2.2.1 l.toNatClampNeg) (σ.2.2.2.2.2.1 k.toNatClampNeg) i j n))) := by
  refine CT.of rfl rfl (Nat.le_of_ble_eq_true rfl) rfl ?_
  by_cases hl : zsd 3 l ∧ zsd 3 k
  · have he : zeC l k = 0 := zes_n hl
    obtain ⟨hl1, hl2⟩ := hl
    obtain ⟨a, ha, rfl⟩ := zsd_of (by decide) hl1
    obtain ⟨b, hb, rfl⟩ := zsd_of (by decide) hl2
    rw [nI_clamp (show a < 2 ^ 31 by omega), nI_clamp (show b < 2 ^ 31 by omega)]
    have hR := hX.2.2.2.2.2.1 a ha
    have hR' := hX.2.2.2.2.2.1 b hb
    have hsame := zsL_same σ b
    generalize hz : σ.2.2.2.2.2.1 a = y at hR ⊢
    generalize hz' : σ.2.2.2.2.2.1 b = z at hR' hsame ⊢
    match y, z, hR, hR', hsame with
    | none, z, hR, hR', hsame =>
      have hR : h.1 97 a = -1 := hR
      have eu : zuC none z i j n = z := by cases z <;> rfl
      have ev : zvC none z i j n = -11 := by cases z <;> rfl
      refine WG.iload_n (pc' := 1) dX6_copy_0 rfl rfl ?_
      refine WG.callSd (c_X6_isList h _) m_X6_308 b_X6_isList rfl (zrk_of rfl) rfl (Nat.le_of_ble_eq_true rfl) dX6_copy_1 (pc' := 4) rfl ?_
      refine WG.if_eq (tgt := 14) (pc' := 7) dX6_copy_4 rfl (by decide) (fun c_4 => ?_) (fun c_4 => ?_)
      · exact absurd hl1 (zb_eq.mp c_4)
      · refine WG.iload_n (pc' := 8) dX6_copy_7 rfl rfl ?_
        refine WG.callSd (c_X6_isList h _) m_X6_308 b_X6_isList rfl (zrk_of rfl) rfl (Nat.le_of_ble_eq_true rfl) dX6_copy_8 (pc' := 11) rfl ?_
        refine WG.if_ne (tgt := 20) (pc' := 14) dX6_copy_11 rfl (by decide) (fun c_11 => ?_) (fun c_11 => ?_)
        · refine WG.aload_n (pc' := 21) dX6_copy_20 rfl rfl ?_
          refine WG.getR (r := 97) f_X6_51 (pc' := 24) dX6_copy_21 rfl rfl rfl rfl ?_
          refine WG.iload_n (pc' := 25) dX6_copy_24 rfl rfl ?_
          refine WG.ialoadN (j := a) (pc' := 26) dX6_copy_25 rfl rfl rfl (by omega) (by first | decide | omega) ?_
          rw [hR]
          refine WG.if_lt (tgt := 38) (pc' := 29) dX6_copy_26 rfl (by decide) (fun c_26 => ?_) (fun c_26 => ?_)
          · refine WG.bipush (v := -11) (pc' := 40) dX6_copy_38 rfl rfl ?_
            refine WG.ireturn dX6_copy_40 rfl (by first | rfl | decide) ?_
            exact zok (by rw [eu, hsame]; exact hX) zFr.rf he ev.symm
          · exact absurd (by decide) c_26
        · exact absurd hl2 (zb_eq.mp c_11)
    | some (s, m, g), none, hR, hR', hsame =>
      have hR' : h.1 97 b = -1 := hR'
      have r3 := hR.2.2.1
      have r2 := hR.2.1
      refine WG.iload_n (pc' := 1) dX6_copy_0 rfl rfl ?_
      refine WG.callSd (c_X6_isList h _) m_X6_308 b_X6_isList rfl (zrk_of rfl) rfl (Nat.le_of_ble_eq_true rfl) dX6_copy_1 (pc' := 4) rfl ?_
      refine WG.if_eq (tgt := 14) (pc' := 7) dX6_copy_4 rfl (by decide) (fun c_4 => ?_) (fun c_4 => ?_)
      · exact absurd hl1 (zb_eq.mp c_4)
      · refine WG.iload_n (pc' := 8) dX6_copy_7 rfl rfl ?_
        refine WG.callSd (c_X6_isList h _) m_X6_308 b_X6_isList rfl (zrk_of rfl) rfl (Nat.le_of_ble_eq_true rfl) dX6_copy_8 (pc' := 11) rfl ?_
        refine WG.if_ne (tgt := 20) (pc' := 14) dX6_copy_11 rfl (by decide) (fun c_11 => ?_) (fun c_11 => ?_)
        · refine WG.aload_n (pc' := 21) dX6_copy_20 rfl rfl ?_
          refine WG.getR (r := 97) f_X6_51 (pc' := 24) dX6_copy_21 rfl rfl rfl rfl ?_
          refine WG.iload_n (pc' := 25) dX6_copy_24 rfl rfl ?_
          refine WG.ialoadN (j := a) (pc' := 26) dX6_copy_25 rfl rfl rfl (by omega) (by first | decide | omega) ?_
          rw [r3]
          refine WG.if_lt (tgt := 38) (pc' := 29) dX6_copy_26 rfl (by decide) (fun c_26 => ?_) (fun c_26 => ?_)
          · exact absurd c_26 (by have := zs1n r2; grind)
          · refine WG.aload_n (pc' := 30) dX6_copy_29 rfl rfl ?_
            refine WG.getR (r := 97) f_X6_51 (pc' := 33) dX6_copy_30 rfl rfl rfl rfl ?_
            refine WG.iload_n (pc' := 34) dX6_copy_33 rfl rfl ?_
            refine WG.ialoadN (j := b) (pc' := 35) dX6_copy_34 rfl rfl rfl (by omega) (by first | decide | omega) ?_
            rw [hR']
            refine WG.if_ge (tgt := 41) (pc' := 38) dX6_copy_35 rfl (by decide) (fun c_35 => ?_) (fun c_35 => ?_)
            · exact absurd c_35 (by decide)
            · refine WG.bipush (v := -11) (pc' := 40) dX6_copy_38 rfl rfl ?_
              refine WG.ireturn dX6_copy_40 rfl (by first | rfl | decide) ?_
              exact zok (by show RM (zsL σ b none) h; rw [hsame]; exact hX) zFr.rf he rfl
        · exact absurd hl2 (zb_eq.mp c_11)
    | some (s, m, g), some (s', m', g'), hR, hR', hsame =>
      have r3 := hR.2.2.1
      have r2 := hR.2.1
      have r3' := hR'.2.2.1
      have r2' := hR'.2.1
      refine WG.iload_n (pc' := 1) dX6_copy_0 rfl rfl ?_
      refine WG.callSd (c_X6_isList h _) m_X6_308 b_X6_isList rfl (zrk_of rfl) rfl (Nat.le_of_ble_eq_true rfl) dX6_copy_1 (pc' := 4) rfl ?_
      refine WG.if_eq (tgt := 14) (pc' := 7) dX6_copy_4 rfl (by decide) (fun c_4 => ?_) (fun c_4 => ?_)
      · exact absurd hl1 (zb_eq.mp c_4)
      · refine WG.iload_n (pc' := 8) dX6_copy_7 rfl rfl ?_
        refine WG.callSd (c_X6_isList h _) m_X6_308 b_X6_isList rfl (zrk_of rfl) rfl (Nat.le_of_ble_eq_true rfl) dX6_copy_8 (pc' := 11) rfl ?_
        refine WG.if_ne (tgt := 20) (pc' := 14) dX6_copy_11 rfl (by decide) (fun c_11 => ?_) (fun c_11 => ?_)
        · refine WG.aload_n (pc' := 21) dX6_copy_20 rfl rfl ?_
          refine WG.getR (r := 97) f_X6_51 (pc' := 24) dX6_copy_21 rfl rfl rfl rfl ?_
          refine WG.iload_n (pc' := 25) dX6_copy_24 rfl rfl ?_
          refine WG.ialoadN (j := a) (pc' := 26) dX6_copy_25 rfl rfl rfl (by omega) (by first | decide | omega) ?_
          rw [r3]
          refine WG.if_lt (tgt := 38) (pc' := 29) dX6_copy_26 rfl (by decide) (fun c_26 => ?_) (fun c_26 => ?_)
          · exact absurd c_26 (by have := zs1n r2; grind)
          · refine WG.aload_n (pc' := 30) dX6_copy_29 rfl rfl ?_
            refine WG.getR (r := 97) f_X6_51 (pc' := 33) dX6_copy_30 rfl rfl rfl rfl ?_
            refine WG.iload_n (pc' := 34) dX6_copy_33 rfl rfl ?_
            refine WG.ialoadN (j := b) (pc' := 35) dX6_copy_34 rfl rfl rfl (by omega) (by first | decide | omega) ?_
            rw [r3']
            refine WG.if_ge (tgt := 41) (pc' := 38) dX6_copy_35 rfl (by decide) (fun c_35 => ?_) (fun c_35 => ?_)
            · exact m_copyJ hX he ha hb hR hR' hsame _ _ _
            · exact absurd (zs1n r2') c_35
        · exact absurd hl2 (zb_eq.mp c_11)
  · skip
    refine WG.iload_n (pc' := 1) dX6_copy_0 rfl rfl ?_
    refine WG.callSd (c_X6_isList h l) m_X6_308 b_X6_isList rfl (zrk_of rfl) rfl (Nat.le_of_ble_eq_true rfl) dX6_copy_1 (pc' := 4) rfl ?_
    refine WG.if_eq (tgt := 14) (pc' := 7) dX6_copy_4 rfl (by decide) (fun c_4 => ?_) (fun c_4 => ?_)
    · refine WG.aload_n (pc' := 15) dX6_copy_14 rfl rfl ?_
      refine WG.iconst (v := -1) (pc' := 16) dX6_copy_15 rfl rfl ?_
      refine WG.callVd (c_X6_no 1 (by decide)) m_X6_13 b_X6_no rfl rfl rfl (zrk_of rfl) rfl (Nat.le_of_ble_eq_true rfl) dX6_copy_16 (pc' := 19) rfl ?_
      refine WG.ireturn dX6_copy_19 rfl (by first | rfl | decide) ?_
      exact zrM hX zFr.rf (by decide) (zes_t hl)
    · rw [zb_nn] at c_4
      refine WG.iload_n (pc' := 8) dX6_copy_7 rfl rfl ?_
      refine WG.callSd (c_X6_isList h k) m_X6_308 b_X6_isList rfl (zrk_of rfl) rfl (Nat.le_of_ble_eq_true rfl) dX6_copy_8 (pc' := 11) rfl ?_
      refine WG.if_ne (tgt := 20) (pc' := 14) dX6_copy_11 rfl (by decide) (fun c_11 => ?_) (fun c_11 => ?_)
      · rw [zb_ne] at c_11
        exact absurd ⟨c_4, c_11⟩ hl
      · refine WG.aload_n (pc' := 15) dX6_copy_14 rfl rfl ?_
        refine WG.iconst (v := -1) (pc' := 16) dX6_copy_15 rfl rfl ?_
        refine WG.callVd (c_X6_no 1 (by decide)) m_X6_13 b_X6_no rfl rfl rfl (zrk_of rfl) rfl (Nat.le_of_ble_eq_true rfl) dX6_copy_16 (pc' := 19) rfl ?_
        refine WG.ireturn dX6_copy_19 rfl (by first | rfl | decide) ?_
        exact zrM hX zFr.rf (by decide) (zes_t hl)
