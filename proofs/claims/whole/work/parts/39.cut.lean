/-! cut -/
set_option maxHeartbeats 4000000 in
set_option maxRecDepth 100000 in
theorem c_X5_fraction0 {h : zH} {a : Int64} {p : Int32} (ha : zbd a) : K_X5_fraction [.long a, .long 0, .int p] h (zD (some (.long p.toInt64)) h) := by
  refine CT.of rfl rfl (Nat.le_of_ble_eq_true rfl) rfl ?_
  have hb : zbd 0 := by unfold zbd; decide
  refine WG.lload_n (pc' := 1) dX5_fraction_0 rfl rfl ?_
  refine WG.lload_n (pc' := 2) dX5_fraction_1 rfl rfl ?_
  refine WG.callSd (c_X5_commonDivisor ha hb) m_X5_296 b_X5_commonDivisor rfl (zrk_of rfl) rfl (Nat.le_of_ble_eq_true rfl) dX5_fraction_2 (pc' := 5) rfl ?_
  refine WG.lstore (L' := [_, _, _, _, _, _, _]) (pc' := 7) dX5_fraction_5 rfl (by decide) rfl ?_
  refine WG.lload_n (pc' := 8) dX5_fraction_7 rfl rfl ?_
  refine WG.lconst (v := 0) (pc' := 9) dX5_fraction_8 rfl rfl ?_
  refine WG.lif_eq (tgt := 20) (pc1 := 10) (pc' := 13) dX5_fraction_9 rfl dX5_fraction_10 rfl (by decide) (fun c_10 => ?_) (fun c_10 => ?_)
  · refine WG.iload (pc' := 22) dX5_fraction_20 rfl rfl ?_
    refine WG.i2l (pc' := 23) dX5_fraction_22 rfl ?_
    refine WG.lreturn dX5_fraction_23 rfl ?_
    exact ⟨rfl, rfl⟩
  · exact absurd rfl c_10
theorem zfr_0 {b : Int64} {p : Int32} (hb : zbd b) (h0 : b ≠ 0) (hp : p = 0 ∨ p = 1) : zfr 0 b p = p.toInt64 := by
  have e : Nat.gcd (zna 0) (zna b) = zna b := by show Nat.gcd 0 _ = _; exact Nat.gcd_zero_left _
  have e2 : (if b < 0 then -lN (zna b) else lN (zna b)) = b := by
    rw [← zabs_l hb]
    by_cases c : b < 0
    · rw [if_pos c, if_pos c]; grind
    · rw [if_neg c, if_neg c]
  unfold zfr
  rw [e, e2]
  rcases hp with rfl | rfl
  · rw [if_pos rfl, Int64.zero_div]; rfl
  · rw [if_neg (by decide), Int64.div_self, if_neg h0]; rfl
noncomputable def zcu (n : Nat) (px py : Nat → Int64) (c : Nat) (v : Int64) (w : Int32) (j : Nat) : Nat → Int64
  | 0 => -9
  | m + 1 => @ite Int64 (zrc v (zpa n px py c (j + 1))) (Classical.propDecidable _) (if w = 0 then (nI (j + 1)).toInt64 else if v = 0 then (w - 1).toInt64 else zfr (v - zpa n px py c j) (zpa n px py c (j + 1) - zpa n px py c j) (w - 1)) (zcu n px py c v w (j + 1) m)
def zinv (v s : Int64) (j : Nat) : Prop := (v = 0 ∧ j = 0 ∧ s = 0) ∨ (0 < v ∧ s < v) ∨ (v < 0 ∧ v < s)
theorem zcs_cmp {v s : Int64} (hv : zl v 20000000000000) (hs : zl s 195536769928591872) : (v - s = 0 ↔ v = s) ∧ (0 < v - s ↔ s < v) ∧ zbd (v - s) := by
  have d := zl_sub hv hs (by decide)
  have z : (0 : Int64).toInt = 0 := by decide
  refine ⟨by grind, ?_, zbd_of d.2 (by decide)⟩
  rw [Int64.lt_iff_toInt_lt, Int64.lt_iff_toInt_lt, d.1, z]
  omega
theorem zinv_s {v s s' : Int64} {j j' : Nat} (hi : zinv v s j) (h : ¬ zrc v s') : zinv v s' j' := by unfold zinv zrc at *; grind
set_option maxHeartbeats 4000000 in
set_option maxRecDepth 100000 in
theorem m_cutJ {n : Nat} {w : Int64} {ux uy px py : Nat → Int64} {h1 : zH} (hL : RCm n w ux uy px py h1) {c j m : Nat} {a p : Int32} {v V : Int64} (hv : zl v 20000000000000) (b0 : zl (zpa n px py c j) 195536769928591872) (b1 : zl (zpa n px py c (j + 1)) 195536769928591872) {Q : Option Value → zH → Prop} (hQ : Q (some (.long V)) h1) (hi : zinv v (zpa n px py c j) j) (hr : zrc v (zpa n px py c (j + 1))) (hV : V = zcu n px py c v p j (m + 1)) : W_X6_cut Q 177 [some (.ref 86), some (.int (nI c)), some (.int a), some (.int p), some (.long v), none, some (.int (nI (j + 1))), some (.long (v - zpa n px py c j)), none, some (.long (v - zpa n px py c (j + 1))), none] [] h1 := by
  have d0 := zcs_cmp hv b0
  have d1 := zl_sub b1 b0 (by decide)
  have eV : V = if p = 0 then (nI (j + 1)).toInt64 else if v = 0 then (p - 1).toInt64 else zfr (v - zpa n px py c j) (zpa n px py c (j + 1) - zpa n px py c j) (p - 1) := hV.trans (if_pos hr)
  have ez : v - zpa n px py c (j) - (v - zpa n px py c (j + 1)) = zpa n px py c (j + 1) - zpa n px py c j := by grind
  have ev : v - zpa n px py c j = 0 ↔ v = 0 := by rw [d0.1]; unfold zinv at hi; grind
  have ne : v ≠ 0 → zpa n px py c (j + 1) - zpa n px py c j ≠ 0 := by intro q; unfold zinv at hi; unfold zrc at hr; grind
  have key : ∀ r, r = V → Q (some (.long r)) h1 := fun r e => by rw [e]; exact hQ
  clear hQ
  refine WG.iload_n (pc' := 178) dX6_cut_177 rfl rfl ?_
  refine WG.if_ne (tgt := 187) (pc' := 181) dX6_cut_178 rfl (by decide) (fun c_178 => ?_) (fun c_178 => ?_)
  · refine WG.lload (pc' := 189) dX6_cut_187 rfl rfl ?_
    refine WG.lconst (v := 0) (pc' := 190) dX6_cut_189 rfl rfl ?_
    refine WG.lif_ne (tgt := 201) (pc1 := 191) (pc' := 194) dX6_cut_190 rfl dX6_cut_191 rfl (by decide) (fun c_191 => ?_) (fun c_191 => ?_)
    · refine WG.lload (pc' := 203) dX6_cut_201 rfl rfl ?_
      refine WG.lload (pc' := 205) dX6_cut_203 rfl rfl ?_
      refine WG.lload (pc' := 207) dX6_cut_205 rfl rfl ?_
      refine WG.lsub (pc' := 208) dX6_cut_207 rfl ?_
      refine WG.iload_n (pc' := 209) dX6_cut_208 rfl rfl ?_
      refine WG.iconst (v := 1) (pc' := 210) dX6_cut_209 rfl rfl ?_
      refine WG.isub (pc' := 211) dX6_cut_210 rfl ?_
      rw [ez]
      refine WG.callSd (c_X6_lowest d0.2.2 (zbd_of d1.2 (by decide)) (ne (mt ev.mpr (by first | exact c_191 | assumption)))) m_X6_204 b_X6_lowest rfl (zrk_of rfl) rfl (Nat.le_of_ble_eq_true rfl) dX6_cut_211 (pc' := 214) rfl ?_
      refine WG.lreturn dX6_cut_214 rfl ?_
      first
        | exact key _ (by rw [eV, if_pos c_178])
        | exact key _ (by rw [eV, if_neg c_178, if_pos (ev.mp c_191)])
        | exact key _ (by rw [eV, if_neg c_178, if_neg (mt ev.mpr c_191)])
    · refine WG.iload_n (pc' := 195) dX6_cut_194 rfl rfl ?_
      refine WG.iconst (v := 1) (pc' := 196) dX6_cut_195 rfl rfl ?_
      refine WG.isub (pc' := 197) dX6_cut_196 rfl ?_
      refine WG.i2l (pc' := 198) dX6_cut_197 rfl ?_
      refine WG.goto (tgt := 214) dX6_cut_198 (by decide) ?_
      refine WG.lreturn dX6_cut_214 rfl ?_
      first
        | exact key _ (by rw [eV, if_pos c_178])
        | exact key _ (by rw [eV, if_neg c_178, if_pos (ev.mp c_191)])
        | exact key _ (by rw [eV, if_neg c_178, if_neg (mt ev.mpr c_191)])
  · refine WG.iload (pc' := 183) dX6_cut_181 rfl rfl ?_
    refine WG.i2l (pc' := 184) dX6_cut_183 rfl ?_
    refine WG.goto (tgt := 214) dX6_cut_184 (by decide) ?_
    refine WG.lreturn dX6_cut_214 rfl ?_
    first
      | exact key _ (by rw [eV, if_pos c_178])
      | exact key _ (by rw [eV, if_neg c_178, if_pos (ev.mp c_191)])
      | exact key _ (by rw [eV, if_neg c_178, if_neg (mt ev.mpr c_191)])
