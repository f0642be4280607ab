/-! Row and Past aside: the corners (Lay, cell 69) -/
def zsgn (x : Int64) : Int32 := if 0 < x then 1 else if x < 0 then -1 else 0
def zWt (f : zf) (n : Nat) : Int64 := (zsum (zw f) n).toInt64
def zME (f : zf) (a n : Nat) : Int64 := (zms f a (zall n) n).toInt64
def zu (f : zf) (n a i : Nat) : Int64 := (zsp f i a).toInt64 * zWt f n - zME f a n * (zw f i).toInt64
def zx (f : zf) (n a : Nat) : Nat → Int64
  | 0 => 0
  | i + 1 => zx f n a i + zu f n a i
/-- Lay holds n corners px, py, spread steps ux, uy, weights w -/
def RLay (n : Nat) (w : Int64) (ux uy px py : Nat → Int64) (h : zH) : Prop := n ≤ 8 ∧ h.1 69 4 = nI n ∧ h.2 69 5 = w ∧ (∀ i, i < n → h.2 70 i = ux i) ∧ (∀ i, i < n → h.2 71 i = uy i) ∧ (∀ i, i < n → h.2 72 i = px i) ∧ ∀ i, i < n → h.2 73 i = py i
abbrev RLf (f : zf) (n : Nat) (h : zH) : Prop := RLay n (zWt f n) (zu f n 0) (zu f n 1) (zx f n 0) (zx f n 1) h
set_option maxHeartbeats 4000000 in
set_option maxRecDepth 100000 in
theorem c_X0_settle {h : zH} {k n : Nat} {f : zf} (hS : RS k n f h) :
    K_X0_settle [.ref 69, .ref k] h (fun r h' => r = some (.int (if 0 < zWt f n then 1 else 0)) ∧ RLf f n h' ∧ zFr (zRg 69 5) h h') := by
  have hS0 := hS
  obtain ⟨hk, hn, h5, hf⟩ := hS
  have hkk : k + 6 ≤ 69 := by simp only [isS, List.mem_cons, List.not_mem_nil, or_false] at hk; omega
  refine CT.of rfl rfl (Nat.le_of_ble_eq_true rfl) rfl ?_
  have loop : ∀ (m i : Nat) (h1 : zH), i ≤ n → n - i < m → h1.1 69 4 = nI n → h1.2 69 5 = zWt f n → (∀ p, p < i → h1.2 70 p = zu f n 0 p) → (∀ p, p < i → h1.2 71 p = zu f n 1 p) → (∀ p, p < i → h1.2 72 p = zx f n 0 p) → (∀ p, p < i → h1.2 73 p = zx f n 1 p) → zFr (zRg 69 5) h h1 →
      W_X0_settle (fun r h' => r = some (.int (if 0 < zWt f n then 1 else 0)) ∧ RLf f n h' ∧ zFr (zRg 69 5) h h') 47 [some (.ref 69), some (.ref k), some (.long (zME f 0 n)), none, some (.long (zME f 1 n)), none, some (.long (zx f n 0 i)), none, some (.long (zx f n 1 i)), none, some (.int (nI i))] [] h1 := by
    intro m
    induction m with
    | zero => intro i h1 a b; omega
    | succ m ih =>
      intro i h1 hi hm g4 gw g0 g1 g2 g3 gf
      have hS' : ∀ h2 : zH, h2.1 = h1.1 → RS k n f h2 := fun h2 e => by
        have : RS k n f h1 := hS0.fo gf (fun o q => by obtain ⟨q1, q2⟩ := q; omega)
        obtain ⟨a, b, c, d⟩ := this
        exact ⟨a, b, by rw [e]; exact c, fun i hi j hj => by rw [e]; exact d i hi j hj⟩
      refine WG.iload (pc' := 49) dX0_settle_47 rfl rfl ?_
      refine WG.aload_n (pc' := 50) dX0_settle_49 rfl rfl ?_
      refine WG.getI f_X0_24 (pc' := 53) dX0_settle_50 rfl rfl rfl ?_
      refine WG.icmp_ge (tgt := 163) (pc' := 56) dX0_settle_53 rfl (by decide) (fun c_53 => ?_) (fun c_53 => ?_)
      · obtain rfl : i = n := by have := (zle g4 (by omega) (by omega)).mp c_53; omega
        refine WG.aload_n (pc' := 164) dX0_settle_163 rfl rfl ?_
        refine WG.getL f_X0_28 (pc' := 167) dX0_settle_164 rfl rfl rfl ?_
        rw [gw]
        refine WG.lconst (v := 0) (pc' := 168) dX0_settle_167 rfl rfl ?_
        refine WG.lif_le (tgt := 176) (pc1 := 169) (pc' := 172) dX0_settle_168 rfl dX0_settle_169 rfl (by decide) (fun c_169 => ?_) (fun c_169 => ?_)
        · refine WG.iconst (v := 0) (pc' := 177) dX0_settle_176 rfl rfl ?_
          refine WG.ireturn dX0_settle_177 rfl (by first | rfl | decide) ?_
          exact ⟨by clear ih hS' g0 g1 g2 g3 gf hf hS0; grind, ⟨by omega, g4, gw, g0, g1, g2, g3⟩, gf⟩
        · refine WG.iconst (v := 1) (pc' := 173) dX0_settle_172 rfl rfl ?_
          refine WG.goto (tgt := 177) dX0_settle_173 (by decide) ?_
          refine WG.ireturn dX0_settle_177 rfl (by first | rfl | decide) ?_
          exact ⟨by clear ih hS' g0 g1 g2 g3 gf hf hS0; grind, ⟨by omega, g4, gw, g0, g1, g2, g3⟩, gf⟩
      · have hlt : i < n := by have := mt (zle (i := i) g4 (by omega) (by omega)).mpr c_53; omega
        refine WG.aload_n (pc' := 57) dX0_settle_56 rfl rfl ?_
        refine WG.getR (r := 72) f_X0_18 (pc' := 60) dX0_settle_57 rfl rfl rfl rfl ?_
        refine WG.iload (pc' := 62) dX0_settle_60 rfl rfl ?_
        refine WG.lload (pc' := 64) dX0_settle_62 rfl rfl ?_
        refine WG.lastoreN  (pc' := 65) dX0_settle_64 rfl rfl (by first | rfl | assumption) (by first | assumption | omega) (by first | decide | omega) ?_
        refine WG.aload_n (pc' := 66) dX0_settle_65 rfl rfl ?_
        refine WG.getR (r := 73) f_X0_21 (pc' := 69) dX0_settle_66 rfl rfl rfl rfl ?_
        refine WG.iload (pc' := 71) dX0_settle_69 rfl rfl ?_
        refine WG.lload (pc' := 73) dX0_settle_71 rfl rfl ?_
        refine WG.lastoreN  (pc' := 74) dX0_settle_73 rfl rfl (by first | rfl | assumption) (by first | assumption | omega) (by first | decide | omega) ?_
        refine WG.aload_n (pc' := 75) dX0_settle_74 rfl rfl ?_
        refine WG.getR (r := 70) f_X0_9 (pc' := 78) dX0_settle_75 rfl rfl rfl rfl ?_
        refine WG.iload (pc' := 80) dX0_settle_78 rfl rfl ?_
        refine WG.aload_n (pc' := 81) dX0_settle_80 rfl rfl ?_
        refine WG.iload (pc' := 83) dX0_settle_81 rfl rfl ?_
        refine WG.callVd (c_X4_stepEast (hS' _ rfl) hlt) m_X0_49 b_X4_stepEast (zSo (by assumption)) rfl rfl (zrk_of rfl) rfl (Nat.le_of_ble_eq_true rfl) dX0_settle_83 (pc' := 86) rfl ?_
        refine WG.i2l (pc' := 87) dX0_settle_86 rfl ?_
        refine WG.aload_n (pc' := 88) dX0_settle_87 rfl rfl ?_
        refine WG.getL f_X0_28 (pc' := 91) dX0_settle_88 rfl rfl rfl ?_
        refine WG.lmul (pc' := 92) dX0_settle_91 rfl ?_
        refine WG.lload_n (pc' := 93) dX0_settle_92 rfl rfl ?_
        refine WG.aload_n (pc' := 94) dX0_settle_93 rfl rfl ?_
        refine WG.iload (pc' := 96) dX0_settle_94 rfl rfl ?_
        refine WG.callVd (c_X4_weight (hS' _ rfl) hlt) m_X0_52 b_X4_weight (zSo (by assumption)) rfl rfl (zrk_of rfl) rfl (Nat.le_of_ble_eq_true rfl) dX0_settle_96 (pc' := 99) rfl ?_
        refine WG.i2l (pc' := 100) dX0_settle_99 rfl ?_
        refine WG.lmul (pc' := 101) dX0_settle_100 rfl ?_
        refine WG.lsub (pc' := 102) dX0_settle_101 rfl ?_
        refine WG.lastoreN  (pc' := 103) dX0_settle_102 rfl rfl (by first | rfl | assumption) (by first | assumption | omega) (by first | decide | omega) ?_
        refine WG.aload_n (pc' := 104) dX0_settle_103 rfl rfl ?_
        refine WG.getR (r := 71) f_X0_15 (pc' := 107) dX0_settle_104 rfl rfl rfl rfl ?_
        refine WG.iload (pc' := 109) dX0_settle_107 rfl rfl ?_
        refine WG.aload_n (pc' := 110) dX0_settle_109 rfl rfl ?_
        refine WG.iload (pc' := 112) dX0_settle_110 rfl rfl ?_
        refine WG.callVd (c_X4_stepNorth (hS' _ rfl) hlt) m_X0_55 b_X4_stepNorth (zSo (by assumption)) rfl rfl (zrk_of rfl) rfl (Nat.le_of_ble_eq_true rfl) dX0_settle_112 (pc' := 115) rfl ?_
        refine WG.i2l (pc' := 116) dX0_settle_115 rfl ?_
        refine WG.aload_n (pc' := 117) dX0_settle_116 rfl rfl ?_
        refine WG.getL f_X0_28 (pc' := 120) dX0_settle_117 rfl rfl rfl ?_
        refine WG.lmul (pc' := 121) dX0_settle_120 rfl ?_
        refine WG.lload (pc' := 123) dX0_settle_121 rfl rfl ?_
        refine WG.aload_n (pc' := 124) dX0_settle_123 rfl rfl ?_
        refine WG.iload (pc' := 126) dX0_settle_124 rfl rfl ?_
        refine WG.callVd (c_X4_weight (hS' _ rfl) hlt) m_X0_52 b_X4_weight (zSo (by assumption)) rfl rfl (zrk_of rfl) rfl (Nat.le_of_ble_eq_true rfl) dX0_settle_126 (pc' := 129) rfl ?_
        refine WG.i2l (pc' := 130) dX0_settle_129 rfl ?_
        refine WG.lmul (pc' := 131) dX0_settle_130 rfl ?_
        refine WG.lsub (pc' := 132) dX0_settle_131 rfl ?_
        refine WG.lastoreN  (pc' := 133) dX0_settle_132 rfl rfl (by first | rfl | assumption) (by first | assumption | omega) (by first | decide | omega) ?_
        refine WG.lload (pc' := 135) dX0_settle_133 rfl rfl ?_
        refine WG.aload_n (pc' := 136) dX0_settle_135 rfl rfl ?_
        refine WG.getR (r := 70) f_X0_9 (pc' := 139) dX0_settle_136 rfl rfl rfl rfl ?_
        refine WG.iload (pc' := 141) dX0_settle_139 rfl rfl ?_
        refine WG.laloadN  (pc' := 142) dX0_settle_141 rfl rfl (by first | rfl | assumption) (by first | assumption | omega) (by first | decide | omega) ?_
        refine WG.ladd (pc' := 143) dX0_settle_142 rfl ?_
        refine WG.lstore (L' := [_, _, _, _, _, _, _, _, _, _, _]) (pc' := 145) dX0_settle_143 rfl (by decide) rfl ?_
        refine WG.lload (pc' := 147) dX0_settle_145 rfl rfl ?_
        refine WG.aload_n (pc' := 148) dX0_settle_147 rfl rfl ?_
        refine WG.getR (r := 71) f_X0_15 (pc' := 151) dX0_settle_148 rfl rfl rfl rfl ?_
        refine WG.iload (pc' := 153) dX0_settle_151 rfl rfl ?_
        refine WG.laloadN  (pc' := 154) dX0_settle_153 rfl rfl (by first | rfl | assumption) (by first | assumption | omega) (by first | decide | omega) ?_
        refine WG.ladd (pc' := 155) dX0_settle_154 rfl ?_
        refine WG.lstore (L' := [_, _, _, _, _, _, _, _, _, _, _]) (pc' := 157) dX0_settle_155 rfl (by decide) rfl ?_
        refine WG.iinc1 (L' := [_, _, _, _, _, _, _, _, _, _, _]) (pc' := 160) dX0_settle_157 rfl rfl (by decide) rfl ?_
        refine WG.goto (tgt := 47) dX0_settle_160 (by decide) ?_
        rw [nI_1]
        have e0 : (zsp f i 0).toInt64 * zWt f n - zME f 0 n * (zw f i).toInt64 = zu f n 0 i := rfl
        have e1 : (zsp f i 1).toInt64 * zWt f n - zME f 1 n * (zw f i).toInt64 = zu f n 1 i := rfl
        simp only [zL_2, gw, Nat.reduceEqDiff, false_and, if_false, true_and, and_self, if_true, e0, e1]
        refine ih (i + 1) _ (by omega) (by omega) g4 ?_ (fun p hp => ?_) (fun p hp => ?_) (fun p hp => ?_) (fun p hp => ?_) ((((gf.L ⟨by omega, by omega⟩).L ⟨by omega, by omega⟩).L ⟨by omega, by omega⟩).L ⟨by omega, by omega⟩)
        all_goals simp only [zL_2, Nat.reduceEqDiff, false_and, if_false, true_and, and_self, if_true]
        · exact gw
        · by_cases c : p = i
          · rw [if_pos c, c]
          · rw [if_neg c]; exact g0 p (by omega)
        · by_cases c : p = i
          · rw [if_pos c, c]
          · rw [if_neg c]; exact g1 p (by omega)
        · by_cases c : p = i
          · rw [if_pos c, c]
          · rw [if_neg c]; exact g2 p (by omega)
        · by_cases c : p = i
          · rw [if_pos c, c]
          · rw [if_neg c]; exact g3 p (by omega)
  have hSs : RS k n f (zI h 69 4 (nI n)) := hS0.fo (P := zRg 69 5) (zFr.rf.I ⟨by omega, by omega⟩) (fun o q => by obtain ⟨q1, q2⟩ := q; omega)
  have hSw : ∀ v, RS k n f (zL (zI h 69 4 (nI n)) 69 5 v) := fun v => hSs
  refine WG.aload_n (pc' := 1) dX0_settle_0 rfl rfl ?_
  refine WG.aload_n (pc' := 2) dX0_settle_1 rfl rfl ?_
  refine WG.getI f_X0_32 (pc' := 5) dX0_settle_2 rfl (zSo (by assumption)) rfl ?_
  rw [h5]
  refine WG.putI p_X0_24 (pc' := 8) dX0_settle_5 rfl rfl rfl rfl rfl ?_
  refine WG.aload_n (pc' := 9) dX0_settle_8 rfl rfl ?_
  refine WG.aload_n (pc' := 10) dX0_settle_9 rfl rfl ?_
  refine WG.callVd (c_X4_weightOfAll hSs) m_X0_35 b_X4_weightOfAll (zSo (by assumption)) rfl rfl (zrk_of rfl) rfl (Nat.le_of_ble_eq_true rfl) dX0_settle_10 (pc' := 13) rfl ?_
  refine WG.i2l (pc' := 14) dX0_settle_13 rfl ?_
  refine WG.putL p_X0_28 (pc' := 17) dX0_settle_14 rfl rfl rfl rfl rfl ?_
  refine WG.aload_n (pc' := 18) dX0_settle_17 rfl rfl ?_
  refine WG.aload_n (pc' := 19) dX0_settle_18 rfl rfl ?_
  refine WG.callVd (c_X4_all (hSw _)) m_X0_39 b_X4_all (zSo (by assumption)) rfl rfl (zrk_of rfl) rfl (Nat.le_of_ble_eq_true rfl) dX0_settle_19 (pc' := 22) rfl ?_
  refine WG.callVd (c_X4_missEast (hSw _) _) m_X0_42 b_X4_missEast (zSo (by assumption)) rfl rfl (zrk_of rfl) rfl (Nat.le_of_ble_eq_true rfl) dX0_settle_22 (pc' := 25) rfl ?_
  refine WG.i2l (pc' := 26) dX0_settle_25 rfl ?_
  refine WG.lstore_n (L' := [_, _, _, _, _, _, _, _, _, _, _]) (pc' := 27) dX0_settle_26 rfl (by decide) rfl ?_
  refine WG.aload_n (pc' := 28) dX0_settle_27 rfl rfl ?_
  refine WG.aload_n (pc' := 29) dX0_settle_28 rfl rfl ?_
  refine WG.callVd (c_X4_all (hSw _)) m_X0_39 b_X4_all (zSo (by assumption)) rfl rfl (zrk_of rfl) rfl (Nat.le_of_ble_eq_true rfl) dX0_settle_29 (pc' := 32) rfl ?_
  refine WG.callVd (c_X4_missNorth (hSw _) _) m_X0_46 b_X4_missNorth (zSo (by assumption)) rfl rfl (zrk_of rfl) rfl (Nat.le_of_ble_eq_true rfl) dX0_settle_32 (pc' := 35) rfl ?_
  refine WG.i2l (pc' := 36) dX0_settle_35 rfl ?_
  refine WG.lstore (L' := [_, _, _, _, _, _, _, _, _, _, _]) (pc' := 38) dX0_settle_36 rfl (by decide) rfl ?_
  refine WG.lconst (v := 0) (pc' := 39) dX0_settle_38 rfl rfl ?_
  refine WG.lstore (L' := [_, _, _, _, _, _, _, _, _, _, _]) (pc' := 41) dX0_settle_39 rfl (by decide) rfl ?_
  refine WG.lconst (v := 0) (pc' := 42) dX0_settle_41 rfl rfl ?_
  refine WG.lstore (L' := [_, _, _, _, _, _, _, _, _, _, _]) (pc' := 44) dX0_settle_42 rfl (by decide) rfl ?_
  refine WG.iconst (v := 0) (pc' := 45) dX0_settle_44 rfl rfl ?_
  refine WG.istore (L' := [_, _, _, _, _, _, _, _, _, _, _]) (pc' := 47) dX0_settle_45 rfl (by decide) rfl ?_
  refine loop (n + 1) 0 _ (by omega) (by omega) ?_ ?_ (fun p hp => by omega) (fun p hp => by omega) (fun p hp => by omega) (fun p hp => by omega) ((zFr.rf.I ⟨by omega, by omega⟩).L ⟨by omega, by omega⟩)
  · rw [zL_1, zI_1, if_pos ⟨rfl, rfl⟩]
  · rw [zL_2, if_pos ⟨rfl, rfl⟩]; rfl
theorem RLay.fo {n : Nat} {w : Int64} {ux uy px py : Nat → Int64} {P : Nat → Prop} {h h' : zH} (hL : RLay n w ux uy px py h) (hf : zFr P h h') (hP : ∀ o, P o → o < 69 ∨ 74 ≤ o) : RLay n w ux uy px py h' := by
  obtain ⟨a, b, c, d0, d1, d2, d3⟩ := hL
  have e : ∀ o, 69 ≤ o → o < 74 → h'.1 o = h.1 o ∧ h'.2 o = h.2 o := fun o h1 h2 => ⟨hf.1 o (fun q => by have := hP o q; omega), hf.2 o (fun q => by have := hP o q; omega)⟩
  exact ⟨a, by rw [(e 69 (by omega) (by omega)).1]; exact b, by rw [(e 69 (by omega) (by omega)).2]; exact c, by rw [(e 70 (by omega) (by omega)).2]; exact d0, by rw [(e 71 (by omega) (by omega)).2]; exact d1, by rw [(e 72 (by omega) (by omega)).2]; exact d2, by rw [(e 73 (by omega) (by omega)).2]; exact d3⟩
/-- twice the area of three corners; between; at one point -/
def zlf (px py : Nat → Int64) (a b c : Nat) : Int64 := (px b - px a) * (py c - py a) - (py b - py a) * (px c - px a)
def zcp (px py : Nat → Int64) (a b : Nat) : Int64 := px a * py b - py a * px b
def zro (n i : Nat) : Nat := if i < n then i else i - n
def zbw (px py : Nat → Int64) (a b c : Nat) : Prop := (if px b < px a then px b else px a) ≤ px c ∧ px c ≤ (if px b < px a then px a else px b) ∧ (if py b < py a then py b else py a) ≤ py c ∧ py c ≤ (if py b < py a then py a else py b)
def zsm (px py : Nat → Int64) (a b : Nat) : Prop := px a = px b ∧ py a = py b
def znb (n a b : Nat) : Prop := zro n (a + 1) = b ∨ zro n (b + 1) = a
section zLay
variable {n : Nat} {w : Int64} {ux uy px py : Nat → Int64} {h : zH}
set_option maxHeartbeats 4000000 in
set_option maxRecDepth 100000 in
theorem c_X0_unit (hL : RLay n w ux uy px py h) : K_X0_unit [.ref 69] h (zD (some (.long (2 * w * w))) h) := by
  obtain ⟨hn, h4, h5, d0, d1, d2, d3⟩ := hL
  refine CT.of rfl rfl (Nat.le_of_ble_eq_true rfl) rfl ?_
  refine WG.ldc2 (pc' := 3) dX0_unit_0 rfl k_X0_58 ?_
  refine WG.aload_n (pc' := 4) dX0_unit_3 rfl rfl ?_
  refine WG.getL f_X0_28 (pc' := 7) dX0_unit_4 rfl rfl rfl ?_
  refine WG.lmul (pc' := 8) dX0_unit_7 rfl ?_
  refine WG.aload_n (pc' := 9) dX0_unit_8 rfl rfl ?_
  refine WG.getL f_X0_28 (pc' := 12) dX0_unit_9 rfl rfl rfl ?_
  refine WG.lmul (pc' := 13) dX0_unit_12 rfl ?_
  refine WG.lreturn dX0_unit_13 rfl ?_
  exact ⟨by rw [h5], rfl⟩
set_option maxHeartbeats 4000000 in
set_option maxRecDepth 100000 in
theorem c_X0_round (hL : RLay n w ux uy px py h) {i : Nat} (hi : i < 1000) : K_X0_round [.ref 69, .int (nI i)] h (zD (some (.int (nI (zro n i)))) h) := by
  obtain ⟨hn, h4, h5, d0, d1, d2, d3⟩ := hL
  refine CT.of rfl rfl (Nat.le_of_ble_eq_true rfl) rfl ?_
  refine WG.iload_n (pc' := 1) dX0_round_0 rfl rfl ?_
  refine WG.aload_n (pc' := 2) dX0_round_1 rfl rfl ?_
  refine WG.getI f_X0_24 (pc' := 5) dX0_round_2 rfl rfl rfl ?_
  refine WG.icmp_ge (tgt := 12) (pc' := 8) dX0_round_5 rfl (by decide) (fun c_5 => ?_) (fun c_5 => ?_)
  · have c5 := (zle h4 (by omega) (by omega)).mp c_5
    rw [show nI (zro n i) = nI i - h.1 69 4 by rw [h4, pk_sub c5]; unfold zro; rw [if_neg (by omega)]]
    refine WG.iload_n (pc' := 13) dX0_round_12 rfl rfl ?_
    refine WG.aload_n (pc' := 14) dX0_round_13 rfl rfl ?_
    refine WG.getI f_X0_24 (pc' := 17) dX0_round_14 rfl rfl rfl ?_
    refine WG.isub (pc' := 18) dX0_round_17 rfl ?_
    refine WG.ireturn dX0_round_18 rfl (by first | rfl | decide) ?_
    exact ⟨rfl, rfl⟩
  · have c5 := mt (zle h4 (by omega) (by omega)).mpr c_5
    rw [show zro n i = i by unfold zro; rw [if_pos (by omega)]]
    refine WG.iload_n (pc' := 9) dX0_round_8 rfl rfl ?_
    refine WG.goto (tgt := 18) dX0_round_9 (by decide) ?_
    refine WG.ireturn dX0_round_18 rfl (by first | rfl | decide) ?_
    exact ⟨rfl, rfl⟩
set_option maxHeartbeats 4000000 in
set_option maxRecDepth 100000 in
theorem c_X0_leftness (hL : RLay n w ux uy px py h) {a b c : Nat} (ha : a < n) (hb : b < n) (hc : c < n) : K_X0_leftness [.ref 69, .int (nI a), .int (nI b), .int (nI c)] h (zD (some (.long (zlf px py a b c))) h) := by
  obtain ⟨hn, h4, h5, d0, d1, d2, d3⟩ := hL
  refine CT.of rfl rfl (Nat.le_of_ble_eq_true rfl) rfl ?_
  refine WG.aload_n (pc' := 1) dX0_leftness_0 rfl rfl ?_
  refine WG.getR (r := 72) f_X0_18 (pc' := 4) dX0_leftness_1 rfl rfl rfl rfl ?_
  refine WG.iload_n (pc' := 5) dX0_leftness_4 rfl rfl ?_
  refine WG.laloadN  (pc' := 6) dX0_leftness_5 rfl rfl (by first | rfl | assumption) (by first | assumption | omega) (by first | decide | omega) ?_
  refine WG.aload_n (pc' := 7) dX0_leftness_6 rfl rfl ?_
  refine WG.getR (r := 72) f_X0_18 (pc' := 10) dX0_leftness_7 rfl rfl rfl rfl ?_
  refine WG.iload_n (pc' := 11) dX0_leftness_10 rfl rfl ?_
  refine WG.laloadN  (pc' := 12) dX0_leftness_11 rfl rfl (by first | rfl | assumption) (by first | assumption | omega) (by first | decide | omega) ?_
  refine WG.lsub (pc' := 13) dX0_leftness_12 rfl ?_
  refine WG.aload_n (pc' := 14) dX0_leftness_13 rfl rfl ?_
  refine WG.getR (r := 73) f_X0_21 (pc' := 17) dX0_leftness_14 rfl rfl rfl rfl ?_
  refine WG.iload_n (pc' := 18) dX0_leftness_17 rfl rfl ?_
  refine WG.laloadN  (pc' := 19) dX0_leftness_18 rfl rfl (by first | rfl | assumption) (by first | assumption | omega) (by first | decide | omega) ?_
  refine WG.aload_n (pc' := 20) dX0_leftness_19 rfl rfl ?_
  refine WG.getR (r := 73) f_X0_21 (pc' := 23) dX0_leftness_20 rfl rfl rfl rfl ?_
  refine WG.iload_n (pc' := 24) dX0_leftness_23 rfl rfl ?_
  refine WG.laloadN  (pc' := 25) dX0_leftness_24 rfl rfl (by first | rfl | assumption) (by first | assumption | omega) (by first | decide | omega) ?_
  refine WG.lsub (pc' := 26) dX0_leftness_25 rfl ?_
  refine WG.lmul (pc' := 27) dX0_leftness_26 rfl ?_
  refine WG.aload_n (pc' := 28) dX0_leftness_27 rfl rfl ?_
  refine WG.getR (r := 73) f_X0_21 (pc' := 31) dX0_leftness_28 rfl rfl rfl rfl ?_
  refine WG.iload_n (pc' := 32) dX0_leftness_31 rfl rfl ?_
  refine WG.laloadN  (pc' := 33) dX0_leftness_32 rfl rfl (by first | rfl | assumption) (by first | assumption | omega) (by first | decide | omega) ?_
  refine WG.aload_n (pc' := 34) dX0_leftness_33 rfl rfl ?_
  refine WG.getR (r := 73) f_X0_21 (pc' := 37) dX0_leftness_34 rfl rfl rfl rfl ?_
  refine WG.iload_n (pc' := 38) dX0_leftness_37 rfl rfl ?_
  refine WG.laloadN  (pc' := 39) dX0_leftness_38 rfl rfl (by first | rfl | assumption) (by first | assumption | omega) (by first | decide | omega) ?_
  refine WG.lsub (pc' := 40) dX0_leftness_39 rfl ?_
  refine WG.aload_n (pc' := 41) dX0_leftness_40 rfl rfl ?_
  refine WG.getR (r := 72) f_X0_18 (pc' := 44) dX0_leftness_41 rfl rfl rfl rfl ?_
  refine WG.iload_n (pc' := 45) dX0_leftness_44 rfl rfl ?_
  refine WG.laloadN  (pc' := 46) dX0_leftness_45 rfl rfl (by first | rfl | assumption) (by first | assumption | omega) (by first | decide | omega) ?_
  refine WG.aload_n (pc' := 47) dX0_leftness_46 rfl rfl ?_
  refine WG.getR (r := 72) f_X0_18 (pc' := 50) dX0_leftness_47 rfl rfl rfl rfl ?_
  refine WG.iload_n (pc' := 51) dX0_leftness_50 rfl rfl ?_
  refine WG.laloadN  (pc' := 52) dX0_leftness_51 rfl rfl (by first | rfl | assumption) (by first | assumption | omega) (by first | decide | omega) ?_
  refine WG.lsub (pc' := 53) dX0_leftness_52 rfl ?_
  refine WG.lmul (pc' := 54) dX0_leftness_53 rfl ?_
  refine WG.lsub (pc' := 55) dX0_leftness_54 rfl ?_
  refine WG.lreturn dX0_leftness_55 rfl ?_
  exact ⟨by rw [d2 a ha, d2 b hb, d2 c hc, d3 a ha, d3 b hb, d3 c hc]; rfl, rfl⟩
set_option maxHeartbeats 4000000 in
set_option maxRecDepth 100000 in
theorem c_X0_crossProduct (hL : RLay n w ux uy px py h) {a b : Nat} (ha : a < n) (hb : b < n) : K_X0_crossProduct [.ref 69, .int (nI a), .int (nI b)] h (zD (some (.long (zcp px py a b))) h) := by
  obtain ⟨hn, h4, h5, d0, d1, d2, d3⟩ := hL
  refine CT.of rfl rfl (Nat.le_of_ble_eq_true rfl) rfl ?_
  refine WG.aload_n (pc' := 1) dX0_crossProduct_0 rfl rfl ?_
  refine WG.getR (r := 72) f_X0_18 (pc' := 4) dX0_crossProduct_1 rfl rfl rfl rfl ?_
  refine WG.iload_n (pc' := 5) dX0_crossProduct_4 rfl rfl ?_
  refine WG.laloadN  (pc' := 6) dX0_crossProduct_5 rfl rfl (by first | rfl | assumption) (by first | assumption | omega) (by first | decide | omega) ?_
  refine WG.aload_n (pc' := 7) dX0_crossProduct_6 rfl rfl ?_
  refine WG.getR (r := 73) f_X0_21 (pc' := 10) dX0_crossProduct_7 rfl rfl rfl rfl ?_
  refine WG.iload_n (pc' := 11) dX0_crossProduct_10 rfl rfl ?_
  refine WG.laloadN  (pc' := 12) dX0_crossProduct_11 rfl rfl (by first | rfl | assumption) (by first | assumption | omega) (by first | decide | omega) ?_
  refine WG.lmul (pc' := 13) dX0_crossProduct_12 rfl ?_
  refine WG.aload_n (pc' := 14) dX0_crossProduct_13 rfl rfl ?_
  refine WG.getR (r := 73) f_X0_21 (pc' := 17) dX0_crossProduct_14 rfl rfl rfl rfl ?_
  refine WG.iload_n (pc' := 18) dX0_crossProduct_17 rfl rfl ?_
  refine WG.laloadN  (pc' := 19) dX0_crossProduct_18 rfl rfl (by first | rfl | assumption) (by first | assumption | omega) (by first | decide | omega) ?_
  refine WG.aload_n (pc' := 20) dX0_crossProduct_19 rfl rfl ?_
  refine WG.getR (r := 72) f_X0_18 (pc' := 23) dX0_crossProduct_20 rfl rfl rfl rfl ?_
  refine WG.iload_n (pc' := 24) dX0_crossProduct_23 rfl rfl ?_
  refine WG.laloadN  (pc' := 25) dX0_crossProduct_24 rfl rfl (by first | rfl | assumption) (by first | assumption | omega) (by first | decide | omega) ?_
  refine WG.lmul (pc' := 26) dX0_crossProduct_25 rfl ?_
  refine WG.lsub (pc' := 27) dX0_crossProduct_26 rfl ?_
  refine WG.lreturn dX0_crossProduct_27 rfl ?_
  exact ⟨by rw [d2 a ha, d2 b hb, d3 a ha, d3 b hb]; rfl, rfl⟩
set_option maxHeartbeats 4000000 in
set_option maxRecDepth 100000 in
theorem c_X0_isBetween (hL : RLay n w ux uy px py h) {a b c : Nat} (ha : a < n) (hb : b < n) (hc : c < n) : K_X0_isBetween [.ref 69, .int (nI a), .int (nI b), .int (nI c)] h (zD (some (.int (zb (zbw px py a b c)))) h) := by
  obtain ⟨hn, h4, h5, d0, d1, d2, d3⟩ := hL
  refine CT.of rfl rfl (Nat.le_of_ble_eq_true rfl) rfl ?_
  have a2 := d2 a ha
  have b2 := d2 b hb
  have c2 := d2 c hc
  have a3 := d3 a ha
  have b3 := d3 b hb
  have c3 := d3 c hc
  clear d0 d1 d2 d3 h4 h5
  refine WG.aload_n (pc' := 1) dX0_isBetween_0 rfl rfl ?_
  refine WG.getR (r := 72) f_X0_18 (pc' := 4) dX0_isBetween_1 rfl rfl rfl rfl ?_
  refine WG.iload_n (pc' := 5) dX0_isBetween_4 rfl rfl ?_
  refine WG.laloadN  (pc' := 6) dX0_isBetween_5 rfl rfl (by first | rfl | assumption) (by first | assumption | omega) (by first | decide | omega) ?_
  refine WG.aload_n (pc' := 7) dX0_isBetween_6 rfl rfl ?_
  refine WG.getR (r := 72) f_X0_18 (pc' := 10) dX0_isBetween_7 rfl rfl rfl rfl ?_
  refine WG.iload_n (pc' := 11) dX0_isBetween_10 rfl rfl ?_
  refine WG.laloadN  (pc' := 12) dX0_isBetween_11 rfl rfl (by first | rfl | assumption) (by first | assumption | omega) (by first | decide | omega) ?_
  refine WG.mminL m_X0_81 (pc' := 15) dX0_isBetween_12 rfl (Nat.le_of_ble_eq_true rfl) (Nat.le_of_ble_eq_true rfl) (Nat.le_of_ble_eq_true rfl) (Nat.le_of_ble_eq_true rfl) ?_
  refine WG.aload_n (pc' := 16) dX0_isBetween_15 rfl rfl ?_
  refine WG.getR (r := 72) f_X0_18 (pc' := 19) dX0_isBetween_16 rfl rfl rfl rfl ?_
  refine WG.iload_n (pc' := 20) dX0_isBetween_19 rfl rfl ?_
  refine WG.laloadN  (pc' := 21) dX0_isBetween_20 rfl rfl (by first | rfl | assumption) (by first | assumption | omega) (by first | decide | omega) ?_
  refine WG.lif_gt (tgt := 104) (pc1 := 22) (pc' := 25) dX0_isBetween_21 rfl dX0_isBetween_22 rfl (by decide) (fun c_22 => ?_) (fun c_22 => ?_)
  · refine WG.iconst (v := 0) (pc' := 105) dX0_isBetween_104 rfl rfl ?_
    refine WG.ireturn dX0_isBetween_105 rfl (by first | rfl | decide) ?_
    exact ⟨by first | (rw [zb_t (by unfold zbw; grind)]; done) | (rw [zb_f (by unfold zbw; grind)]; done), rfl⟩
  · refine WG.aload_n (pc' := 26) dX0_isBetween_25 rfl rfl ?_
    refine WG.getR (r := 72) f_X0_18 (pc' := 29) dX0_isBetween_26 rfl rfl rfl rfl ?_
    refine WG.iload_n (pc' := 30) dX0_isBetween_29 rfl rfl ?_
    refine WG.laloadN  (pc' := 31) dX0_isBetween_30 rfl rfl (by first | rfl | assumption) (by first | assumption | omega) (by first | decide | omega) ?_
    refine WG.aload_n (pc' := 32) dX0_isBetween_31 rfl rfl ?_
    refine WG.getR (r := 72) f_X0_18 (pc' := 35) dX0_isBetween_32 rfl rfl rfl rfl ?_
    refine WG.iload_n (pc' := 36) dX0_isBetween_35 rfl rfl ?_
    refine WG.laloadN  (pc' := 37) dX0_isBetween_36 rfl rfl (by first | rfl | assumption) (by first | assumption | omega) (by first | decide | omega) ?_
    refine WG.aload_n (pc' := 38) dX0_isBetween_37 rfl rfl ?_
    refine WG.getR (r := 72) f_X0_18 (pc' := 41) dX0_isBetween_38 rfl rfl rfl rfl ?_
    refine WG.iload_n (pc' := 42) dX0_isBetween_41 rfl rfl ?_
    refine WG.laloadN  (pc' := 43) dX0_isBetween_42 rfl rfl (by first | rfl | assumption) (by first | assumption | omega) (by first | decide | omega) ?_
    refine WG.mmaxL m_X0_87 (pc' := 46) dX0_isBetween_43 rfl (Nat.le_of_ble_eq_true rfl) (Nat.le_of_ble_eq_true rfl) (Nat.le_of_ble_eq_true rfl) (Nat.le_of_ble_eq_true rfl) ?_
    refine WG.lif_gt (tgt := 104) (pc1 := 47) (pc' := 50) dX0_isBetween_46 rfl dX0_isBetween_47 rfl (by decide) (fun c_47 => ?_) (fun c_47 => ?_)
    · refine WG.iconst (v := 0) (pc' := 105) dX0_isBetween_104 rfl rfl ?_
      refine WG.ireturn dX0_isBetween_105 rfl (by first | rfl | decide) ?_
      exact ⟨by first | (rw [zb_t (by unfold zbw; grind)]; done) | (rw [zb_f (by unfold zbw; grind)]; done), rfl⟩
    · refine WG.aload_n (pc' := 51) dX0_isBetween_50 rfl rfl ?_
      refine WG.getR (r := 73) f_X0_21 (pc' := 54) dX0_isBetween_51 rfl rfl rfl rfl ?_
      refine WG.iload_n (pc' := 55) dX0_isBetween_54 rfl rfl ?_
      refine WG.laloadN  (pc' := 56) dX0_isBetween_55 rfl rfl (by first | rfl | assumption) (by first | assumption | omega) (by first | decide | omega) ?_
      refine WG.aload_n (pc' := 57) dX0_isBetween_56 rfl rfl ?_
      refine WG.getR (r := 73) f_X0_21 (pc' := 60) dX0_isBetween_57 rfl rfl rfl rfl ?_
      refine WG.iload_n (pc' := 61) dX0_isBetween_60 rfl rfl ?_
      refine WG.laloadN  (pc' := 62) dX0_isBetween_61 rfl rfl (by first | rfl | assumption) (by first | assumption | omega) (by first | decide | omega) ?_
      refine WG.mminL m_X0_81 (pc' := 65) dX0_isBetween_62 rfl (Nat.le_of_ble_eq_true rfl) (Nat.le_of_ble_eq_true rfl) (Nat.le_of_ble_eq_true rfl) (Nat.le_of_ble_eq_true rfl) ?_
      refine WG.aload_n (pc' := 66) dX0_isBetween_65 rfl rfl ?_
      refine WG.getR (r := 73) f_X0_21 (pc' := 69) dX0_isBetween_66 rfl rfl rfl rfl ?_
      refine WG.iload_n (pc' := 70) dX0_isBetween_69 rfl rfl ?_
      refine WG.laloadN  (pc' := 71) dX0_isBetween_70 rfl rfl (by first | rfl | assumption) (by first | assumption | omega) (by first | decide | omega) ?_
      refine WG.lif_gt (tgt := 104) (pc1 := 72) (pc' := 75) dX0_isBetween_71 rfl dX0_isBetween_72 rfl (by decide) (fun c_72 => ?_) (fun c_72 => ?_)
      · refine WG.iconst (v := 0) (pc' := 105) dX0_isBetween_104 rfl rfl ?_
        refine WG.ireturn dX0_isBetween_105 rfl (by first | rfl | decide) ?_
        exact ⟨by first | (rw [zb_t (by unfold zbw; grind)]; done) | (rw [zb_f (by unfold zbw; grind)]; done), rfl⟩
      · refine WG.aload_n (pc' := 76) dX0_isBetween_75 rfl rfl ?_
        refine WG.getR (r := 73) f_X0_21 (pc' := 79) dX0_isBetween_76 rfl rfl rfl rfl ?_
        refine WG.iload_n (pc' := 80) dX0_isBetween_79 rfl rfl ?_
        refine WG.laloadN  (pc' := 81) dX0_isBetween_80 rfl rfl (by first | rfl | assumption) (by first | assumption | omega) (by first | decide | omega) ?_
        refine WG.aload_n (pc' := 82) dX0_isBetween_81 rfl rfl ?_
        refine WG.getR (r := 73) f_X0_21 (pc' := 85) dX0_isBetween_82 rfl rfl rfl rfl ?_
        refine WG.iload_n (pc' := 86) dX0_isBetween_85 rfl rfl ?_
        refine WG.laloadN  (pc' := 87) dX0_isBetween_86 rfl rfl (by first | rfl | assumption) (by first | assumption | omega) (by first | decide | omega) ?_
        refine WG.aload_n (pc' := 88) dX0_isBetween_87 rfl rfl ?_
        refine WG.getR (r := 73) f_X0_21 (pc' := 91) dX0_isBetween_88 rfl rfl rfl rfl ?_
        refine WG.iload_n (pc' := 92) dX0_isBetween_91 rfl rfl ?_
        refine WG.laloadN  (pc' := 93) dX0_isBetween_92 rfl rfl (by first | rfl | assumption) (by first | assumption | omega) (by first | decide | omega) ?_
        refine WG.mmaxL m_X0_87 (pc' := 96) dX0_isBetween_93 rfl (Nat.le_of_ble_eq_true rfl) (Nat.le_of_ble_eq_true rfl) (Nat.le_of_ble_eq_true rfl) (Nat.le_of_ble_eq_true rfl) ?_
        refine WG.lif_gt (tgt := 104) (pc1 := 97) (pc' := 100) dX0_isBetween_96 rfl dX0_isBetween_97 rfl (by decide) (fun c_97 => ?_) (fun c_97 => ?_)
        · refine WG.iconst (v := 0) (pc' := 105) dX0_isBetween_104 rfl rfl ?_
          refine WG.ireturn dX0_isBetween_105 rfl (by first | rfl | decide) ?_
          exact ⟨by first | (rw [zb_t (by unfold zbw; grind)]; done) | (rw [zb_f (by unfold zbw; grind)]; done), rfl⟩
        · refine WG.iconst (v := 1) (pc' := 101) dX0_isBetween_100 rfl rfl ?_
          refine WG.goto (tgt := 105) dX0_isBetween_101 (by decide) ?_
          refine WG.ireturn dX0_isBetween_105 rfl (by first | rfl | decide) ?_
          exact ⟨by first | (rw [zb_t (by unfold zbw; grind)]; done) | (rw [zb_f (by unfold zbw; grind)]; done), rfl⟩
set_option maxHeartbeats 4000000 in
set_option maxRecDepth 100000 in
theorem c_X0_areAtOnePoint (hL : RLay n w ux uy px py h) {a b : Nat} (ha : a < n) (hb : b < n) : K_X0_areAtOnePoint [.ref 69, .int (nI a), .int (nI b)] h (zD (some (.int (zb (zsm px py a b)))) h) := by
  obtain ⟨hn, h4, h5, d0, d1, d2, d3⟩ := hL
  refine CT.of rfl rfl (Nat.le_of_ble_eq_true rfl) rfl ?_
  have a2 := d2 a ha
  have b2 := d2 b hb
  have a3 := d3 a ha
  have b3 := d3 b hb
  clear d0 d1 d2 d3 h4 h5
  refine WG.aload_n (pc' := 1) dX0_areAtOnePoint_0 rfl rfl ?_
  refine WG.getR (r := 72) f_X0_18 (pc' := 4) dX0_areAtOnePoint_1 rfl rfl rfl rfl ?_
  refine WG.iload_n (pc' := 5) dX0_areAtOnePoint_4 rfl rfl ?_
  refine WG.laloadN  (pc' := 6) dX0_areAtOnePoint_5 rfl rfl (by first | rfl | assumption) (by first | assumption | omega) (by first | decide | omega) ?_
  refine WG.aload_n (pc' := 7) dX0_areAtOnePoint_6 rfl rfl ?_
  refine WG.getR (r := 72) f_X0_18 (pc' := 10) dX0_areAtOnePoint_7 rfl rfl rfl rfl ?_
  refine WG.iload_n (pc' := 11) dX0_areAtOnePoint_10 rfl rfl ?_
  refine WG.laloadN  (pc' := 12) dX0_areAtOnePoint_11 rfl rfl (by first | rfl | assumption) (by first | assumption | omega) (by first | decide | omega) ?_
  refine WG.lif_ne (tgt := 36) (pc1 := 13) (pc' := 16) dX0_areAtOnePoint_12 rfl dX0_areAtOnePoint_13 rfl (by decide) (fun c_13 => ?_) (fun c_13 => ?_)
  · refine WG.iconst (v := 0) (pc' := 37) dX0_areAtOnePoint_36 rfl rfl ?_
    refine WG.ireturn dX0_areAtOnePoint_37 rfl (by first | rfl | decide) ?_
    exact ⟨by first | (rw [zb_t (by unfold zsm; grind)]; done) | (rw [zb_f (by unfold zsm; grind)]; done), rfl⟩
  · refine WG.aload_n (pc' := 17) dX0_areAtOnePoint_16 rfl rfl ?_
    refine WG.getR (r := 73) f_X0_21 (pc' := 20) dX0_areAtOnePoint_17 rfl rfl rfl rfl ?_
    refine WG.iload_n (pc' := 21) dX0_areAtOnePoint_20 rfl rfl ?_
    refine WG.laloadN  (pc' := 22) dX0_areAtOnePoint_21 rfl rfl (by first | rfl | assumption) (by first | assumption | omega) (by first | decide | omega) ?_
    refine WG.aload_n (pc' := 23) dX0_areAtOnePoint_22 rfl rfl ?_
    refine WG.getR (r := 73) f_X0_21 (pc' := 26) dX0_areAtOnePoint_23 rfl rfl rfl rfl ?_
    refine WG.iload_n (pc' := 27) dX0_areAtOnePoint_26 rfl rfl ?_
    refine WG.laloadN  (pc' := 28) dX0_areAtOnePoint_27 rfl rfl (by first | rfl | assumption) (by first | assumption | omega) (by first | decide | omega) ?_
    refine WG.lif_ne (tgt := 36) (pc1 := 29) (pc' := 32) dX0_areAtOnePoint_28 rfl dX0_areAtOnePoint_29 rfl (by decide) (fun c_29 => ?_) (fun c_29 => ?_)
    · refine WG.iconst (v := 0) (pc' := 37) dX0_areAtOnePoint_36 rfl rfl ?_
      refine WG.ireturn dX0_areAtOnePoint_37 rfl (by first | rfl | decide) ?_
      exact ⟨by first | (rw [zb_t (by unfold zsm; grind)]; done) | (rw [zb_f (by unfold zsm; grind)]; done), rfl⟩
    · refine WG.iconst (v := 1) (pc' := 33) dX0_areAtOnePoint_32 rfl rfl ?_
      refine WG.goto (tgt := 37) dX0_areAtOnePoint_33 (by decide) ?_
      refine WG.ireturn dX0_areAtOnePoint_37 rfl (by first | rfl | decide) ?_
      exact ⟨by first | (rw [zb_t (by unfold zsm; grind)]; done) | (rw [zb_f (by unfold zsm; grind)]; done), rfl⟩
set_option maxHeartbeats 4000000 in
set_option maxRecDepth 100000 in
theorem c_X0_areNeighbours (hL : RLay n w ux uy px py h) {a b : Nat} (ha : a < n) (hb : b < n) : K_X0_areNeighbours [.ref 69, .int (nI a), .int (nI b)] h (zD (some (.int (zb (znb n a b)))) h) := by
  have hn := hL.1
  have r : ∀ i, i ≤ 8 → zro n i ≤ 8 := fun i hi => by unfold zro; split <;> omega
  have r1 := r (a + 1) (by omega)
  have r2 := r (b + 1) (by omega)
  refine CT.of rfl rfl (Nat.le_of_ble_eq_true rfl) rfl ?_
  refine WG.aload_n (pc' := 1) dX0_areNeighbours_0 rfl rfl ?_
  refine WG.iload_n (pc' := 2) dX0_areNeighbours_1 rfl rfl ?_
  refine WG.iconst (v := 1) (pc' := 3) dX0_areNeighbours_2 rfl rfl ?_
  refine WG.iadd (pc' := 4) dX0_areNeighbours_3 rfl ?_
  rw [nI_1]
  refine WG.callVd (c_X0_round hL (by omega)) m_X0_60 b_X0_round rfl rfl rfl (zrk_of rfl) rfl (Nat.le_of_ble_eq_true rfl) dX0_areNeighbours_4 (pc' := 7) rfl ?_
  refine WG.iload_n (pc' := 8) dX0_areNeighbours_7 rfl rfl ?_
  refine WG.icmp_eq (tgt := 22) (pc' := 11) dX0_areNeighbours_8 rfl (by decide) (fun c_8 => ?_) (fun c_8 => ?_)
  · have c8 := (nI_eq (by omega) (by omega)).mp c_8
    refine WG.iconst (v := 1) (pc' := 23) dX0_areNeighbours_22 rfl rfl ?_
    refine WG.goto (tgt := 27) dX0_areNeighbours_23 (by decide) ?_
    refine WG.ireturn dX0_areNeighbours_27 rfl (by first | rfl | decide) ?_
    exact ⟨by first | (rw [zb_t (by unfold znb; grind)]; done) | (rw [zb_f (by unfold znb; grind)]; done), rfl⟩
  · have c8 := mt (nI_eq (by omega) (by omega)).mpr c_8
    refine WG.aload_n (pc' := 12) dX0_areNeighbours_11 rfl rfl ?_
    refine WG.iload_n (pc' := 13) dX0_areNeighbours_12 rfl rfl ?_
    refine WG.iconst (v := 1) (pc' := 14) dX0_areNeighbours_13 rfl rfl ?_
    refine WG.iadd (pc' := 15) dX0_areNeighbours_14 rfl ?_
    rw [nI_1]
    refine WG.callVd (c_X0_round hL (by omega)) m_X0_60 b_X0_round rfl rfl rfl (zrk_of rfl) rfl (Nat.le_of_ble_eq_true rfl) dX0_areNeighbours_15 (pc' := 18) rfl ?_
    refine WG.iload_n (pc' := 19) dX0_areNeighbours_18 rfl rfl ?_
    refine WG.icmp_ne (tgt := 26) (pc' := 22) dX0_areNeighbours_19 rfl (by decide) (fun c_19 => ?_) (fun c_19 => ?_)
    · have c19 := mt (nI_eq (by omega) (by omega)).mpr c_19
      refine WG.iconst (v := 0) (pc' := 27) dX0_areNeighbours_26 rfl rfl ?_
      refine WG.ireturn dX0_areNeighbours_27 rfl (by first | rfl | decide) ?_
      exact ⟨by first | (rw [zb_t (by unfold znb; grind)]; done) | (rw [zb_f (by unfold znb; grind)]; done), rfl⟩
    · have c19 := (nI_eq (by omega) (by omega)).mp c_19
      refine WG.iconst (v := 1) (pc' := 23) dX0_areNeighbours_22 rfl rfl ?_
      refine WG.goto (tgt := 27) dX0_areNeighbours_23 (by decide) ?_
      refine WG.ireturn dX0_areNeighbours_27 rfl (by first | rfl | decide) ?_
      exact ⟨by first | (rw [zb_t (by unfold znb; grind)]; done) | (rw [zb_f (by unfold znb; grind)]; done), rfl⟩
set_option maxHeartbeats 4000000 in
set_option maxRecDepth 100000 in
theorem c_X0_toldNumber (hL : RLay n w ux uy px py h) {k : Nat} (hk : k < 2 * n) : K_X0_toldNumber [.ref 69, .int (nI k)] h (zD (some (.long (if k % 2 = 0 then px (k / 2) else py (k / 2)))) h) := by
  obtain ⟨hn, h4, h5, d0, d1, d2, d3⟩ := hL
  refine CT.of rfl rfl (Nat.le_of_ble_eq_true rfl) rfl ?_
  have e2 : nI k - nI k / 2 * 2 = nI (k % 2) := pk_rem (by omega) (by decide) (by decide)
  have hz : nI (k % 2) = 0 ↔ k % 2 = 0 := nI_eq (a := k % 2) (b := 0) (by omega) (by omega)
  refine WG.iload_n (pc' := 1) dX0_toldNumber_0 rfl rfl ?_
  refine WG.iconst (v := 2) (pc' := 2) dX0_toldNumber_1 rfl rfl ?_
  refine WG.irem (pc' := 3) dX0_toldNumber_2 rfl (by decide) ?_
  rw [e2]
  refine WG.if_ne (tgt := 17) (pc' := 6) dX0_toldNumber_3 rfl (by decide) (fun c_3 => ?_) (fun c_3 => ?_)
  · have c3 := mt hz.mpr c_3
    refine WG.aload_n (pc' := 18) dX0_toldNumber_17 rfl rfl ?_
    refine WG.getR (r := 73) f_X0_21 (pc' := 21) dX0_toldNumber_18 rfl rfl rfl rfl ?_
    refine WG.iload_n (pc' := 22) dX0_toldNumber_21 rfl rfl ?_
    refine WG.iconst (v := 2) (pc' := 23) dX0_toldNumber_22 rfl rfl ?_
    refine WG.idiv (pc' := 24) dX0_toldNumber_23 rfl (by decide) ?_
    rw [znI2 (by omega)]
    refine WG.laloadN  (pc' := 25) dX0_toldNumber_24 rfl rfl (by first | rfl | assumption) (by first | assumption | omega) (by first | decide | omega) ?_
    refine WG.lreturn dX0_toldNumber_25 rfl ?_
    exact ⟨by simp [c3, d2 (k / 2) (by omega), d3 (k / 2) (by omega)], rfl⟩
  · have c3 := hz.mp c_3
    refine WG.aload_n (pc' := 7) dX0_toldNumber_6 rfl rfl ?_
    refine WG.getR (r := 72) f_X0_18 (pc' := 10) dX0_toldNumber_7 rfl rfl rfl rfl ?_
    refine WG.iload_n (pc' := 11) dX0_toldNumber_10 rfl rfl ?_
    refine WG.iconst (v := 2) (pc' := 12) dX0_toldNumber_11 rfl rfl ?_
    refine WG.idiv (pc' := 13) dX0_toldNumber_12 rfl (by decide) ?_
    rw [znI2 (by omega)]
    refine WG.laloadN  (pc' := 14) dX0_toldNumber_13 rfl rfl (by first | rfl | assumption) (by first | assumption | omega) (by first | decide | omega) ?_
    refine WG.goto (tgt := 25) dX0_toldNumber_14 (by decide) ?_
    refine WG.lreturn dX0_toldNumber_25 rfl ?_
    exact ⟨by simp [c3, d2 (k / 2) (by omega), d3 (k / 2) (by omega)], rfl⟩
end zLay
