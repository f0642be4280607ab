/-! the class's reader: a letter, a statement -/
def zdc (fm : Nat) : Nat → Nat
  | 0 => 0
  | m + 1 => zdc fm m + (if zchr fm (zlen.getD fm 0 - (m + 1)) = 126 ∨ zchr fm (zlen.getD fm 0 - (m + 1)) = 35 then 1 else 0)
theorem zdc4 : ∀ i, i < 6 → zdc i (zlen.getD i 0) = [0, 3, 4, 3, 1, 0].getD i 0 := by decide +kernel
theorem zscB_f {T : zac} {fm m p : Nat} {acc : zac} : zscB T fm false m p acc = zsc T fm m p acc := by cases m <;> rfl
theorem zscB_0 {T : zac} {fm p : Nat} {b : Bool} {acc : zac} : zscB T fm b 0 p acc = (true, p, acc) := by cases b <;> rfl
section zStep
variable {T : zac} {fm m p : Nat} {acc : zac} {x a : Int32}
theorem yst1 (ha : zchr fm (zlen.getD fm 0 - (m + 1)) = 126) (hx : zlt T p = 45) : zscB T fm false (m + 1) p acc = zscB T fm true (m + 1) (p + 1) acc := by
  rw [zscB_f]
  show (match zit T (zchr fm (zlen.getD fm 0 - (m + 1))) p with
    | (none, q) => (false, q, acc)
    | (some none, q) => zsc T fm m q acc
    | (some (some v), q) => zsc T fm m q (zap acc v)) = if 48 ≤ zlt T (p + 1) ∧ zlt T (p + 1) ≤ 57 then zsc T fm m (p + 1 + 1) (zap acc (-(zlt T (p + 1) - 48))) else (false, p + 1, acc)
  rw [ha]
  unfold zit
  rw [if_pos rfl, if_pos hx]
  by_cases d : 48 ≤ zlt T (p + 1) ∧ zlt T (p + 1) ≤ 57
  · rw [if_pos d, if_pos d]
  · rw [if_neg d, if_neg d]
theorem yst2 {b : Bool} (ha : zchr fm (zlen.getD fm 0 - (m + 1)) = 126 ∨ zchr fm (zlen.getD fm 0 - (m + 1)) = 35) (hx : zlt T p = x) (hd : 48 ≤ x ∧ x ≤ 57) : zscB T fm b (m + 1) p acc = zscB T fm false m (p + 1) (zap acc (if (bif b then (1 : Int32) else 0) = 0 then x - 48 else -(x - 48))) := by
  rw [zscB_f]
  cases b with
  | true =>
    show (if 48 ≤ zlt T p ∧ zlt T p ≤ 57 then zsc T fm m (p + 1) (zap acc (-(zlt T p - 48))) else (false, p, acc)) = _
    rw [hx, if_pos hd, if_neg (show ¬ (bif true then (1 : Int32) else 0) = 0 by decide)]
  | false =>
    rw [zscB_f, if_pos (show (bif false then (1 : Int32) else 0) = 0 from rfl)]
    show (match zit T (zchr fm (zlen.getD fm 0 - (m + 1))) p with
      | (none, q) => (false, q, acc)
      | (some none, q) => zsc T fm m q acc
      | (some (some v), q) => zsc T fm m q (zap acc v)) = _
    unfold zit
    rw [hx]
    rcases ha with ha | ha
    · rw [ha, if_pos rfl, if_neg (show ¬ x = 45 by intro z; rw [z] at hd; exact absurd hd.1 (by decide)), if_pos hd]
    · rw [ha, if_neg (by decide), if_pos rfl, if_pos hd]
theorem yst3 {b : Bool} (ha : zchr fm (zlen.getD fm 0 - (m + 1)) = 126 ∨ zchr fm (zlen.getD fm 0 - (m + 1)) = 35) (hx : zlt T p = x) (hd : ¬ (48 ≤ x ∧ x ≤ 57)) (hA : ¬ (zchr fm (zlen.getD fm 0 - (m + 1)) = 126 ∧ x = 45 ∧ b = false)) : zscB T fm b (m + 1) p acc = (false, p, acc) := by
  cases b with
  | true =>
    show (if 48 ≤ zlt T p ∧ zlt T p ≤ 57 then zsc T fm m (p + 1) (zap acc (-(zlt T p - 48))) else (false, p, acc)) = _
    rw [hx, if_neg hd]
  | false =>
    rw [zscB_f]
    show (match zit T (zchr fm (zlen.getD fm 0 - (m + 1))) p with
      | (none, q) => (false, q, acc)
      | (some none, q) => zsc T fm m q acc
      | (some (some v), q) => zsc T fm m q (zap acc v)) = _
    unfold zit
    rw [hx]
    rcases ha with ha | ha
    · rw [ha, if_pos rfl, if_neg (fun z => hA ⟨ha, z, rfl⟩), if_neg hd]
    · rw [ha, if_neg (by decide), if_pos rfl, if_neg hd]
theorem yst4 (h1 : ¬ zchr fm (zlen.getD fm 0 - (m + 1)) = 126) (h2 : ¬ zchr fm (zlen.getD fm 0 - (m + 1)) = 35) (hx : zlt T p = x) : zscB T fm false (m + 1) p acc = if x = zchr fm (zlen.getD fm 0 - (m + 1)) then zscB T fm false m (p + 1) acc else (false, p, acc) := by
  rw [zscB_f, zscB_f]
  show (match zit T (zchr fm (zlen.getD fm 0 - (m + 1))) p with
    | (none, q) => (false, q, acc)
    | (some none, q) => zsc T fm m q acc
    | (some (some v), q) => zsc T fm m q (zap acc v)) = _
  unfold zit
  rw [hx, if_neg h1, if_neg h2]
  by_cases c : x = zchr fm (zlen.getD fm 0 - (m + 1))
  · rw [if_pos c, if_pos c]
  · rw [if_neg c, if_neg c]
end zStep
def zTk (T : zac) (fm m p : Nat) (b : Bool) (acc : zac) (c : Int32) (h : zH) : Option Value → zH → Prop := fun r h' => ∃ v : Int32, r = some (.int v) ∧ zFr zFR h h' ∧ ((v = 0 ∧ (zscB T fm b (m + 1) p acc).1 = false ∧ (zscB T fm b (m + 1) p acc).2.1 = p) ∨ (v = 1 ∧ ∃ b' m' acc', RRd acc' fm (zlen.getD fm 0 - m') (bif b' then 1 else 0) c h' ∧ m' ≤ m + 1 ∧ (b' = true → 0 < m' ∧ zchr fm (zlen.getD fm 0 - m') = 126) ∧ acc'.1 + zdc fm m' = acc.1 + zdc fm (m + 1) ∧ zscB T fm b (m + 1) p acc = zscB T fm b' m' (p + 1) acc'))
set_option maxHeartbeats 4000000 in
set_option maxRecDepth 100000 in
theorem c_X2_takes {T : zac} {fm m p : Nat} {b : Bool} {acc : zac} {c x : Int32} {h : zH} (hR : RRd acc fm (zlen.getD fm 0 - (m + 1)) (bif b then 1 else 0) c h) (hf : fm < 6) (hm : m + 1 ≤ zlen.getD fm 0) (hb : b = true → zchr fm (zlen.getD fm 0 - (m + 1)) = 126) (hc4 : acc.1 + zdc fm (m + 1) ≤ 4) (hx : zlt T p = x) : K_X2_takes [.ref 74, .int x] h (zTk T fm m p b acc c h) := by
  have l9 := (zlen9 fm hf).1
  have hj : zlen.getD fm 0 - (m + 1) < zlen.getD fm 0 := by omega
  have ej : zlen.getD fm 0 - (m + 1) + 1 = zlen.getD fm 0 - m := by omega
  have edc : zdc fm (m + 1) = zdc fm m + (if zchr fm (zlen.getD fm 0 - (m + 1)) = 126 ∨ zchr fm (zlen.getD fm 0 - (m + 1)) = 35 then 1 else 0) := rfl
  have s1 := @yst1 T fm m p acc
  have s2 := @yst2 T fm m p acc x b
  have s3 := @yst3 T fm m p acc x b
  have s4 := @yst4 T fm m p acc x
  have J51 : ¬ (zchr fm (zlen.getD fm 0 - (m + 1)) = 126 ∧ x = 45 ∧ b = false) → W_X2_takes (zTk T fm m p b acc c h) 51 [some (.ref 74), some (.int x), some (.int (zchr fm (zlen.getD fm 0 - (m + 1))))] [] h := by
    intro hA
    have dig : (zchr fm (zlen.getD fm 0 - (m + 1)) = 126 ∨ zchr fm (zlen.getD fm 0 - (m + 1)) = 35) → ∀ v2, W_X2_takes (zTk T fm m p b acc c h) 63 [some (.ref 74), some (.int x), v2] [] h := by
      intro ha v2
      rw [if_pos ha] at edc
      refine WG.aload_n (pc' := 64) dX2_takes_63 rfl rfl ?_
      refine WG.iload_n (pc' := 65) dX2_takes_64 rfl rfl ?_
      refine WG.callV (c_X2_takesDigit hR (by omega) (by omega) x) m_X2_60 b_X2_takesDigit rfl rfl rfl (zrk_of rfl) rfl (Nat.le_of_ble_eq_true rfl) dX2_takes_65 (pc' := 68) rfl (fun r_ h_ q_ => ?_)
      obtain ⟨v, rfl, hv⟩ := q_
      refine WG.ireturn dX2_takes_68 rfl (by rcases hv with ⟨rfl, _⟩ | ⟨rfl, _⟩ <;> rfl) ?_
      rcases hv with ⟨rfl, hd, rfl⟩ | ⟨rfl, hd, hR2, hF⟩
      · refine ⟨0, rfl, zFr.rf, Or.inl ⟨rfl, ?_, ?_⟩⟩
        · rw [s3 ha hx hd hA]
        · rw [s3 ha hx hd hA]
      · refine ⟨1, rfl, hF, Or.inr ⟨rfl, false, m, _, ?_, by omega, fun z => (by cases z), ?_, s2 ha hx hd⟩⟩
        · rw [ej] at hR2; exact hR2
        · show acc.1 + 1 + zdc fm m = _; omega
    refine WG.iload_n (pc' := 52) dX2_takes_51 rfl rfl ?_
    refine WG.bipush (v := 126) (pc' := 54) dX2_takes_52 rfl rfl ?_
    refine WG.icmp_eq (tgt := 63) (pc' := 57) dX2_takes_54 rfl (by decide) (fun c_54 => ?_) (fun c_54 => ?_)
    · first
        | exact dig (Or.inl c_54) _
        | exact dig (Or.inr c_60) _
    · refine WG.iload_n (pc' := 58) dX2_takes_57 rfl rfl ?_
      refine WG.bipush (v := 35) (pc' := 60) dX2_takes_58 rfl rfl ?_
      refine WG.icmp_ne (tgt := 69) (pc' := 63) dX2_takes_60 rfl (by decide) (fun c_60 => ?_) (fun c_60 => ?_)
      · have hbf : b = false := by
          cases b with
          | false => rfl
          | true => exact absurd (hb rfl) c_54
        subst hbf
        have s4 := s4 c_54 c_60 hx
        rw [if_neg (fun z => z.elim c_54 c_60)] at edc
        have e4 : h.1 74 4 + 1 = nI (zlen.getD fm 0 - m) := by rw [hR.2.2.2.1, ← ej, nI_succ]
        refine WG.aload_n (pc' := 70) dX2_takes_69 rfl rfl ?_
        refine WG.dup (pc' := 71) dX2_takes_70 rfl rfl ?_
        refine WG.getI f_X2_28 (pc' := 74) dX2_takes_71 rfl rfl rfl ?_
        refine WG.iconst (v := 1) (pc' := 75) dX2_takes_74 rfl rfl ?_
        refine WG.iadd (pc' := 76) dX2_takes_75 rfl ?_
        refine WG.putI p_X2_28 (pc' := 79) dX2_takes_76 rfl rfl rfl rfl rfl ?_
        refine WG.iload_n (pc' := 80) dX2_takes_79 rfl rfl ?_
        refine WG.iload_n (pc' := 81) dX2_takes_80 rfl rfl ?_
        refine WG.icmp_ne (tgt := 88) (pc' := 84) dX2_takes_81 rfl (by decide) (fun c_81 => ?_) (fun c_81 => ?_)
        · rw [if_neg c_81] at s4
          refine WG.iconst (v := 0) (pc' := 89) dX2_takes_88 rfl rfl ?_
          refine WG.ireturn dX2_takes_89 rfl (by first | rfl | decide) ?_
          first
            | (refine ⟨0, rfl, zFr.rf.I (Or.inl rfl), Or.inl ⟨rfl, ?_, ?_⟩⟩ <;> (rw [s4]; done))
            | (refine ⟨1, rfl, zFr.rf.I (Or.inl rfl), Or.inr ⟨rfl, false, m, acc, ⟨?_, ?_, ?_, ?_, ?_, fun i hi => ?_⟩, by omega, fun z => (by cases z), by omega, s4⟩⟩
               · rw [zI_1, if_neg (by omega)]; exact hR.1
               · rw [zI_1, if_neg (by omega)]; exact hR.2.1
               · rw [zI_1, if_neg (by omega)]; exact hR.2.2.1
               · rw [zI_1, if_pos ⟨rfl, rfl⟩]; exact e4
               · rw [zI_1, if_neg (by omega)]; exact hR.2.2.2.2.1
               · rw [zI_1, if_neg (by omega)]; exact hR.2.2.2.2.2 i hi)
        · rw [if_pos c_81] at s4
          refine WG.iconst (v := 1) (pc' := 85) dX2_takes_84 rfl rfl ?_
          refine WG.goto (tgt := 89) dX2_takes_85 (by decide) ?_
          refine WG.ireturn dX2_takes_89 rfl (by first | rfl | decide) ?_
          first
            | (refine ⟨0, rfl, zFr.rf.I (Or.inl rfl), Or.inl ⟨rfl, ?_, ?_⟩⟩ <;> (rw [s4]; done))
            | (refine ⟨1, rfl, zFr.rf.I (Or.inl rfl), Or.inr ⟨rfl, false, m, acc, ⟨?_, ?_, ?_, ?_, ?_, fun i hi => ?_⟩, by omega, fun z => (by cases z), by omega, s4⟩⟩
               · rw [zI_1, if_neg (by omega)]; exact hR.1
               · rw [zI_1, if_neg (by omega)]; exact hR.2.1
               · rw [zI_1, if_neg (by omega)]; exact hR.2.2.1
               · rw [zI_1, if_pos ⟨rfl, rfl⟩]; exact e4
               · rw [zI_1, if_neg (by omega)]; exact hR.2.2.2.2.1
               · rw [zI_1, if_neg (by omega)]; exact hR.2.2.2.2.2 i hi)
      · first
          | exact dig (Or.inl c_54) _
          | exact dig (Or.inr c_60) _
  refine CT.of rfl rfl (Nat.le_of_ble_eq_true rfl) rfl ?_
  refine WG.aload_n (pc' := 1) dX2_takes_0 rfl rfl ?_
  refine WG.callVd (c_X2_between hR hf (by omega)) m_X2_35 b_X2_isBetweenStatements rfl rfl rfl (zrk_of rfl) rfl (Nat.le_of_ble_eq_true rfl) dX2_takes_1 (pc' := 4) rfl ?_
  refine WG.if_eq (tgt := 13) (pc' := 7) dX2_takes_4 rfl (by decide) (fun c_4 => ?_) (fun c_4 => ?_)
  · refine WG.aload_n (pc' := 14) dX2_takes_13 rfl rfl ?_
    refine WG.getT f_X2_24 (pc' := 17) dX2_takes_14 rfl rfl rfl ?_
    refine WG.aload_n (pc' := 18) dX2_takes_17 rfl rfl ?_
    refine WG.getI f_X2_28 (pc' := 21) dX2_takes_18 rfl rfl rfl ?_
    rw [hR.2.2.2.1, hR.2.2.1, nI_clamp (show fm < 2 ^ 31 by omega)]
    refine WG.callVs (c_J0_charAt hf hj _) m_X2_56 b_J0_charAt_5068e (by first | assumption | omega | decide) rfl rfl (zrk_of rfl) rfl (Nat.le_of_ble_eq_true rfl) dX2_takes_21 (pc' := 24) rfl ?_
    refine WG.istore_n (L' := [_, _, _]) (pc' := 25) dX2_takes_24 rfl (by decide) rfl ?_
    refine WG.iload_n (pc' := 26) dX2_takes_25 rfl rfl ?_
    refine WG.bipush (v := 126) (pc' := 28) dX2_takes_26 rfl rfl ?_
    refine WG.icmp_ne (tgt := 51) (pc' := 31) dX2_takes_28 rfl (by decide) (fun c_28 => ?_) (fun c_28 => ?_)
    · refine J51 (fun z => ?_)
      first
        | exact c_28 z.1
        | exact c_34 z.2.1
        | exact c_41 (by rw [z.2.2]; rfl)
    · refine WG.iload_n (pc' := 32) dX2_takes_31 rfl rfl ?_
      refine WG.bipush (v := 45) (pc' := 34) dX2_takes_32 rfl rfl ?_
      refine WG.icmp_ne (tgt := 51) (pc' := 37) dX2_takes_34 rfl (by decide) (fun c_34 => ?_) (fun c_34 => ?_)
      · refine J51 (fun z => ?_)
        first
          | exact c_28 z.1
          | exact c_34 z.2.1
          | exact c_41 (by rw [z.2.2]; rfl)
      · refine WG.aload_n (pc' := 38) dX2_takes_37 rfl rfl ?_
        refine WG.getI f_X2_31 (pc' := 41) dX2_takes_38 rfl rfl rfl ?_
        rw [hR.2.2.2.2.1]
        refine WG.if_ne (tgt := 51) (pc' := 44) dX2_takes_41 rfl (by decide) (fun c_41 => ?_) (fun c_41 => ?_)
        · refine J51 (fun z => ?_)
          first
            | exact c_28 z.1
            | exact c_34 z.2.1
            | exact c_41 (by rw [z.2.2]; rfl)
        · refine WG.aload_n (pc' := 45) dX2_takes_44 rfl rfl ?_
          refine WG.iconst (v := 1) (pc' := 46) dX2_takes_45 rfl rfl ?_
          refine WG.putI p_X2_31 (pc' := 49) dX2_takes_46 rfl rfl rfl rfl rfl ?_
          refine WG.iconst (v := 1) (pc' := 50) dX2_takes_49 rfl rfl ?_
          refine WG.ireturn dX2_takes_50 rfl (by first | rfl | decide) ?_
          have hbf : b = false := by
            cases b with
            | false => rfl
            | true => exact absurd c_41 (by decide)
          subst hbf
          refine ⟨1, rfl, zFr.rf.I (Or.inl rfl), Or.inr ⟨rfl, true, m + 1, acc, ⟨?_, ?_, ?_, ?_, ?_, fun i hi => ?_⟩, Nat.le_refl _, fun _ => ⟨by omega, c_28⟩, rfl, s1 c_28 (hx.trans c_34)⟩⟩
          · rw [zI_1, if_neg (by omega)]; exact hR.1
          · rw [zI_1, if_neg (by omega)]; exact hR.2.1
          · rw [zI_1, if_neg (by omega)]; exact hR.2.2.1
          · rw [zI_1, if_neg (by omega)]; exact hR.2.2.2.1
          · rw [zI_1, if_pos ⟨rfl, rfl⟩]; rfl
          · rw [zI_1, if_neg (by omega)]; exact hR.2.2.2.2.2 i hi
  · exact absurd (zb_nn.mp c_4) (by omega)
/-! statements -/
def zDn (n : Nat) (f : zf) (h : zH) (P : Prop) (n' : Nat) (f' : zf) : Option Value → zH → Prop := fun r h' => ∃ v : Int32, r = some (.int v) ∧ zFr (zRg 7 6) h h' ∧ ((v = 0 ∧ ¬ P ∧ RS 7 n f h') ∨ (v = 1 ∧ P ∧ RS 7 n' f' h'))
set_option maxHeartbeats 4000000 in
set_option maxRecDepth 100000 in
theorem c_X2_addsTo {n : Nat} {f : zf} {e nn t : Int32} {h : zH} (hS : RS 7 n f h) (h0 : h.1 75 0 = e) (h1 : h.1 75 1 = nn) (h2 : h.1 75 2 = t) : K_X2_addsTo [.ref 74, .ref 7] h (zDn n f h (zwS n e nn t = 0) (n + 1) (zins f n (znew e nn t))) := by
  have hk := hS.1
  have hn := hS.2.1
  refine CT.of rfl rfl (Nat.le_of_ble_eq_true rfl) rfl ?_
  refine WG.aload_n (pc' := 1) dX2_addsTo_0 rfl rfl ?_
  refine WG.aload_n (pc' := 2) dX2_addsTo_1 rfl rfl ?_
  refine WG.getR (r := 75) f_X2_11 (pc' := 5) dX2_addsTo_2 rfl rfl rfl rfl ?_
  refine WG.iconst (v := 0) (pc' := 6) dX2_addsTo_5 rfl rfl ?_
  refine WG.ialoadN (j := 0) (pc' := 7) dX2_addsTo_6 rfl rfl rfl (by decide) (by first | decide | omega) ?_
  refine WG.aload_n (pc' := 8) dX2_addsTo_7 rfl rfl ?_
  refine WG.getR (r := 75) f_X2_11 (pc' := 11) dX2_addsTo_8 rfl rfl rfl rfl ?_
  refine WG.iconst (v := 1) (pc' := 12) dX2_addsTo_11 rfl rfl ?_
  refine WG.ialoadN (j := 1) (pc' := 13) dX2_addsTo_12 rfl rfl rfl (by decide) (by first | decide | omega) ?_
  refine WG.aload_n (pc' := 14) dX2_addsTo_13 rfl rfl ?_
  refine WG.getR (r := 75) f_X2_11 (pc' := 17) dX2_addsTo_14 rfl rfl rfl rfl ?_
  refine WG.iconst (v := 2) (pc' := 18) dX2_addsTo_17 rfl rfl ?_
  refine WG.ialoadN (j := 2) (pc' := 19) dX2_addsTo_18 rfl rfl rfl (by decide) (by first | decide | omega) ?_
  rw [h2, h1, h0]
  refine WG.callVd (c_X4_refusalOfMore hS) m_X2_97 b_X4_refusalOfMore (zSo (by assumption)) rfl rfl (zrk_of rfl) rfl (Nat.le_of_ble_eq_true rfl) dX2_addsTo_19 (pc' := 22) rfl ?_
  refine WG.if_eq (tgt := 27) (pc' := 25) dX2_addsTo_22 rfl (by decide) (fun c_22 => ?_) (fun c_22 => ?_)
  · refine WG.aload_n (pc' := 28) dX2_addsTo_27 rfl rfl ?_
    refine WG.aload_n (pc' := 29) dX2_addsTo_28 rfl rfl ?_
    refine WG.getI f_X2_101 (pc' := 32) dX2_addsTo_29 rfl (zSo (by assumption)) rfl ?_
    refine WG.aload_n (pc' := 33) dX2_addsTo_32 rfl rfl ?_
    refine WG.getR (r := 75) f_X2_11 (pc' := 36) dX2_addsTo_33 rfl rfl rfl rfl ?_
    refine WG.iconst (v := 0) (pc' := 37) dX2_addsTo_36 rfl rfl ?_
    refine WG.ialoadN (j := 0) (pc' := 38) dX2_addsTo_37 rfl rfl rfl (by decide) (by first | decide | omega) ?_
    refine WG.aload_n (pc' := 39) dX2_addsTo_38 rfl rfl ?_
    refine WG.getR (r := 75) f_X2_11 (pc' := 42) dX2_addsTo_39 rfl rfl rfl rfl ?_
    refine WG.iconst (v := 1) (pc' := 43) dX2_addsTo_42 rfl rfl ?_
    refine WG.ialoadN (j := 1) (pc' := 44) dX2_addsTo_43 rfl rfl rfl (by decide) (by first | decide | omega) ?_
    refine WG.aload_n (pc' := 45) dX2_addsTo_44 rfl rfl ?_
    refine WG.getR (r := 75) f_X2_11 (pc' := 48) dX2_addsTo_45 rfl rfl rfl rfl ?_
    refine WG.iconst (v := 2) (pc' := 49) dX2_addsTo_48 rfl rfl ?_
    refine WG.ialoadN (j := 2) (pc' := 50) dX2_addsTo_49 rfl rfl rfl (by decide) (by first | decide | omega) ?_
    rw [h2, h1, h0, hS.2.2.1]
    refine WG.callV (c_X4_open hS (zwS_n hn c_22) (Nat.le_refl _)) m_X2_104 b_X4_open (zSo (by assumption)) rfl rfl (zrk_of rfl) rfl (Nat.le_of_ble_eq_true rfl) dX2_addsTo_50 (pc' := 53) rfl (fun r_ h_ q_ => ?_)
    obtain ⟨rfl, hS2, hF2⟩ := q_
    refine WG.pop (pc' := 54) dX2_addsTo_53 rfl rfl ?_
    refine WG.iconst (v := 1) (pc' := 55) dX2_addsTo_54 rfl rfl ?_
    refine WG.ireturn dX2_addsTo_55 rfl (by first | rfl | decide) ?_
    exact ⟨1, rfl, hF2, Or.inr ⟨rfl, c_22, hS2⟩⟩
  · refine WG.iconst (v := 0) (pc' := 26) dX2_addsTo_25 rfl rfl ?_
    refine WG.ireturn dX2_addsTo_26 rfl (by first | rfl | decide) ?_
    exact ⟨0, rfl, zFr.rf, Or.inl ⟨rfl, c_22, hS⟩⟩
theorem zwA_0 {n : Nat} {a e nn t : Int32} (h : zwA n a e nn t = 0) : zsd n a ∧ zwS n e nn t = 0 := by
  unfold zwA at h
  by_cases z : ¬ a < 0 ∧ a < nI n
  · rw [if_pos z] at h; exact ⟨z, h⟩
  · rw [if_neg z] at h; exact absurd h (by decide)
theorem zwK_0 {n : Nat} {a kd fg : Int32} (h : zwK n a kd fg = 0) : zsd n a ∧ ¬ (kd < 0 ∨ 5 < kd) ∧ ¬ fg < 0 ∧ ¬ 9 < fg := by
  unfold zwK at h
  by_cases z : ¬ a < 0 ∧ a < nI n
  · rw [if_neg (fun y => y z)] at h
    by_cases y : kd < 0 ∨ 5 < kd
    · rw [if_pos y] at h; exact absurd h (by decide)
    · rw [if_neg y] at h
      by_cases w : fg < 0
      · rw [if_pos w] at h; exact absurd h (by decide)
      · rw [if_neg w] at h
        by_cases u : 9 < fg
        · rw [if_pos u] at h; exact absurd h (by decide)
        · exact ⟨z, y, w, u⟩
  · rw [if_pos z] at h; exact absurd h (by decide)
set_option maxHeartbeats 4000000 in
set_option maxRecDepth 100000 in
theorem c_X2_insertsInto {n : Nat} {f : zf} {a e nn t : Int32} {h : zH} (hS : RS 7 n f h) (h0 : h.1 75 0 = a) (h1 : h.1 75 1 = e) (h2 : h.1 75 2 = nn) (h3 : h.1 75 3 = t) : K_X2_insertsInto [.ref 74, .ref 7] h (zDn n f h (zwA n a e nn t = 0) (n + 1) (zins f a.toNatClampNeg (znew e nn t))) := by
  have hk := hS.1
  have hn := hS.2.1
  refine CT.of rfl rfl (Nat.le_of_ble_eq_true rfl) rfl ?_
  refine WG.aload_n (pc' := 1) dX2_insertsInto_0 rfl rfl ?_
  refine WG.aload_n (pc' := 2) dX2_insertsInto_1 rfl rfl ?_
  refine WG.getR (r := 75) f_X2_11 (pc' := 5) dX2_insertsInto_2 rfl rfl rfl rfl ?_
  refine WG.iconst (v := 0) (pc' := 6) dX2_insertsInto_5 rfl rfl ?_
  refine WG.ialoadN (j := 0) (pc' := 7) dX2_insertsInto_6 rfl rfl rfl (by decide) (by first | decide | omega) ?_
  refine WG.aload_n (pc' := 8) dX2_insertsInto_7 rfl rfl ?_
  refine WG.getR (r := 75) f_X2_11 (pc' := 11) dX2_insertsInto_8 rfl rfl rfl rfl ?_
  refine WG.iconst (v := 1) (pc' := 12) dX2_insertsInto_11 rfl rfl ?_
  refine WG.ialoadN (j := 1) (pc' := 13) dX2_insertsInto_12 rfl rfl rfl (by decide) (by first | decide | omega) ?_
  refine WG.aload_n (pc' := 14) dX2_insertsInto_13 rfl rfl ?_
  refine WG.getR (r := 75) f_X2_11 (pc' := 17) dX2_insertsInto_14 rfl rfl rfl rfl ?_
  refine WG.iconst (v := 2) (pc' := 18) dX2_insertsInto_17 rfl rfl ?_
  refine WG.ialoadN (j := 2) (pc' := 19) dX2_insertsInto_18 rfl rfl rfl (by decide) (by first | decide | omega) ?_
  refine WG.aload_n (pc' := 20) dX2_insertsInto_19 rfl rfl ?_
  refine WG.getR (r := 75) f_X2_11 (pc' := 23) dX2_insertsInto_20 rfl rfl rfl rfl ?_
  refine WG.iconst (v := 3) (pc' := 24) dX2_insertsInto_23 rfl rfl ?_
  refine WG.ialoadN (j := 3) (pc' := 25) dX2_insertsInto_24 rfl rfl rfl (by decide) (by first | decide | omega) ?_
  rw [h3, h2, h1, h0]
  refine WG.callVd (c_X4_refusalOfAhead hS) m_X2_108 b_X4_refusalOfAhead (zSo (by assumption)) rfl rfl (zrk_of rfl) rfl (Nat.le_of_ble_eq_true rfl) dX2_insertsInto_25 (pc' := 28) rfl ?_
  refine WG.if_eq (tgt := 33) (pc' := 31) dX2_insertsInto_28 rfl (by decide) (fun c_28 => ?_) (fun c_28 => ?_)
  · obtain ⟨hsd, hw⟩ := zwA_0 c_28
    obtain ⟨j, hj, rfl⟩ := zsd_of (by omega) hsd
    rw [nI_clamp (show j < 2 ^ 31 by omega)]
    refine WG.aload_n (pc' := 34) dX2_insertsInto_33 rfl rfl ?_
    refine WG.aload_n (pc' := 35) dX2_insertsInto_34 rfl rfl ?_
    refine WG.getR (r := 75) f_X2_11 (pc' := 38) dX2_insertsInto_35 rfl rfl rfl rfl ?_
    refine WG.iconst (v := 0) (pc' := 39) dX2_insertsInto_38 rfl rfl ?_
    refine WG.ialoadN (j := 0) (pc' := 40) dX2_insertsInto_39 rfl rfl rfl (by decide) (by first | decide | omega) ?_
    refine WG.aload_n (pc' := 41) dX2_insertsInto_40 rfl rfl ?_
    refine WG.getR (r := 75) f_X2_11 (pc' := 44) dX2_insertsInto_41 rfl rfl rfl rfl ?_
    refine WG.iconst (v := 1) (pc' := 45) dX2_insertsInto_44 rfl rfl ?_
    refine WG.ialoadN (j := 1) (pc' := 46) dX2_insertsInto_45 rfl rfl rfl (by decide) (by first | decide | omega) ?_
    refine WG.aload_n (pc' := 47) dX2_insertsInto_46 rfl rfl ?_
    refine WG.getR (r := 75) f_X2_11 (pc' := 50) dX2_insertsInto_47 rfl rfl rfl rfl ?_
    refine WG.iconst (v := 2) (pc' := 51) dX2_insertsInto_50 rfl rfl ?_
    refine WG.ialoadN (j := 2) (pc' := 52) dX2_insertsInto_51 rfl rfl rfl (by decide) (by first | decide | omega) ?_
    refine WG.aload_n (pc' := 53) dX2_insertsInto_52 rfl rfl ?_
    refine WG.getR (r := 75) f_X2_11 (pc' := 56) dX2_insertsInto_53 rfl rfl rfl rfl ?_
    refine WG.iconst (v := 3) (pc' := 57) dX2_insertsInto_56 rfl rfl ?_
    refine WG.ialoadN (j := 3) (pc' := 58) dX2_insertsInto_57 rfl rfl rfl (by decide) (by first | decide | omega) ?_
    rw [h3, h2, h1, h0]
    refine WG.callV (c_X4_open hS (zwS_n hn hw) (show j ≤ n by omega)) m_X2_104 b_X4_open (zSo (by assumption)) rfl rfl (zrk_of rfl) rfl (Nat.le_of_ble_eq_true rfl) dX2_insertsInto_58 (pc' := 61) rfl (fun r_ h_ q_ => ?_)
    obtain ⟨rfl, hS2, hF2⟩ := q_
    refine WG.pop (pc' := 62) dX2_insertsInto_61 rfl rfl ?_
    refine WG.iconst (v := 1) (pc' := 63) dX2_insertsInto_62 rfl rfl ?_
    refine WG.ireturn dX2_insertsInto_63 rfl (by first | rfl | decide) ?_
    exact ⟨1, rfl, hF2, Or.inr ⟨rfl, c_28, hS2⟩⟩
  · refine WG.iconst (v := 0) (pc' := 32) dX2_insertsInto_31 rfl rfl ?_
    refine WG.ireturn dX2_insertsInto_32 rfl (by first | rfl | decide) ?_
    exact ⟨0, rfl, zFr.rf, Or.inl ⟨rfl, c_28, hS⟩⟩
set_option maxHeartbeats 4000000 in
set_option maxRecDepth 100000 in
theorem c_X2_changesKind {n : Nat} {f : zf} {a kd fg : Int32} {h : zH} (hS : RS 7 n f h) (h0 : h.1 75 0 = a) (h1 : h.1 75 1 = kd) (h2 : h.1 75 2 = fg) : K_X2_changesKind [.ref 74, .ref 7] h (zDn n f h (zwK n a kd fg = 0) n (zkin f a.toNatClampNeg kd fg)) := by
  have hk := hS.1
  have hn := hS.2.1
  refine CT.of rfl rfl (Nat.le_of_ble_eq_true rfl) rfl ?_
  refine WG.aload_n (pc' := 1) dX2_changesKind_0 rfl rfl ?_
  refine WG.aload_n (pc' := 2) dX2_changesKind_1 rfl rfl ?_
  refine WG.getR (r := 75) f_X2_11 (pc' := 5) dX2_changesKind_2 rfl rfl rfl rfl ?_
  refine WG.iconst (v := 0) (pc' := 6) dX2_changesKind_5 rfl rfl ?_
  refine WG.ialoadN (j := 0) (pc' := 7) dX2_changesKind_6 rfl rfl rfl (by decide) (by first | decide | omega) ?_
  refine WG.aload_n (pc' := 8) dX2_changesKind_7 rfl rfl ?_
  refine WG.getR (r := 75) f_X2_11 (pc' := 11) dX2_changesKind_8 rfl rfl rfl rfl ?_
  refine WG.iconst (v := 1) (pc' := 12) dX2_changesKind_11 rfl rfl ?_
  refine WG.ialoadN (j := 1) (pc' := 13) dX2_changesKind_12 rfl rfl rfl (by decide) (by first | decide | omega) ?_
  refine WG.aload_n (pc' := 14) dX2_changesKind_13 rfl rfl ?_
  refine WG.getR (r := 75) f_X2_11 (pc' := 17) dX2_changesKind_14 rfl rfl rfl rfl ?_
  refine WG.iconst (v := 2) (pc' := 18) dX2_changesKind_17 rfl rfl ?_
  refine WG.ialoadN (j := 2) (pc' := 19) dX2_changesKind_18 rfl rfl rfl (by decide) (by first | decide | omega) ?_
  rw [h2, h1, h0]
  refine WG.callVd (c_X4_refusalOfKind hS) m_X2_111 b_X4_refusalOfKind (zSo (by assumption)) rfl rfl (zrk_of rfl) rfl (Nat.le_of_ble_eq_true rfl) dX2_changesKind_19 (pc' := 22) rfl ?_
  refine WG.if_eq (tgt := 27) (pc' := 25) dX2_changesKind_22 rfl (by decide) (fun c_22 => ?_) (fun c_22 => ?_)
  · obtain ⟨hsd, -⟩ := zwK_0 c_22
    obtain ⟨j, hj, rfl⟩ := zsd_of (by omega) hsd
    rw [nI_clamp (show j < 2 ^ 31 by omega)]
    refine WG.aload_n (pc' := 28) dX2_changesKind_27 rfl rfl ?_
    refine WG.aload_n (pc' := 29) dX2_changesKind_28 rfl rfl ?_
    refine WG.getR (r := 75) f_X2_11 (pc' := 32) dX2_changesKind_29 rfl rfl rfl rfl ?_
    refine WG.iconst (v := 0) (pc' := 33) dX2_changesKind_32 rfl rfl ?_
    refine WG.ialoadN (j := 0) (pc' := 34) dX2_changesKind_33 rfl rfl rfl (by decide) (by first | decide | omega) ?_
    refine WG.aload_n (pc' := 35) dX2_changesKind_34 rfl rfl ?_
    refine WG.getR (r := 75) f_X2_11 (pc' := 38) dX2_changesKind_35 rfl rfl rfl rfl ?_
    refine WG.iconst (v := 1) (pc' := 39) dX2_changesKind_38 rfl rfl ?_
    refine WG.ialoadN (j := 1) (pc' := 40) dX2_changesKind_39 rfl rfl rfl (by decide) (by first | decide | omega) ?_
    refine WG.aload_n (pc' := 41) dX2_changesKind_40 rfl rfl ?_
    refine WG.getR (r := 75) f_X2_11 (pc' := 44) dX2_changesKind_41 rfl rfl rfl rfl ?_
    refine WG.iconst (v := 2) (pc' := 45) dX2_changesKind_44 rfl rfl ?_
    refine WG.ialoadN (j := 2) (pc' := 46) dX2_changesKind_45 rfl rfl rfl (by decide) (by first | decide | omega) ?_
    rw [h2, h1, h0]
    refine WG.callV (c_X4_become_ hS hj) m_X2_114 b_X4_become_ (zSo (by assumption)) rfl rfl (zrk_of rfl) rfl (Nat.le_of_ble_eq_true rfl) dX2_changesKind_46 (pc' := 49) rfl (fun r_ h_ q_ => ?_)
    obtain ⟨rfl, hS2, hF2⟩ := q_
    refine WG.pop (pc' := 50) dX2_changesKind_49 rfl rfl ?_
    refine WG.iconst (v := 1) (pc' := 51) dX2_changesKind_50 rfl rfl ?_
    refine WG.ireturn dX2_changesKind_51 rfl (by first | rfl | decide) ?_
    exact ⟨1, rfl, hF2, Or.inr ⟨rfl, c_22, hS2⟩⟩
  · refine WG.iconst (v := 0) (pc' := 26) dX2_changesKind_25 rfl rfl ?_
    refine WG.ireturn dX2_changesKind_26 rfl (by first | rfl | decide) ?_
    exact ⟨0, rfl, zFr.rf, Or.inl ⟨rfl, c_22, hS⟩⟩
set_option maxHeartbeats 4000000 in
set_option maxRecDepth 100000 in
theorem c_X2_takesFrom {n : Nat} {f : zf} {a : Int32} {h : zH} (hS : RS 7 n f h) (h0 : h.1 75 0 = a) : K_X2_takesFrom [.ref 74, .ref 7] h (zDn n f h (zsd n a) (n - 1) (zdel f a.toNatClampNeg)) := by
  have hk := hS.1
  have hn := hS.2.1
  refine CT.of rfl rfl (Nat.le_of_ble_eq_true rfl) rfl ?_
  refine WG.aload_n (pc' := 1) dX2_takesFrom_0 rfl rfl ?_
  refine WG.aload_n (pc' := 2) dX2_takesFrom_1 rfl rfl ?_
  refine WG.getR (r := 75) f_X2_11 (pc' := 5) dX2_takesFrom_2 rfl rfl rfl rfl ?_
  refine WG.iconst (v := 0) (pc' := 6) dX2_takesFrom_5 rfl rfl ?_
  refine WG.ialoadN (j := 0) (pc' := 7) dX2_takesFrom_6 rfl rfl rfl (by decide) (by first | decide | omega) ?_
  rw [h0]
  refine WG.callVd (c_X4_has hS _) m_X2_117 b_X4_has (zSo (by assumption)) rfl rfl (zrk_of rfl) rfl (Nat.le_of_ble_eq_true rfl) dX2_takesFrom_7 (pc' := 10) rfl ?_
  refine WG.if_ne (tgt := 15) (pc' := 13) dX2_takesFrom_10 rfl (by decide) (fun c_10 => ?_) (fun c_10 => ?_)
  · rw [zb_ne] at c_10
    obtain ⟨j, hj, rfl⟩ := zsd_of (by omega) c_10
    rw [nI_clamp (show j < 2 ^ 31 by omega)]
    refine WG.aload_n (pc' := 16) dX2_takesFrom_15 rfl rfl ?_
    refine WG.aload_n (pc' := 17) dX2_takesFrom_16 rfl rfl ?_
    refine WG.getR (r := 75) f_X2_11 (pc' := 20) dX2_takesFrom_17 rfl rfl rfl rfl ?_
    refine WG.iconst (v := 0) (pc' := 21) dX2_takesFrom_20 rfl rfl ?_
    refine WG.ialoadN (j := 0) (pc' := 22) dX2_takesFrom_21 rfl rfl rfl (by decide) (by first | decide | omega) ?_
    rw [h0]
    refine WG.callV (c_X4_close hS hj) m_X2_120 b_X4_close (zSo (by assumption)) rfl rfl (zrk_of rfl) rfl (Nat.le_of_ble_eq_true rfl) dX2_takesFrom_22 (pc' := 25) rfl (fun r_ h_ q_ => ?_)
    obtain ⟨rfl, hS2, hF2⟩ := q_
    refine WG.pop (pc' := 26) dX2_takesFrom_25 rfl rfl ?_
    refine WG.iconst (v := 1) (pc' := 27) dX2_takesFrom_26 rfl rfl ?_
    refine WG.ireturn dX2_takesFrom_27 rfl (by first | rfl | decide) ?_
    exact ⟨1, rfl, hF2, Or.inr ⟨rfl, c_10, hS2⟩⟩
  · rw [zb_eq] at c_10
    refine WG.iconst (v := 0) (pc' := 14) dX2_takesFrom_13 rfl rfl ?_
    refine WG.ireturn dX2_takesFrom_14 rfl (by first | rfl | decide) ?_
    exact ⟨0, rfl, zFr.rf, Or.inl ⟨rfl, c_10, hS⟩⟩
def zDo (c : Int32) (N : Nat → Int32) (n : Nat) (f : zf) (h : zH) : Option Value → zH → Prop := fun r h' => ∃ v : Int32, r = some (.int v) ∧ zFr (zRg 7 6) h h' ∧ ((v = 0 ∧ zdo c N (n, f) = none ∧ RS 7 n f h') ∨ (v = 1 ∧ ∃ S', zdo c N (n, f) = some S' ∧ RS 7 S'.1 S'.2 h'))
set_option maxHeartbeats 4000000 in
set_option maxRecDepth 100000 in
theorem c_X2_comesTo {n fm j : Nat} {f : zf} {b c : Int32} {acc : zac} {h : zH} (hS : RS 7 n f h) (hR : RRd acc fm j b c h) (hf : fm = zfo c) (hf0 : fm ≠ 0) (ha : acc.1 = zdc fm (zlen.getD fm 0)) : K_X2_comesTo [.ref 74, .ref 7] h (zDo c acc.2 n f h) := by
  have hk := hS.1
  have h6 := hR.2.2.2.2.2
  have d4 := zdc4 fm (by rw [hf]; exact zfo_lt c)
  rw [← ha] at d4
  have fin : ∀ {P : Prop} {n' : Nat} {f' : zf}, (P → zdo c acc.2 (n, f) = some (n', f')) → (¬ P → zdo c acc.2 (n, f) = none) → ∀ (v : Int32) (h' : zH), (zFr (zRg 7 6) h h' ∧ ((v = 0 ∧ ¬ P ∧ RS 7 n f h') ∨ (v = 1 ∧ P ∧ RS 7 n' f' h'))) → zDo c acc.2 n f h (some (.int v)) h' := by
    intro P n' f' p1 p2 v h' q
    obtain ⟨q1, ⟨q2, q3, q4⟩ | ⟨q2, q3, q4⟩⟩ := q
    · exact ⟨v, rfl, q1, Or.inl ⟨q2, p2 q3, q4⟩⟩
    · exact ⟨v, rfl, q1, Or.inr ⟨q2, _, p1 q3, q4⟩⟩
  refine CT.of rfl rfl (Nat.le_of_ble_eq_true rfl) rfl ?_
  refine WG.aload_n (pc' := 1) dX2_comesTo_0 rfl rfl ?_
  refine WG.getI f_X2_19 (pc' := 4) dX2_comesTo_1 rfl rfl rfl ?_
  rw [hR.2.1]
  by_cases e_4_100 : c = 100
  · refine WG.lookupE (v := 100) (tgt := 66) e_4_100 dX2_comesTo_4 (by decide) rfl (by decide) ?_
    rw [e_4_100] at hf
    rw [hf, show [0, 3, 4, 3, 1, 0].getD (zfo 100) 0 = 1 from rfl] at d4
    refine WG.aload_n (pc' := 67) dX2_comesTo_66 rfl rfl ?_
    refine WG.aload_n (pc' := 68) dX2_comesTo_67 rfl rfl ?_
    refine WG.callV (c_X2_takesFrom hS (h6 0 (by omega))) m_X2_89 b_X2_takesFrom rfl rfl rfl (zrk_of rfl) rfl (Nat.le_of_ble_eq_true rfl) dX2_comesTo_68 (pc' := 71) rfl (fun r_ h_ q_ => ?_)
    obtain ⟨v, rfl, q_⟩ := q_
    refine WG.ireturn dX2_comesTo_71 rfl (by rcases q_.2 with ⟨rfl, _⟩ | ⟨rfl, _⟩ <;> rfl) ?_
    exact fin (fun z => by unfold zdo; rw [if_neg (by rw [e_4_100]; decide), if_neg (by rw [e_4_100]; decide), if_neg (by rw [e_4_100]; decide), if_pos e_4_100, if_pos z]) (fun z => by unfold zdo; rw [if_neg (by rw [e_4_100]; decide), if_neg (by rw [e_4_100]; decide), if_neg (by rw [e_4_100]; decide), if_pos e_4_100, if_neg z]) v _ q_
  by_cases e_4_105 : c = 105
  · refine WG.lookupE (v := 105) (tgt := 54) e_4_105 dX2_comesTo_4 (by decide) rfl (by decide) ?_
    rw [e_4_105] at hf
    rw [hf, show [0, 3, 4, 3, 1, 0].getD (zfo 105) 0 = 4 from rfl] at d4
    refine WG.aload_n (pc' := 55) dX2_comesTo_54 rfl rfl ?_
    refine WG.aload_n (pc' := 56) dX2_comesTo_55 rfl rfl ?_
    refine WG.callV (c_X2_insertsInto hS (h6 0 (by omega)) (h6 1 (by omega)) (h6 2 (by omega)) (h6 3 (by omega))) m_X2_83 b_X2_insertsInto rfl rfl rfl (zrk_of rfl) rfl (Nat.le_of_ble_eq_true rfl) dX2_comesTo_56 (pc' := 59) rfl (fun r_ h_ q_ => ?_)
    obtain ⟨v, rfl, q_⟩ := q_
    refine WG.ireturn dX2_comesTo_59 rfl (by rcases q_.2 with ⟨rfl, _⟩ | ⟨rfl, _⟩ <;> rfl) ?_
    exact fin (fun z => by unfold zdo; rw [if_neg (by rw [e_4_105]; decide), if_pos e_4_105, if_pos z]) (fun z => by unfold zdo; rw [if_neg (by rw [e_4_105]; decide), if_pos e_4_105, if_neg z]) v _ q_
  by_cases e_4_107 : c = 107
  · refine WG.lookupE (v := 107) (tgt := 60) e_4_107 dX2_comesTo_4 (by decide) rfl (by decide) ?_
    rw [e_4_107] at hf
    rw [hf, show [0, 3, 4, 3, 1, 0].getD (zfo 107) 0 = 3 from rfl] at d4
    refine WG.aload_n (pc' := 61) dX2_comesTo_60 rfl rfl ?_
    refine WG.aload_n (pc' := 62) dX2_comesTo_61 rfl rfl ?_
    refine WG.callV (c_X2_changesKind hS (h6 0 (by omega)) (h6 1 (by omega)) (h6 2 (by omega))) m_X2_86 b_X2_changesKind rfl rfl rfl (zrk_of rfl) rfl (Nat.le_of_ble_eq_true rfl) dX2_comesTo_62 (pc' := 65) rfl (fun r_ h_ q_ => ?_)
    obtain ⟨v, rfl, q_⟩ := q_
    refine WG.ireturn dX2_comesTo_65 rfl (by rcases q_.2 with ⟨rfl, _⟩ | ⟨rfl, _⟩ <;> rfl) ?_
    exact fin (fun z => by unfold zdo; rw [if_neg (by rw [e_4_107]; decide), if_neg (by rw [e_4_107]; decide), if_pos e_4_107, if_pos z]) (fun z => by unfold zdo; rw [if_neg (by rw [e_4_107]; decide), if_neg (by rw [e_4_107]; decide), if_pos e_4_107, if_neg z]) v _ q_
  by_cases e_4_115 : c = 115
  · refine WG.lookupE (v := 115) (tgt := 48) e_4_115 dX2_comesTo_4 (by decide) rfl (by decide) ?_
    rw [e_4_115] at hf
    rw [hf, show [0, 3, 4, 3, 1, 0].getD (zfo 115) 0 = 3 from rfl] at d4
    refine WG.aload_n (pc' := 49) dX2_comesTo_48 rfl rfl ?_
    refine WG.aload_n (pc' := 50) dX2_comesTo_49 rfl rfl ?_
    refine WG.callV (c_X2_addsTo hS (h6 0 (by omega)) (h6 1 (by omega)) (h6 2 (by omega))) m_X2_80 b_X2_addsTo rfl rfl rfl (zrk_of rfl) rfl (Nat.le_of_ble_eq_true rfl) dX2_comesTo_50 (pc' := 53) rfl (fun r_ h_ q_ => ?_)
    obtain ⟨v, rfl, q_⟩ := q_
    refine WG.ireturn dX2_comesTo_53 rfl (by rcases q_.2 with ⟨rfl, _⟩ | ⟨rfl, _⟩ <;> rfl) ?_
    exact fin (fun z => by unfold zdo; rw [if_pos e_4_115, if_pos z]) (fun z => by unfold zdo; rw [if_pos e_4_115, if_neg z]) v _ q_
  refine WG.lookup (tgt := 72) dX2_comesTo_4 (by decide) ((lv_osw e_4_100 (by decide)).trans ((lv_osw e_4_105 (by decide)).trans ((lv_osw e_4_107 (by decide)).trans ((lv_osw e_4_115 (by decide)).trans ((Op.lookupswitch.offset_nil _ _)))))) (by decide) ?_
  refine WG.aload_n (pc' := 73) dX2_comesTo_72 rfl rfl ?_
  refine WG.callV (c_X4_reverse hS) m_X2_92 b_X4_reverse (zSo (by assumption)) rfl rfl (zrk_of rfl) rfl (Nat.le_of_ble_eq_true rfl) dX2_comesTo_73 (pc' := 76) rfl (fun r_ h_ q_ => ?_)
  obtain ⟨rfl, hS2, hF2⟩ := q_
  refine WG.pop (pc' := 77) dX2_comesTo_76 rfl rfl ?_
  refine WG.iconst (v := 1) (pc' := 78) dX2_comesTo_77 rfl rfl ?_
  refine WG.ireturn dX2_comesTo_78 rfl (by first | rfl | decide) ?_
  exact ⟨1, rfl, hF2, Or.inr ⟨rfl, _, by unfold zdo; rw [if_neg e_4_115, if_neg e_4_105, if_neg e_4_107, if_neg e_4_100], hS2⟩⟩
