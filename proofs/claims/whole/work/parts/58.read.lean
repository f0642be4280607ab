/-! the class's reader: a text -/
def zwl (wr : Option Nat) : Int32 := match wr with
  | none => -1
  | some b => nI b
def zFl : Nat → Prop := fun o => zFR o ∨ zRg 7 6 o
def zRe (R : Int32 × (Nat × zf)) (h : zH) : Option Value → zH → Prop := fun r h' => r = some (.int R.1) ∧ (0 < R.1 → RS 7 R.2.1 R.2.2 h') ∧ zFr zFl h h'
theorem zscB_e {T : zac} {fm m p : Nat} {b : Bool} {acc : zac} (hf : fm < 6) (hm : m + 1 ≤ zlen.getD fm 0) (hp : T.1 ≤ p) : zscB T fm b (m + 1) p acc = (false, p, acc) := by
  have l9 := (zlen9 fm hf).1
  have hz := zlt_out hp
  have nd : ¬ ((48 : Int32) ≤ -9 ∧ (-9 : Int32) ≤ 57) := by decide
  have ch := zchr9 fm hf (zlen.getD fm 0 - (m + 1)) (by omega)
  cases b with
  | true =>
    show (if 48 ≤ zlt T p ∧ zlt T p ≤ 57 then zsc T fm m (p + 1) (zap acc (-(zlt T p - 48))) else (false, p, acc)) = _
    rw [hz, if_neg nd]
  | false =>
    rw [zscB_f]
    show (match zit T (zchr fm (zlen.getD fm 0 - (m + 1))) p with
      | (none, q) => (false, q, acc)
      | (some none, q) => zsc T fm m q acc
      | (some (some v), q) => zsc T fm m q (zap acc v)) = _
    unfold zit
    rw [hz]
    by_cases c1 : zchr fm (zlen.getD fm 0 - (m + 1)) = 126
    · rw [if_pos c1, if_neg (by decide), if_neg nd]
    · rw [if_neg c1]
      by_cases c2 : zchr fm (zlen.getD fm 0 - (m + 1)) = 35
      · rw [if_pos c2, if_neg nd]
      · rw [if_neg c2, if_neg (fun z => ch z.symm)]
def RRw (fm j : Nat) (h : zH) : Prop := h.1 74 3 = nI fm ∧ h.1 74 4 = nI j
theorem RRd.w {acc : zac} {fm j : Nat} {b c : Int32} {h : zH} (hR : RRd acc fm j b c h) : RRw fm j h := ⟨hR.2.2.1, hR.2.2.2.1⟩
set_option maxHeartbeats 4000000 in
set_option maxRecDepth 100000 in
theorem c_X2_betweenW {fm j : Nat} {h : zH} (hR : RRw fm j h) (hf : fm < 6) (hj : j < 1000) : K_X2_isBetweenStatements [.ref 74] h (zD (some (.int (zb (zlen.getD fm 0 ≤ j)))) h) := by
  have l9 := (zlen9 fm hf).1
  have e : nI j < nI (zlen.getD fm 0) ↔ j < zlen.getD fm 0 := nI_ltI (by omega) (by omega)
  refine CT.of rfl rfl (Nat.le_of_ble_eq_true rfl) rfl ?_
  refine WG.aload_n (pc' := 1) dX2_isBetweenStatements_0 rfl rfl ?_
  refine WG.getI f_X2_28 (pc' := 4) dX2_isBetweenStatements_1 rfl rfl rfl ?_
  refine WG.aload_n (pc' := 5) dX2_isBetweenStatements_4 rfl rfl ?_
  rw [hR.2]
  refine WG.getT f_X2_24 (pc' := 8) dX2_isBetweenStatements_5 rfl rfl rfl ?_
  rw [hR.1, nI_clamp (show fm < 2 ^ 31 by omega)]
  refine WG.callVs (c_J0_length hf _) m_X2_47 b_J0_length_8abf5 (by first | assumption | omega | decide) rfl rfl (zrk_of rfl) rfl (Nat.le_of_ble_eq_true rfl) dX2_isBetweenStatements_8 (pc' := 11) rfl ?_
  refine WG.icmp_lt (tgt := 18) (pc' := 14) dX2_isBetweenStatements_11 rfl (by decide) (fun c_11 => ?_) (fun c_11 => ?_)
  · have c11 := e.mp c_11
    refine WG.iconst (v := 0) (pc' := 19) dX2_isBetweenStatements_18 rfl rfl ?_
    refine WG.ireturn dX2_isBetweenStatements_19 rfl (by first | rfl | decide) ?_
    exact ⟨by first | (rw [zb_t (by omega)]; done) | (rw [zb_f (by omega)]; done), rfl⟩
  · have c11 := mt e.mpr c_11
    refine WG.iconst (v := 1) (pc' := 15) dX2_isBetweenStatements_14 rfl rfl ?_
    refine WG.goto (tgt := 19) dX2_isBetweenStatements_15 (by decide) ?_
    refine WG.ireturn dX2_isBetweenStatements_19 rfl (by first | rfl | decide) ?_
    exact ⟨by first | (rw [zb_t (by omega)]; done) | (rw [zb_f (by omega)]; done), rfl⟩
set_option maxHeartbeats 4000000 in
set_option maxRecDepth 100000 in
theorem c_X2_takesB {fm j : Nat} {x : Int32} {h : zH} (hR : RRw fm j h) (hf : fm < 6) (hj : j < 1000) (hb : zlen.getD fm 0 ≤ j) : K_X2_takes [.ref 74, .int x] h (fun r h' => r = some (.int (zb (zfo x ≠ 0))) ∧ RRd (0, fun _ => 0) (zfo x) 0 0 x h' ∧ zFr zFR h h') := by
  refine CT.of rfl rfl (Nat.le_of_ble_eq_true rfl) rfl ?_
  refine WG.aload_n (pc' := 1) dX2_takes_0 rfl rfl ?_
  refine WG.callVd (c_X2_betweenW hR hf hj) m_X2_35 b_X2_isBetweenStatements rfl rfl rfl (zrk_of rfl) rfl (Nat.le_of_ble_eq_true rfl) dX2_takes_1 (pc' := 4) rfl ?_
  refine WG.if_eq (tgt := 13) (pc' := 7) dX2_takes_4 rfl (by decide) (fun c_4 => ?_) (fun c_4 => ?_)
  · exact absurd hb (zb_eq.mp c_4)
  · refine WG.aload_n (pc' := 8) dX2_takes_7 rfl rfl ?_
    refine WG.iload_n (pc' := 9) dX2_takes_8 rfl rfl ?_
    refine WG.callV (c_X2_begins h x) m_X2_53 b_X2_begins rfl rfl rfl (zrk_of rfl) rfl (Nat.le_of_ble_eq_true rfl) dX2_takes_9 (pc' := 12) rfl (fun r_ h_ q_ => ?_)
    obtain ⟨rfl, q1, q2⟩ := q_
    refine WG.ireturn dX2_takes_12 rfl (zb_n _) ?_
    exact ⟨rfl, q1, q2⟩
theorem zFl_a {h h1 h2 : zH} (a : zFr zFl h h1) (b : zFr zFR h1 h2) : zFr zFl h h2 := a.tr (b.mo (fun _ q => Or.inl q))
theorem zFl_b {h h1 h2 : zH} (a : zFr zFl h h1) (b : zFr (zRg 7 6) h1 h2) : zFr zFl h h2 := a.tr (b.mo (fun _ q => Or.inr q))
theorem RS.fR {n : Nat} {f : zf} {h h' : zH} (hS : RS 7 n f h) (hf : zFr zFR h h') : RS 7 n f h' := hS.fo hf (fun o q => by rcases q with q | q <;> omega)
set_option maxHeartbeats 8000000 in
set_option maxRecDepth 100000 in
theorem c_X2_read {n : Nat} {f : zf} {T : zac} {h : zH} (hS0 : RS 7 n f h) (hT : T.1 ≤ 120) (hl : ∀ i, i < T.1 → h.1 76 i = T.2 i) : K_X2_read [.ref 74, .ref 76, .int (nI T.1), .ref 7] h (zRe (zrd T (T.1 + 1) 0 0 none (n, f)) h) := by
  generalize hRR : zrd T (T.1 + 1) 0 0 none (n, f) = R
  refine CT.of rfl rfl (Nat.le_of_ble_eq_true rfl) rfl ?_
  have hl1 : ∀ {h1 : zH}, zFr zFl h h1 → ∀ i, i < T.1 → h1.1 76 i = zlt T i := fun q i hi => by
    rw [q.1 76 (by intro z; rcases z with (z | z) | z; exact absurd z (by decide); exact absurd z (by decide); obtain ⟨z1, z2⟩ := z; omega), hl i hi, zlt_in hi]
  have neg : ∀ q, q ≤ 120 → ∀ h1 : zH, zFr zFl h h1 → R.1 = -1000 - nI q → ∀ v : Int32, v = -1000 - nI q → zRe R h (some (.int v)) h1 := fun q hq h1 hF e v hv => ⟨by rw [e, hv], fun z => absurd z (by rw [e]; exact (zneg q (by omega)).1), hF⟩
  have loop : ∀ (q k : Nat), k ≤ T.1 → T.1 - k < q →
      (∀ (h1 : zH) (fm j : Nat) (cnt : Nat) (wr : Option Nat) (S : Nat × zf) (m : Nat) (v5 : Int32), zFr zFl h h1 → RRw fm j h1 → fm < 6 → zlen.getD fm 0 ≤ j → j < 1000 → RS 7 S.1 S.2 h1 → cnt ≤ k → (∀ b', wr = some b' → b' < 256) → (k < T.1 → T.1 < m + k ∧ zrd T m k cnt wr S = R) → (¬ k < T.1 → (cnt = 0 → R.1 = -1000 - nI T.1) ∧ (cnt ≠ 0 → R = (zen cnt wr, S))) → W_X2_read (zRe R h) 23 [some (.ref 74), some (.ref 76), some (.int (nI T.1)), some (.ref 7), some (.int (nI cnt)), some (.int v5), some (.int (zwl wr)), some (.int (nI k))] [] h1) ∧
      (∀ (h1 : zH) (acc : zac) (b : Bool) (c : Int32) (cnt : Nat) (wr : Option Nat) (S : Nat × zf) (m mm p0 : Nat), zFr zFl h h1 → RRd acc (zfo c) (zlen.getD (zfo c) 0 - mm) (bif b then 1 else 0) c h1 → zfo c ≠ 0 → 0 < mm → mm ≤ zlen.getD (zfo c) 0 → (b = true → zchr (zfo c) (zlen.getD (zfo c) 0 - mm) = 126) → acc.1 + zdc (zfo c) mm = zdc (zfo c) (zlen.getD (zfo c) 0) → RS 7 S.1 S.2 h1 → cnt ≤ p0 → p0 < k → (∀ b', wr = some b' → b' < 256) → T.1 < m + p0 + 1 → zaf T (zrd T m) p0 c cnt wr S (zscB T (zfo c) b mm k acc) = R → W_X2_read (zRe R h) 23 [some (.ref 74), some (.ref 76), some (.int (nI T.1)), some (.ref 7), some (.int (nI cnt)), some (.int (nI p0)), some (.int (zwl wr)), some (.int (nI k))] [] h1) := by
    intro q
    induction q with
    | zero => intro k h1 h2; omega
    | succ q ih =>
      intro k hk hq
      have klt : nI T.1 ≤ nI k ↔ T.1 ≤ k := nI_leI (by omega) (by omega)
      by_cases hlt : k < T.1
      · obtain ⟨I1, I2⟩ := ih (k + 1) (by omega) (by omega)
        refine ⟨?_, ?_⟩
        · intro h1 fm j cnt wr S m v5 hF hR hf hb hj hS hcn hwb hgo hend
          obtain ⟨hm, hz⟩ := hgo hlt
          obtain ⟨m0, rfl⟩ : ∃ m0, m = m0 + 1 := ⟨m - 1, by omega⟩
          have hx := hl1 hF k hlt
          have x6 := zfo_lt (zlt T k)
          have l9 := zlen9 (zfo (zlt T k)) x6
          have hz : zaf T (zrd T m0) k (zlt T k) cnt wr S (zst_ T k) = R := hz
          unfold zst_ at hz
          refine WG.iload (pc' := 25) dX2_read_23 rfl rfl ?_
          refine WG.iload_n (pc' := 26) dX2_read_25 rfl rfl ?_
          refine WG.icmp_ge (tgt := 91) (pc' := 29) dX2_read_26 rfl (by decide) (fun c_26 => ?_) (fun c_26 => ?_)
          · exact absurd (klt.mp c_26) (by omega)
          · refine WG.aload_n (pc' := 30) dX2_read_29 rfl rfl ?_
            refine WG.callVd (c_X2_betweenW hR hf hj) m_X2_35 b_X2_isBetweenStatements rfl rfl rfl (zrk_of rfl) rfl (Nat.le_of_ble_eq_true rfl) dX2_read_30 (pc' := 33) rfl ?_
            refine WG.if_eq (tgt := 40) (pc' := 36) dX2_read_33 rfl (by decide) (fun c_33 => ?_) (fun c_33 => ?_)
            · exact absurd hb (zb_eq.mp c_33)
            · refine WG.iload (pc' := 38) dX2_read_36 rfl rfl ?_
              refine WG.istore (L' := [_, _, _, _, _, _, _, _]) (pc' := 40) dX2_read_38 rfl (by decide) rfl ?_
              refine WG.aload_n (pc' := 41) dX2_read_40 rfl rfl ?_
              refine WG.aload_n (pc' := 42) dX2_read_41 rfl rfl ?_
              refine WG.iload (pc' := 44) dX2_read_42 rfl rfl ?_
              refine WG.ialoadN (j := k) (pc' := 45) dX2_read_44 rfl (by first | rfl | assumption) rfl (by omega) (by first | decide | omega) ?_
              rw [hx]
              refine WG.callV (c_X2_takesB hR hf hj hb) m_X2_39 b_X2_takes rfl rfl rfl (zrk_of rfl) rfl (Nat.le_of_ble_eq_true rfl) dX2_read_45 (pc' := 48) rfl (fun r_ h_ q_ => ?_)
              obtain ⟨rfl, hR2, hF2⟩ := q_
              have hF3 := zFl_a hF hF2
              have hS3 := hS.fR hF2
              refine WG.if_ne (tgt := 58) (pc' := 51) dX2_read_48 rfl (by decide) (fun c_48 => ?_) (fun c_48 => ?_)
              · rw [zb_ne] at c_48
                rw [if_neg c_48, ← zscB_f] at hz
                refine WG.aload_n (pc' := 59) dX2_read_58 rfl rfl ?_
                refine WG.callVd (c_X2_between hR2 x6 (by omega)) m_X2_35 b_X2_isBetweenStatements rfl rfl rfl (zrk_of rfl) rfl (Nat.le_of_ble_eq_true rfl) dX2_read_59 (pc' := 62) rfl ?_
                refine WG.if_eq (tgt := 85) (pc' := 65) dX2_read_62 rfl (by decide) (fun c_62 => ?_) (fun c_62 => ?_)
                · refine WG.iinc1 (L' := [_, _, _, _, _, _, _, _]) (pc' := 88) dX2_read_85 rfl rfl (by decide) rfl ?_
                  refine WG.goto (tgt := 23) dX2_read_88 (by decide) ?_
                  have z := I2 h_ (0, fun _ => 0) false (zlt T k) cnt wr S m0 (zlen.getD (zfo (zlt T k)) 0) k hF3 (by rw [Nat.sub_self]; exact hR2) c_48 (by have := mt l9.2.mp c_48; omega) (Nat.le_refl _) (fun w => (by cases w)) (Nat.zero_add _) hS3 hcn (by omega) hwb (by omega) hz
                  rw [nI_succ k] at z
                  exact z
                · exact absurd (zb_nn.mp c_62) (by have := mt l9.2.mp c_48; omega)
              · rw [zb_eq, Classical.not_not] at c_48
                rw [if_pos c_48] at hz
                refine WG.sipush (v := -1000) (pc' := 54) dX2_read_51 rfl rfl ?_
                refine WG.iload (pc' := 56) dX2_read_54 rfl rfl ?_
                refine WG.isub (pc' := 57) dX2_read_56 rfl ?_
                refine WG.ireturn dX2_read_57 rfl (by first | rfl | decide) ?_
                exact neg k (by omega) _ hF3 (by rw [← hz]; rfl) _ rfl
        · intro h1 acc b c cnt wr S m mm p0 hF hR hc0 hmm hml hb hac hS hcn hp0 hwb hm hz
          obtain ⟨m1, rfl⟩ : ∃ m1, mm = m1 + 1 := ⟨mm - 1, by omega⟩
          have hx := hl1 hF k hlt
          have x6 := zfo_lt c
          have l9 := zlen9 (zfo c) x6
          have d4 := zdc4 (zfo c) x6
          have d5 : [0, 3, 4, 3, 1, 0].getD (zfo c) 0 ≤ 4 := by
            rcases (show zfo c = 0 ∨ zfo c = 1 ∨ zfo c = 2 ∨ zfo c = 3 ∨ zfo c = 4 ∨ zfo c = 5 by omega) with z | z | z | z | z | z <;> rw [z] <;> decide
          have J58 : ∀ (h2 : zH) (b' : Bool) (m' : Nat) (acc' : zac), zFr zFl h h2 → RS 7 S.1 S.2 h2 → RRd acc' (zfo c) (zlen.getD (zfo c) 0 - m') (bif b' then 1 else 0) c h2 → m' ≤ m1 + 1 → (b' = true → 0 < m' ∧ zchr (zfo c) (zlen.getD (zfo c) 0 - m') = 126) → acc'.1 + zdc (zfo c) m' = acc.1 + zdc (zfo c) (m1 + 1) → zaf T (zrd T m) p0 c cnt wr S (zscB T (zfo c) b' m' (k + 1) acc') = R → W_X2_read (zRe R h) 58 [some (.ref 74), some (.ref 76), some (.int (nI T.1)), some (.ref 7), some (.int (nI cnt)), some (.int (nI p0)), some (.int (zwl wr)), some (.int (nI k))] [] h2 := by
            intro h2 b' m' acc' hF2 hS2 hR2 hm' hb' hac' hz'
            by_cases z0 : m' = 0
            · subst z0
              have hzc0 : zdc (zfo c) 0 = 0 := rfl
              rw [zscB_0] at hz'
              unfold zaf at hz'
              rw [if_neg (show ¬ (true = false) by decide)] at hz'
              dsimp only at hz'
              have next : ∀ (h3 : zH) (wr' : Option Nat) (S' : Nat × zf), zwr c acc'.2 p0 wr S = (wr', S') → zFr zFl h h3 → RRd acc' (zfo c) (zlen.getD (zfo c) 0 - 0) (bif b' then 1 else 0) c h3 → RS 7 S'.1 S'.2 h3 → (∀ b', wr' = some b' → b' < 256) → W_X2_read (zRe R h) 23 [some (.ref 74), some (.ref 76), some (.int (nI T.1)), some (.ref 7), some (.int (nI cnt + 1)), some (.int (nI p0)), some (.int (zwl wr')), some (.int (nI k + 1))] [] h3 := by
                intro h3 wr' S' ew hF3 hR3 hS3 hwb'
                rw [ew] at hz'
                have z := I1 h3 (zfo c) _ (cnt + 1) wr' S' m (nI p0) hF3 hR3.w x6 (by omega) (by omega) hS3 (by omega) hwb' (fun w => by rw [if_pos w] at hz'; exact ⟨by omega, hz'⟩) (fun w => by rw [if_neg w] at hz'; exact ⟨fun y => by omega, fun _ => hz'.symm⟩)
                rw [nI_succ k, nI_succ cnt] at z
                exact z
              cases hwr : wr with
              | some b0 =>
                subst hwr
                have nb : ¬ (zwl (some b0) : Int32) < 0 := nI_pos (by have := hwb b0 rfl; omega)
                refine WG.aload_n (pc' := 59) dX2_read_58 rfl rfl ?_
                refine WG.callVd (c_X2_between hR2 x6 (by omega)) m_X2_35 b_X2_isBetweenStatements rfl rfl rfl (zrk_of rfl) rfl (Nat.le_of_ble_eq_true rfl) dX2_read_59 (pc' := 62) rfl ?_
                refine WG.if_eq (tgt := 85) (pc' := 65) dX2_read_62 rfl (by decide) (fun c_62 => ?_) (fun c_62 => ?_)
                · exact absurd (show zlen.getD (zfo c) 0 ≤ zlen.getD (zfo c) 0 - 0 by omega) (zb_eq.mp c_62)
                · refine WG.iinc1 (L' := [_, _, _, _, _, _, _, _]) (pc' := 68) dX2_read_65 rfl rfl (by decide) rfl ?_
                  refine WG.iload (pc' := 70) dX2_read_68 rfl rfl ?_
                  refine WG.if_ge (tgt := 85) (pc' := 73) dX2_read_70 rfl (by decide) (fun c_70 => ?_) (fun c_70 => ?_)
                  · refine WG.iinc1 (L' := [_, _, _, _, _, _, _, _]) (pc' := 88) dX2_read_85 rfl rfl (by decide) rfl ?_
                    refine WG.goto (tgt := 23) dX2_read_88 (by decide) ?_
                    exact next _ (some b0) S rfl hF2 hR2 hS2 hwb
                  · exact absurd (by grind) nb
              | none =>
                subst hwr
                refine WG.aload_n (pc' := 59) dX2_read_58 rfl rfl ?_
                refine WG.callVd (c_X2_between hR2 x6 (by omega)) m_X2_35 b_X2_isBetweenStatements rfl rfl rfl (zrk_of rfl) rfl (Nat.le_of_ble_eq_true rfl) dX2_read_59 (pc' := 62) rfl ?_
                refine WG.if_eq (tgt := 85) (pc' := 65) dX2_read_62 rfl (by decide) (fun c_62 => ?_) (fun c_62 => ?_)
                · exact absurd (show zlen.getD (zfo c) 0 ≤ zlen.getD (zfo c) 0 - 0 by omega) (zb_eq.mp c_62)
                · refine WG.iinc1 (L' := [_, _, _, _, _, _, _, _]) (pc' := 68) dX2_read_65 rfl rfl (by decide) rfl ?_
                  refine WG.iload (pc' := 70) dX2_read_68 rfl rfl ?_
                  refine WG.if_ge (tgt := 85) (pc' := 73) dX2_read_70 rfl (by decide) (fun c_70 => ?_) (fun c_70 => ?_)
                  · exact absurd c_70 (by show ¬ (0 : Int32) ≤ -1; decide)
                  · refine WG.aload_n (pc' := 74) dX2_read_73 rfl rfl ?_
                    refine WG.aload_n (pc' := 75) dX2_read_74 rfl rfl ?_
                    refine WG.callV (c_X2_comesTo hS2 hR2 rfl hc0 (by omega)) m_X2_43 b_X2_comesTo rfl rfl rfl (zrk_of rfl) rfl (Nat.le_of_ble_eq_true rfl) dX2_read_75 (pc' := 78) rfl (fun r_ h_ q_ => ?_)
                    obtain ⟨v, rfl, hF4, hv⟩ := q_
                    have hF5 := zFl_b hF2 hF4
                    have hR5 := hR2.fo hF4 (fun z => by obtain ⟨z1, z2⟩ := z; omega) (fun z => by obtain ⟨z1, z2⟩ := z; omega)
                    refine WG.if_ne (tgt := 85) (pc' := 81) dX2_read_78 rfl (by decide) (fun c_78 => ?_) (fun c_78 => ?_)
                    · obtain ⟨S', hd, hS5⟩ : ∃ S', zdo c acc'.2 S = some S' ∧ RS 7 S'.1 S'.2 h_ := by
                        rcases hv with ⟨y, -⟩ | ⟨y, S', w1, w2⟩
                        · exact absurd y c_78
                        · exact ⟨S', w1, w2⟩
                      have fin := next _ none S' (by unfold zwr; dsimp only; rw [hd]) hF5 hR5 hS5 (fun b' w => (by cases w))
                      refine WG.iinc1 (L' := [_, _, _, _, _, _, _, _]) (pc' := 88) dX2_read_85 rfl rfl (by decide) rfl ?_
                      refine WG.goto (tgt := 23) dX2_read_88 (by decide) ?_
                      exact fin
                    · obtain ⟨hd, hS5⟩ : zdo c acc'.2 S = none ∧ RS 7 S.1 S.2 h_ := by
                        rcases hv with ⟨y, w1, w2⟩ | ⟨y, -⟩
                        · exact ⟨w1, w2⟩
                        · rw [y] at c_78; exact absurd c_78 (by decide)
                      have fin := next _ (some p0) S (by unfold zwr; dsimp only; rw [hd]) hF5 hR5 hS5 (fun b' w => by cases w; omega)
                      refine WG.iload (pc' := 83) dX2_read_81 rfl rfl ?_
                      refine WG.istore (L' := [_, _, _, _, _, _, _, _]) (pc' := 85) dX2_read_83 rfl (by decide) rfl ?_
                      refine WG.iinc1 (L' := [_, _, _, _, _, _, _, _]) (pc' := 88) dX2_read_85 rfl rfl (by decide) rfl ?_
                      refine WG.goto (tgt := 23) dX2_read_88 (by decide) ?_
                      exact fin
            · skip
              refine WG.aload_n (pc' := 59) dX2_read_58 rfl rfl ?_
              refine WG.callVd (c_X2_between hR2 x6 (by omega)) m_X2_35 b_X2_isBetweenStatements rfl rfl rfl (zrk_of rfl) rfl (Nat.le_of_ble_eq_true rfl) dX2_read_59 (pc' := 62) rfl ?_
              refine WG.if_eq (tgt := 85) (pc' := 65) dX2_read_62 rfl (by decide) (fun c_62 => ?_) (fun c_62 => ?_)
              · refine WG.iinc1 (L' := [_, _, _, _, _, _, _, _]) (pc' := 88) dX2_read_85 rfl rfl (by decide) rfl ?_
                refine WG.goto (tgt := 23) dX2_read_88 (by decide) ?_
                have z := I2 h2 acc' b' c cnt wr S m m' p0 hF2 hR2 hc0 (by omega) (by omega) (fun w => (hb' w).2) (by omega) hS2 hcn (by omega) hwb hm hz'
                rw [nI_succ k] at z
                exact z
              · exact absurd (zb_nn.mp c_62) (by omega)
          refine WG.iload (pc' := 25) dX2_read_23 rfl rfl ?_
          refine WG.iload_n (pc' := 26) dX2_read_25 rfl rfl ?_
          refine WG.icmp_ge (tgt := 91) (pc' := 29) dX2_read_26 rfl (by decide) (fun c_26 => ?_) (fun c_26 => ?_)
          · exact absurd (klt.mp c_26) (by omega)
          · refine WG.aload_n (pc' := 30) dX2_read_29 rfl rfl ?_
            refine WG.callVd (c_X2_between hR x6 (by omega)) m_X2_35 b_X2_isBetweenStatements rfl rfl rfl (zrk_of rfl) rfl (Nat.le_of_ble_eq_true rfl) dX2_read_30 (pc' := 33) rfl ?_
            refine WG.if_eq (tgt := 40) (pc' := 36) dX2_read_33 rfl (by decide) (fun c_33 => ?_) (fun c_33 => ?_)
            · refine WG.aload_n (pc' := 41) dX2_read_40 rfl rfl ?_
              refine WG.aload_n (pc' := 42) dX2_read_41 rfl rfl ?_
              refine WG.iload (pc' := 44) dX2_read_42 rfl rfl ?_
              refine WG.ialoadN (j := k) (pc' := 45) dX2_read_44 rfl (by first | rfl | assumption) rfl (by omega) (by first | decide | omega) ?_
              rw [hx]
              refine WG.callV (c_X2_takes (T := T) (p := k) hR x6 hml hb (by omega) rfl) m_X2_39 b_X2_takes rfl rfl rfl (zrk_of rfl) rfl (Nat.le_of_ble_eq_true rfl) dX2_read_45 (pc' := 48) rfl (fun r_ h_ q_ => ?_)
              obtain ⟨v, rfl, hF2, hv⟩ := q_
              have hF3 := zFl_a hF hF2
              have hS3 := hS.fR hF2
              refine WG.if_ne (tgt := 58) (pc' := 51) dX2_read_48 rfl (by decide) (fun c_48 => ?_) (fun c_48 => ?_)
              · obtain ⟨b', m', acc', hR2, hm', hb', hac', hzz⟩ : ∃ b' m' acc', RRd acc' (zfo c) (zlen.getD (zfo c) 0 - m') (bif b' then 1 else 0) c h_ ∧ m' ≤ m1 + 1 ∧ (b' = true → 0 < m' ∧ zchr (zfo c) (zlen.getD (zfo c) 0 - m') = 126) ∧ acc'.1 + zdc (zfo c) m' = acc.1 + zdc (zfo c) (m1 + 1) ∧ zscB T (zfo c) b (m1 + 1) k acc = zscB T (zfo c) b' m' (k + 1) acc' := by
                  rcases hv with ⟨y, -⟩ | ⟨y, w⟩
                  · exact absurd y c_48
                  · exact w
                rw [hzz] at hz
                exact J58 h_ b' m' acc' hF3 hS3 hR2 hm' hb' hac' hz
              · obtain ⟨w1, w2⟩ : (zscB T (zfo c) b (m1 + 1) k acc).1 = false ∧ (zscB T (zfo c) b (m1 + 1) k acc).2.1 = k := by
                  rcases hv with ⟨y, w⟩ | ⟨y, -⟩
                  · exact w
                  · rw [y] at c_48; exact absurd c_48 (by decide)
                unfold zaf at hz
                rw [if_pos w1, w2] at hz
                refine WG.sipush (v := -1000) (pc' := 54) dX2_read_51 rfl rfl ?_
                refine WG.iload (pc' := 56) dX2_read_54 rfl rfl ?_
                refine WG.isub (pc' := 57) dX2_read_56 rfl ?_
                refine WG.ireturn dX2_read_57 rfl (by first | rfl | decide) ?_
                exact neg k (by omega) _ hF3 (by rw [← hz]) _ rfl
            · exact absurd (zb_nn.mp c_33) (by omega)
      · obtain rfl : k = T.1 := by omega
        refine ⟨?_, ?_⟩
        · intro h1 fm j cnt wr S m v5 hF hR hf hb hj hS hcn hwb hgo hend
          obtain ⟨e0, e1⟩ := hend hlt
          have c0 : nI cnt = 0 ↔ cnt = 0 := nI_eq (a := cnt) (b := 0) (by omega) (by omega)
          refine WG.iload (pc' := 25) dX2_read_23 rfl rfl ?_
          refine WG.iload_n (pc' := 26) dX2_read_25 rfl rfl ?_
          refine WG.icmp_ge (tgt := 91) (pc' := 29) dX2_read_26 rfl (by decide) (fun c_26 => ?_) (fun c_26 => ?_)
          · refine WG.iload (pc' := 93) dX2_read_91 rfl rfl ?_
            refine WG.if_eq (tgt := 103) (pc' := 96) dX2_read_93 rfl (by decide) (fun c_93 => ?_) (fun c_93 => ?_)
            · have e0 := e0 (c0.mp c_93)
              refine WG.sipush (v := -1000) (pc' := 106) dX2_read_103 rfl rfl ?_
              refine WG.iload_n (pc' := 107) dX2_read_106 rfl rfl ?_
              refine WG.isub (pc' := 108) dX2_read_107 rfl ?_
              refine WG.ireturn dX2_read_108 rfl (by first | rfl | decide) ?_
              exact neg T.1 hT _ hF e0 _ rfl
            · have e1 := e1 (mt c0.mpr c_93)
              refine WG.aload_n (pc' := 97) dX2_read_96 rfl rfl ?_
              refine WG.callVd (c_X2_betweenW hR hf hj) m_X2_35 b_X2_isBetweenStatements rfl rfl rfl (zrk_of rfl) rfl (Nat.le_of_ble_eq_true rfl) dX2_read_97 (pc' := 100) rfl ?_
              refine WG.if_ne (tgt := 109) (pc' := 103) dX2_read_100 rfl (by decide) (fun c_100 => ?_) (fun c_100 => ?_)
              · refine WG.iload (pc' := 111) dX2_read_109 rfl rfl ?_
                refine WG.if_ge (tgt := 119) (pc' := 114) dX2_read_111 rfl (by decide) (fun c_111 => ?_) (fun c_111 => ?_)
                · refine WG.sipush (v := -2000) (pc' := 122) dX2_read_119 rfl rfl ?_
                  refine WG.iload (pc' := 124) dX2_read_122 rfl rfl ?_
                  refine WG.isub (pc' := 125) dX2_read_124 rfl ?_
                  refine WG.ireturn dX2_read_125 rfl (by first | rfl | decide) ?_
                  cases hwr : wr with
                  | none =>
                    subst hwr
                    subst e1
                    first
                      | exact ⟨rfl, fun _ => hS, hF⟩
                      | exact absurd c_111 (by show ¬ (0 : Int32) ≤ -1; decide)
                  | some b0 =>
                    subst hwr
                    subst e1
                    first
                      | exact absurd (nI_pos' (n := b0) (by have := hwb b0 rfl; omega)) c_111
                      | exact ⟨rfl, fun z => absurd z (zneg b0 (hwb b0 rfl)).2.2.1, hF⟩
                · refine WG.iload (pc' := 116) dX2_read_114 rfl rfl ?_
                  refine WG.goto (tgt := 125) dX2_read_116 (by decide) ?_
                  refine WG.ireturn dX2_read_125 rfl (by first | rfl | decide) ?_
                  cases hwr : wr with
                  | none =>
                    subst hwr
                    subst e1
                    first
                      | exact ⟨rfl, fun _ => hS, hF⟩
                      | exact absurd c_111 (by show ¬ (0 : Int32) ≤ -1; decide)
                  | some b0 =>
                    subst hwr
                    subst e1
                    first
                      | exact absurd (nI_pos' (n := b0) (by have := hwb b0 rfl; omega)) c_111
                      | exact ⟨rfl, fun z => absurd z (zneg b0 (hwb b0 rfl)).2.2.1, hF⟩
              · exact absurd hb (zb_eq.mp c_100)
          · exact absurd (klt.mpr (Nat.le_refl _)) c_26
        · intro h1 acc b c cnt wr S m mm p0 hF hR hc0 hmm hml hb hac hS hcn hp0 hwb hm hz
          obtain ⟨m1, rfl⟩ : ∃ m1, mm = m1 + 1 := ⟨mm - 1, by omega⟩
          have x6 := zfo_lt c
          have l9 := zlen9 (zfo c) x6
          rw [zscB_e x6 hml (Nat.le_refl _)] at hz
          unfold zaf at hz
          rw [if_pos rfl] at hz
          refine WG.iload (pc' := 25) dX2_read_23 rfl rfl ?_
          refine WG.iload_n (pc' := 26) dX2_read_25 rfl rfl ?_
          refine WG.icmp_ge (tgt := 91) (pc' := 29) dX2_read_26 rfl (by decide) (fun c_26 => ?_) (fun c_26 => ?_)
          · refine WG.iload (pc' := 93) dX2_read_91 rfl rfl ?_
            refine WG.if_eq (tgt := 103) (pc' := 96) dX2_read_93 rfl (by decide) (fun c_93 => ?_) (fun c_93 => ?_)
            · refine WG.sipush (v := -1000) (pc' := 106) dX2_read_103 rfl rfl ?_
              refine WG.iload_n (pc' := 107) dX2_read_106 rfl rfl ?_
              refine WG.isub (pc' := 108) dX2_read_107 rfl ?_
              refine WG.ireturn dX2_read_108 rfl (by first | rfl | decide) ?_
              exact neg T.1 hT _ hF (by rw [← hz]) _ rfl
            · refine WG.aload_n (pc' := 97) dX2_read_96 rfl rfl ?_
              refine WG.callVd (c_X2_between hR x6 (by omega)) m_X2_35 b_X2_isBetweenStatements rfl rfl rfl (zrk_of rfl) rfl (Nat.le_of_ble_eq_true rfl) dX2_read_97 (pc' := 100) rfl ?_
              refine WG.if_ne (tgt := 109) (pc' := 103) dX2_read_100 rfl (by decide) (fun c_100 => ?_) (fun c_100 => ?_)
              · exact absurd (zb_ne.mp c_100) (by omega)
              · refine WG.sipush (v := -1000) (pc' := 106) dX2_read_103 rfl rfl ?_
                refine WG.iload_n (pc' := 107) dX2_read_106 rfl rfl ?_
                refine WG.isub (pc' := 108) dX2_read_107 rfl ?_
                refine WG.ireturn dX2_read_108 rfl (by first | rfl | decide) ?_
                exact neg T.1 hT _ hF (by rw [← hz]) _ rfl
          · exact absurd (klt.mpr (Nat.le_refl _)) c_26
  have J0 : ∀ h1 : zH, zFr zFR h h1 → h1.1 74 3 = nI 0 → h1.1 74 4 = nI 0 → W_X2_read (zRe R h) 23 [some (.ref 74), some (.ref 76), some (.int (nI T.1)), some (.ref 7), some (.int (nI 0)), some (.int 0), some (.int (zwl none)), some (.int (nI 0))] [] h1 := by
    intro h1 hF h3 h4
    refine (loop (T.1 + 1) 0 (by omega) (by omega)).1 h1 0 0 0 none (n, f) (T.1 + 1) 0 (hF.mo (fun _ q => Or.inl q)) ⟨h3, h4⟩ (by decide) (by decide) (by decide) (hS0.fR hF) (Nat.le_refl _) (fun b' w => (by cases w)) (fun _ => ⟨by omega, hRR⟩) (fun w => ⟨fun _ => ?_, fun y => absurd rfl y⟩)
    have t0 : T.1 = 0 := by omega
    rw [← hRR]
    show (zaf T (zrd T T.1) 0 (zlt T 0) 0 none (n, f) (zst_ T 0)).1 = _
    have e0 : zst_ T 0 = (false, 0, (0, fun _ => 0)) := by unfold zst_; rw [zlt_out (by omega), if_pos (by decide)]
    unfold zaf
    rw [e0, if_pos rfl, t0]
  refine WG.aload_n (pc' := 1) dX2_read_0 rfl rfl ?_
  refine WG.ldcS (i := 0) (pc' := 3) dX2_read_1 rfl rfl (by decide) rfl ?_
  refine WG.putT (x := 0) p_X2_24 (pc' := 6) dX2_read_3 rfl rfl rfl rfl (fun _ => rfl) (fun _ => rfl) ?_
  refine WG.aload_n (pc' := 7) dX2_read_6 rfl rfl ?_
  refine WG.iconst (v := 0) (pc' := 8) dX2_read_7 rfl rfl ?_
  refine WG.putI p_X2_28 (pc' := 11) dX2_read_8 rfl rfl rfl rfl rfl ?_
  refine WG.iconst (v := 0) (pc' := 12) dX2_read_11 rfl rfl ?_
  refine WG.istore (L' := [_, _, _, _, _, _, _, _]) (pc' := 14) dX2_read_12 rfl (by decide) rfl ?_
  refine WG.iconst (v := 0) (pc' := 15) dX2_read_14 rfl rfl ?_
  refine WG.istore (L' := [_, _, _, _, _, _, _, _]) (pc' := 17) dX2_read_15 rfl (by decide) rfl ?_
  refine WG.iconst (v := -1) (pc' := 18) dX2_read_17 rfl rfl ?_
  refine WG.istore (L' := [_, _, _, _, _, _, _, _]) (pc' := 20) dX2_read_18 rfl (by decide) rfl ?_
  refine WG.iconst (v := 0) (pc' := 21) dX2_read_20 rfl rfl ?_
  refine WG.istore (L' := [_, _, _, _, _, _, _, _]) (pc' := 23) dX2_read_21 rfl (by decide) rfl ?_
  exact J0 _ ((zFr.rf.I (Or.inl rfl)).I (Or.inl rfl)) (by simp [zI_1, nI_0]) (by simp [zI_1, nI_0])
