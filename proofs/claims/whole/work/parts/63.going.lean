/-! the reference goes through a text -/
theorem RSt.fo {T : zac} {s : zss} {P : Nat → Prop} {h h' : zH} (hs : RSt T s h) (hf : zFr P h h') (h1 : ¬ P 86) (h2 : ¬ P 91) (h3 : ¬ P 92) : RSt T s h' := by
  obtain ⟨r1, r2, r3, r4, r5⟩ := hs
  exact ⟨by rw [hf.1 86 h1]; exact r1, by rw [hf.1 86 h1]; exact r2, r3.fo hf h1 h2, by rw [hf.1 92 h3]; exact r4, r5⟩
set_option maxHeartbeats 4000000 in
set_option maxRecDepth 100000 in
theorem m_go0 {T : zac} {h : zH} (hT : T.1 ≤ 120) : ∀ (m p cnt : Nat) (N : Nat → Int32) (h1 : zH) (v3 v4 : Option Value), (p < T.1 ∨ p = 0) → T.1 < m + p → cnt ≤ p → RSt T (false, p, N) h1 → zFs h h1 → W_X6_goesThrough (fun r h' => r = some (.int (zr1 T m p cnt)) ∧ zFs h h' ∧ (0 < zr1 T m p cnt → h'.1 86 9 = 0) ∧ RV 86 7 120 91 T h') 7 [some (.ref 86), some (.int 0), some (.int (nI cnt)), v3, v4] [] h1 := by
  intro m
  induction m with
  | zero => intro p cnt N h1 v3 v4 h1 h2; omega
  | succ m ih =>
    intro p cnt N h1 v3 v4 hp hm hc hs hF
    have r1 : h1.1 86 8 = nI p := hs.1
    have hple : p ≤ T.1 := hs.2.2.2.2
    have zp := zst_p hple
    have hneg := zneg (zst_ T p).2.1 (by omega)
    refine WG.aload_n (pc' := 8) dX6_goesThrough_7 rfl rfl ?_
    refine WG.getI f_X6_143 (pc' := 11) dX6_goesThrough_8 rfl rfl rfl ?_
    refine WG.istore_n (L' := [_, _, _, _, _]) (pc' := 12) dX6_goesThrough_11 rfl (by decide) rfl ?_
    refine WG.aload_n (pc' := 13) dX6_goesThrough_12 rfl rfl ?_
    refine WG.callV (c_X6_statement hs) m_X6_167 b_X6_statement rfl rfl rfl (zrk_of rfl) rfl (Nat.le_of_ble_eq_true rfl) dX6_goesThrough_13 (pc' := 16) rfl (fun r_ h_ q_ => ?_)
    obtain ⟨rfl, s, hs2, he, hF2⟩ := q_
    have hF3 := hF.tr hF2
    have q9 := hs2.2.1
    have q8 := hs2.1
    have hV := hs2.2.2.1
    generalize h_ = h2 at *
    refine WG.istore (L' := [_, _, _, _, _]) (pc' := 18) dX6_goesThrough_16 rfl (by decide) rfl ?_
    refine WG.aload_n (pc' := 19) dX6_goesThrough_18 rfl rfl ?_
    refine WG.getI f_X6_146 (pc' := 22) dX6_goesThrough_19 rfl rfl rfl ?_
    refine WG.if_eq (tgt := 34) (pc' := 25) dX6_goesThrough_22 rfl (by decide) (fun c_22 => ?_) (fun c_22 => ?_)
    · have hw : s.1 = false := by
        cases hs1 : s.1 with
        | false => rfl
        | true => rw [q9, hs1] at c_22; exact absurd c_22 (by decide)
      have hz : (zst_ T p).1 = true := by
        cases hz1 : (zst_ T p).1 with
        | true => rfl
        | false => have := (he.1 hz1).1; rw [hw] at this; cases this
      have e0 : ¬ (zst_ T p).1 = false := by rw [hz]; decide
      have e2 := (he.2 hz).2.1
      have e3 := (zp.2 hz).1
      have lt7 : nI s.2.1 < nI T.1 ↔ s.2.1 < T.1 := nI_ltI (by omega) (by omega)
      refine WG.iload_n (pc' := 35) dX6_goesThrough_34 rfl rfl ?_
      refine WG.if_eq (tgt := 53) (pc' := 38) dX6_goesThrough_35 rfl (by decide) (fun c_35 => ?_) (fun c_35 => ?_)
      · refine WG.iinc1 (L' := [_, _, _, _, _]) (pc' := 56) dX6_goesThrough_53 rfl rfl (by decide) rfl ?_
        refine WG.aload_n (pc' := 57) dX6_goesThrough_56 rfl rfl ?_
        refine WG.getI f_X6_143 (pc' := 60) dX6_goesThrough_57 rfl rfl rfl ?_
        refine WG.aload_n (pc' := 61) dX6_goesThrough_60 rfl rfl ?_
        refine WG.getI f_X6_140 (pc' := 64) dX6_goesThrough_61 rfl rfl rfl ?_
        rw [q8, hV.2.1]
        refine WG.icmp_lt (tgt := 7) (pc' := 67) dX6_goesThrough_64 rfl (by decide) (fun c_64 => ?_) (fun c_64 => ?_)
        · have c64 := lt7.mp c_64
          have e4 : zr1 T (m + 1) p cnt = zr1 T m s.2.1 (cnt + 1) := by rw [e2]; exact (if_neg e0).trans (if_pos (by omega))
          have sE : s = (false, s.2.1, s.2.2) := by
            obtain ⟨a, b, d⟩ := s
            have hw : a = false := hw
            rw [hw]
          rw [sE] at hs2
          have z := ih s.2.1 (cnt + 1) s.2.2 h2 (some (.int (nI p))) (some (.int (zlt T p))) (Or.inl c64) (by omega) (by omega) hs2 hF3
          rw [← e4, nI_succ] at z
          rw [r1]
          exact z
        · have c64 := mt lt7.mpr c_64
          have e4 : zr1 T (m + 1) p cnt = nI (cnt + 1) := (if_neg e0).trans (if_neg (by omega))
          refine WG.iload_n (pc' := 68) dX6_goesThrough_67 rfl rfl ?_
          refine WG.ireturn dX6_goesThrough_68 rfl (by first | rfl | decide) ?_
          rw [e4, nI_succ]
          exact ⟨rfl, hF3, fun _ => by rw [q9, hw]; rfl, hV⟩
      · exact absurd rfl c_35
    · have hw : s.1 = true := by
        cases hs1 : s.1 with
        | true => rfl
        | false => rw [q9, hs1] at c_22; exact absurd rfl c_22
      have hz : (zst_ T p).1 = false := by
        cases hz1 : (zst_ T p).1 with
        | false => rfl
        | true => have := (he.2 hz1).1; rw [hw] at this; cases this
      have e1 : zr1 T (m + 1) p cnt = -1000 - nI (zst_ T p).2.1 := if_pos hz
      have e2 := (he.1 hz).2
      refine WG.sipush (v := -1000) (pc' := 28) dX6_goesThrough_25 rfl rfl ?_
      refine WG.aload_n (pc' := 29) dX6_goesThrough_28 rfl rfl ?_
      refine WG.getI f_X6_143 (pc' := 32) dX6_goesThrough_29 rfl rfl rfl ?_
      refine WG.isub (pc' := 33) dX6_goesThrough_32 rfl ?_
      refine WG.ireturn dX6_goesThrough_33 rfl (by first | rfl | decide) ?_
      rw [q8, e2, e1]
      exact ⟨rfl, hF3, fun z => absurd z hneg.1, hV⟩
set_option maxHeartbeats 4000000 in
set_option maxRecDepth 100000 in
theorem c_X6_going0 {T : zac} {h : zH} (hT : RV 86 7 120 91 T h) (h9 : h.1 86 9 = 0) : K_X6_goesThrough [.ref 86, .int 0] h (fun r h' => r = some (.int (zr1 T (T.1 + 1) 0 0)) ∧ zFs h h' ∧ (0 < zr1 T (T.1 + 1) 0 0 → h'.1 86 9 = 0) ∧ RV 86 7 120 91 T h') := by
  refine CT.of rfl rfl (Nat.le_of_ble_eq_true rfl) rfl ?_
  have hs : RSt T (false, 0, h.1 92) (zI h 86 8 (nI 0)) := ⟨by rw [zI_1, if_pos ⟨rfl, rfl⟩], by rw [zI_1, if_neg (by omega)]; exact h9, ⟨hT.1, by rw [zI_1, if_neg (by omega)]; exact hT.2.1, fun i hi => by rw [zI_1, if_neg (by omega)]; exact hT.2.2 i hi⟩, (zI_o (by decide)).1, Nat.zero_le _⟩
  refine WG.aload_n (pc' := 1) dX6_goesThrough_0 rfl rfl ?_
  refine WG.iconst (v := 0) (pc' := 2) dX6_goesThrough_1 rfl rfl ?_
  refine WG.putI p_X6_143 (pc' := 5) dX6_goesThrough_2 rfl rfl rfl rfl rfl ?_
  refine WG.iconst (v := 0) (pc' := 6) dX6_goesThrough_5 rfl rfl ?_
  refine WG.istore_n (L' := [_, _, _, _, _]) (pc' := 7) dX6_goesThrough_6 rfl (by decide) rfl ?_
  exact m_go0 hT.1 (T.1 + 1) 0 0 _ _ _ _ (Or.inr rfl) (by omega) (Nat.le_refl _) hs (zFs.rf.p (Or.inl rfl))
def zFG : Nat → Prop := fun o => o = 86 ∨ o = 92 ∨ o = 88 ∨ o = 90
def zFt (h h' : zH) : Prop := zFr zFG h h' ∧ ∀ i, i ≠ 8 → i ≠ 9 → h'.1 86 i = h.1 86 i
theorem zFt.s {h h1 h2 : zH} (a : zFt h h1) (b : zFs h1 h2) : zFt h h2 := ⟨a.1.tr (b.1.mo (fun o z => by rcases z with z | z; exact Or.inl z; exact Or.inr (Or.inl z))), fun i h8 h9 => (b.2 i h8 h9).trans (a.2 i h8 h9)⟩
theorem zFt.d {h h1 h2 : zH} (a : zFt h h1) (b : zFr zFd h1 h2) : zFt h h2 := ⟨a.1.tr (b.mo (fun o z => by rcases z with z | z; exact Or.inr (Or.inr (Or.inl z)); exact Or.inr (Or.inr (Or.inr z)))), fun i h8 h9 => by rw [b.1 86 (by intro z; rcases z with z | z <;> exact absurd z (by decide))]; exact a.2 i h8 h9⟩
set_option maxHeartbeats 4000000 in
set_option maxRecDepth 100000 in
theorem m_go1 {T : zac} {h : zH} (hT : T.1 ≤ 120) : ∀ (m p cnt : Nat) (S : Nat × zf) (N : Nat → Int32) (h1 : zH) (v3 v4 : Option Value), (p < T.1 ∨ p = 0) → T.1 < m + p → cnt ≤ p → 0 < zr1 T m p cnt → RG 88 0 S.1 S.2 h1 → RSt T (false, p, N) h1 → zFt h h1 → W_X6_goesThrough (fun r h' => r = some (.int (zr2 T m p cnt S).1) ∧ zFt h h' ∧ ((zr2 T m p cnt S).1 < 0 ∨ (0 < (zr2 T m p cnt S).1 ∧ RG 88 0 (zr2 T m p cnt S).2.1 (zr2 T m p cnt S).2.2 h')) ∧ RV 86 7 120 91 T h') 7 [some (.ref 86), some (.int 1), some (.int (nI cnt)), v3, v4] [] h1 := by
  intro m
  induction m with
  | zero => intro p cnt S N h1 v3 v4 h1 h2; omega
  | succ m ih =>
    intro p cnt S N h1 v3 v4 hp hm hc hpos hG hs hF
    have r1 : h1.1 86 8 = nI p := hs.1
    have hple : p ≤ T.1 := hs.2.2.2.2
    have zp := zst_p hple
    have hneg := zneg (zst_ T p).2.1 (by omega)
    have hneg2 := zneg p (by omega)
    have hz : (zst_ T p).1 = true := by
      cases hz1 : (zst_ T p).1 with
      | true => rfl
      | false => rw [show zr1 T (m + 1) p cnt = -1000 - nI (zst_ T p).2.1 from if_pos hz1] at hpos; exact absurd hpos hneg.1
    have e0 : ¬ (zst_ T p).1 = false := by rw [hz]; decide
    have e3 := (zp.2 hz).1
    have eR : zr2 T (m + 1) p cnt S = (match zdo (zlt T p) (zst_ T p).2.2.2 S with
      | none => (-2000 - nI p, S)
      | some S' => if (zst_ T p).2.1 < T.1 then zr2 T m (zst_ T p).2.1 (cnt + 1) S' else (nI (cnt + 1), S')) := rfl
    generalize hR : zr2 T (m + 1) p cnt S = R at eR
    refine WG.aload_n (pc' := 8) dX6_goesThrough_7 rfl rfl ?_
    refine WG.getI f_X6_143 (pc' := 11) dX6_goesThrough_8 rfl rfl rfl ?_
    refine WG.istore_n (L' := [_, _, _, _, _]) (pc' := 12) dX6_goesThrough_11 rfl (by decide) rfl ?_
    refine WG.aload_n (pc' := 13) dX6_goesThrough_12 rfl rfl ?_
    refine WG.callV (c_X6_statement hs) m_X6_167 b_X6_statement rfl rfl rfl (zrk_of rfl) rfl (Nat.le_of_ble_eq_true rfl) dX6_goesThrough_13 (pc' := 16) rfl (fun r_ h_ q_ => ?_)
    obtain ⟨rfl, s, hs2, he, hF2⟩ := q_
    have hF3 := hF.s hF2
    have hG2 := hG.fo hF2.1 (by decide)
    have q9 := hs2.2.1
    obtain ⟨hw, e2, -⟩ := he.2 hz
    generalize h_ = h2 at *
    refine WG.istore (L' := [_, _, _, _, _]) (pc' := 18) dX6_goesThrough_16 rfl (by decide) rfl ?_
    refine WG.aload_n (pc' := 19) dX6_goesThrough_18 rfl rfl ?_
    refine WG.getI f_X6_146 (pc' := 22) dX6_goesThrough_19 rfl rfl rfl ?_
    refine WG.if_eq (tgt := 34) (pc' := 25) dX6_goesThrough_22 rfl (by decide) (fun c_22 => ?_) (fun c_22 => ?_)
    · refine WG.iload_n (pc' := 35) dX6_goesThrough_34 rfl rfl ?_
      refine WG.if_eq (tgt := 53) (pc' := 38) dX6_goesThrough_35 rfl (by decide) (fun c_35 => ?_) (fun c_35 => ?_)
      · exact absurd c_35 (by decide)
      · refine WG.aload_n (pc' := 39) dX6_goesThrough_38 rfl rfl ?_
        refine WG.iload (pc' := 41) dX6_goesThrough_39 rfl rfl ?_
        refine WG.callV (c_X6_isDone hG2 hs2 he hz) m_X6_170 b_X6_isDone rfl rfl rfl (zrk_of rfl) rfl (Nat.le_of_ble_eq_true rfl) dX6_goesThrough_41 (pc' := 44) rfl (fun r_ h_ q_ => ?_)
        obtain ⟨v, rfl, hF4, hv⟩ := q_
        have hF5 := hF3.d hF4
        have hs5 := hs2.fo hF4 (by intro z; rcases z with z | z <;> exact absurd z (by decide)) (by intro z; rcases z with z | z <;> exact absurd z (by decide)) (by intro z; rcases z with z | z <;> exact absurd z (by decide))
        have q8 := hs5.1
        have hV := hs5.2.2.1
        have lt7 : nI s.2.1 < nI T.1 ↔ s.2.1 < T.1 := nI_ltI (by omega) (by omega)
        generalize h_ = h3 at *
        refine WG.if_ne (tgt := 53) (pc' := 47) dX6_goesThrough_44 rfl (by decide) (fun c_44 => ?_) (fun c_44 => ?_)
        · obtain ⟨S', hd, hG5⟩ : ∃ S', zdo (zlt T p) (zst_ T p).2.2.2 S = some S' ∧ RG 88 0 S'.1 S'.2 h3 := by
            rcases hv with ⟨y, -⟩ | ⟨y, S', w1, w2⟩
            · exact absurd y c_44
            · exact ⟨S', w1, w2⟩
          rw [hd] at eR
          dsimp only at eR
          refine WG.iinc1 (L' := [_, _, _, _, _]) (pc' := 56) dX6_goesThrough_53 rfl rfl (by decide) rfl ?_
          refine WG.aload_n (pc' := 57) dX6_goesThrough_56 rfl rfl ?_
          refine WG.getI f_X6_143 (pc' := 60) dX6_goesThrough_57 rfl rfl rfl ?_
          refine WG.aload_n (pc' := 61) dX6_goesThrough_60 rfl rfl ?_
          refine WG.getI f_X6_140 (pc' := 64) dX6_goesThrough_61 rfl rfl rfl ?_
          rw [q8, hV.2.1]
          refine WG.icmp_lt (tgt := 7) (pc' := 67) dX6_goesThrough_64 rfl (by decide) (fun c_64 => ?_) (fun c_64 => ?_)
          · have c64 := lt7.mp c_64
            rw [if_pos (by omega), ← e2] at eR
            have e4 : zr1 T (m + 1) p cnt = zr1 T m s.2.1 (cnt + 1) := by rw [e2]; exact (if_neg e0).trans (if_pos (by omega))
            have sE : s = (false, s.2.1, s.2.2) := by
              obtain ⟨a, b, d⟩ := s
              have hw : a = false := hw
              rw [hw]
            rw [sE] at hs5
            have z := ih s.2.1 (cnt + 1) S' s.2.2 h3 (some (.int (nI p))) (some (.int (zlt T p))) (Or.inl c64) (by omega) (by omega) (by rw [← e4]; exact hpos) hG5 hs5 hF5
            rw [← eR, nI_succ] at z
            rw [r1]
            exact z
          · have c64 := mt lt7.mpr c_64
            rw [if_neg (by omega)] at eR
            refine WG.iload_n (pc' := 68) dX6_goesThrough_67 rfl rfl ?_
            refine WG.ireturn dX6_goesThrough_68 rfl (by first | rfl | decide) ?_
            rw [eR, ← nI_succ]
            exact ⟨rfl, hF5, Or.inr ⟨zpsk (by omega) (by omega), hG5⟩, hV⟩
        · have hd : zdo (zlt T p) (zst_ T p).2.2.2 S = none := by
            rcases hv with ⟨y, w1, w2⟩ | ⟨y, -⟩
            · exact w1
            · rw [y] at c_44; exact absurd c_44 (by decide)
          rw [hd] at eR
          refine WG.sipush (v := -2000) (pc' := 50) dX6_goesThrough_47 rfl rfl ?_
          refine WG.iload_n (pc' := 51) dX6_goesThrough_50 rfl rfl ?_
          refine WG.isub (pc' := 52) dX6_goesThrough_51 rfl ?_
          refine WG.ireturn dX6_goesThrough_52 rfl (by first | rfl | decide) ?_
          rw [r1, eR]
          exact ⟨rfl, hF5, Or.inl hneg2.2.2.2, hV⟩
    · rw [q9, hw] at c_22; exact absurd rfl c_22
set_option maxHeartbeats 4000000 in
set_option maxRecDepth 100000 in
theorem c_X6_going1 {T : zac} {n : Nat} {f : zf} {h : zH} (hT : RV 86 7 120 91 T h) (h9 : h.1 86 9 = 0) (hG : RG 88 0 n f h) (hpos : 0 < zr1 T (T.1 + 1) 0 0) : K_X6_goesThrough [.ref 86, .int 1] h (fun r h' => r = some (.int (zr2 T (T.1 + 1) 0 0 (n, f)).1) ∧ zFt h h' ∧ ((zr2 T (T.1 + 1) 0 0 (n, f)).1 < 0 ∨ (0 < (zr2 T (T.1 + 1) 0 0 (n, f)).1 ∧ RG 88 0 (zr2 T (T.1 + 1) 0 0 (n, f)).2.1 (zr2 T (T.1 + 1) 0 0 (n, f)).2.2 h')) ∧ RV 86 7 120 91 T h') := by
  refine CT.of rfl rfl (Nat.le_of_ble_eq_true rfl) rfl ?_
  have hs : RSt T (false, 0, h.1 92) (zI h 86 8 (nI 0)) := ⟨by rw [zI_1, if_pos ⟨rfl, rfl⟩], by rw [zI_1, if_neg (by omega)]; exact h9, ⟨hT.1, by rw [zI_1, if_neg (by omega)]; exact hT.2.1, fun i hi => by rw [zI_1, if_neg (by omega)]; exact hT.2.2 i hi⟩, (zI_o (by decide)).1, Nat.zero_le _⟩
  have hF : zFt h (zI h 86 8 (nI 0)) := ⟨zFr.rf.I (Or.inl rfl), fun i h8 _ => by rw [zI_1, if_neg (by omega)]⟩
  refine WG.aload_n (pc' := 1) dX6_goesThrough_0 rfl rfl ?_
  refine WG.iconst (v := 0) (pc' := 2) dX6_goesThrough_1 rfl rfl ?_
  refine WG.putI p_X6_143 (pc' := 5) dX6_goesThrough_2 rfl rfl rfl rfl rfl ?_
  refine WG.iconst (v := 0) (pc' := 6) dX6_goesThrough_5 rfl rfl ?_
  refine WG.istore_n (L' := [_, _, _, _, _]) (pc' := 7) dX6_goesThrough_6 rfl (by decide) rfl ?_
  exact m_go1 hT.1 (T.1 + 1) 0 0 (n, f) _ _ _ _ (Or.inr rfl) (by omega) (Nat.le_refl _) hpos (hG.fo ((zFr.rf (P := fun o => o = 86)).I rfl) (by decide)) hs hF
theorem RM.asm {σ : zA} {h h' : zH} {c' n' : Nat} {pl' : Nat → Nat × zf} {f' : zf} (hX : RM σ h) (hF : zFr (fun o => o = 86 ∨ o = 92 ∨ o = 88 ∨ o = 90 ∨ o = 93 ∨ o = 89) h h') (h86 : ∀ i, i = 7 ∨ i = 16 ∨ i = 22 → h'.1 86 i = h.1 86 i) (hG : RG 88 0 n' f' h') (hP : RPm c' pl' h') : RM ((n', f'), (c', pl'), σ.2.2) h' := by
  obtain ⟨a, -, c, d, e, g, k⟩ := hX
  refine ⟨hG, hP, ?_, ⟨d.1, by rw [h86 7 (by decide)]; exact d.2.1, by rw [hF.1 91 (by decide)]; exact d.2.2⟩, ⟨e.1, by rw [h86 16 (by decide)]; exact e.2.1, by rw [hF.1 96 (by decide)]; exact e.2.2⟩, fun l hl => (g l hl).fo hF (by decide) (by decide) (by decide), by rw [hF.1 87 (by decide)]; exact k⟩
  revert c
  show RKm σ.2.2.1 h → RKm σ.2.2.1 h'
  generalize σ.2.2.1 = K
  intro c
  match K, c with
  | none, c => show h'.1 86 22 = 0; rw [h86 22 (by decide)]; exact c
  | some (n, f), c => exact ⟨by rw [h86 22 (by decide)]; exact c.1, c.2.fo hF (by decide)⟩
set_option maxHeartbeats 4000000 in
set_option maxRecDepth 100000 in
theorem m_tells {σ : zA} {h : zH} (hX : RM σ h) : K_X6_tells [.ref 86] h (zPi RM zB2 h σ 0 (zRt σ).1 (zsT σ)) := by
  have hT := hX.2.2.2.1
  have hG := hX.1
  have hP := hX.2.1
  have e := zrd_eq hT.1 (σ.2.2.2.1.1 + 1) 0 0 (Nat.zero_le _) (by omega) (by have := hT.1; omega)
  -- the end: letters are no more
  have fin : ∀ (h3 : zH) (v : Int32) (σ3 : zA), v = (zRt σ).1 → RM σ3 h3 → zFr zB2 h h3 → zsT σ = zsTO σ3 (0, σ.2.2.2.1.2) σ3.2.2.2.2.1 → W_X6_tells (zPi RM zB2 h σ 0 (zRt σ).1 (zsT σ)) 71 [some (.ref 86), some (.int v)] [] h3 := by
    intro h3 v σ3 hv hX3 hB hS
    have hO := hX3.2.2.2.2.1
    refine WG.aload_n (pc' := 72) dX6_tells_71 rfl rfl ?_
    refine WG.iconst (v := 0) (pc' := 73) dX6_tells_72 rfl rfl ?_
    refine WG.putI p_X6_140 (pc' := 76) dX6_tells_73 rfl rfl rfl rfl rfl ?_
    refine WG.iload_n (pc' := 77) dX6_tells_76 rfl rfl ?_
    refine WG.ireturn dX6_tells_77 rfl (by first | rfl | decide) ?_
    exact zok (by rw [hS]; exact hX3.rows ((zFr.rf (P := fun o => o = 86 ∨ o = 91 ∨ o = 96)).I (Or.inl rfl)) (by rw [zI_1, if_neg (by omega)]) (by rw [zI_1, if_neg (by omega)]) (⟨Nat.zero_le _, by rw [zI_1, if_pos ⟨rfl, rfl⟩]; rfl, fun i hi => absurd hi (Nat.not_lt_zero _)⟩) (⟨hO.1, by rw [zI_1, if_neg (by omega)]; exact hO.2.1, fun i hi => by rw [zI_1, if_neg (by omega)]; exact hO.2.2 i hi⟩)) (hB.I (by show 86 ≤ 86; decide)) rfl hv
  have J5 : ∀ (h0 : zH) (v1 : Option Value), h0.1 86 9 = 0 → RV 86 7 120 91 σ.2.2.2.1 h0 → zFs h h0 → W_X6_tells (zPi RM zB2 h σ 0 (zRt σ).1 (zsT σ)) 5 [some (.ref 86), v1] [] h0 := by
    intro h0 v1 h9 hT0 hF0
    refine WG.aload_n (pc' := 6) dX6_tells_5 rfl rfl ?_
    refine WG.iconst (v := 0) (pc' := 7) dX6_tells_6 rfl rfl ?_
    refine WG.callV (c_X6_going0 hT0 h9) m_X6_173 b_X6_goesThrough rfl rfl rfl (zrk_of rfl) rfl (Nat.le_of_ble_eq_true rfl) dX6_tells_7 (pc' := 10) rfl (fun r_ h_ q_ => ?_)
    obtain ⟨rfl, hF1, hw9, hV1⟩ := q_
    have hFa := hF0.tr hF1
    generalize h_ = h1 at *
    have hG1 := hG.fo hFa.1 (by decide)
    have hP1 : RPm σ.2.1.1 σ.2.1.2 h1 := ⟨hP.1, by rw [hFa.2 4 (by decide) (by decide)]; exact hP.2.1, fun i hi => (hP.2.2 i hi).fo hFa.1 (by decide)⟩
    refine WG.istore_n (L' := [_, _]) (pc' := 11) dX6_tells_10 rfl (by decide) rfl ?_
    refine WG.iload_n (pc' := 12) dX6_tells_11 rfl rfl ?_
    refine WG.if_le (tgt := 71) (pc' := 15) dX6_tells_12 rfl (by decide) (fun c_12 => ?_) (fun c_12 => ?_)
    · have np : ¬ 0 < zr1 σ.2.2.2.1 (σ.2.2.2.1.1 + 1) 0 0 := by grind
      have e1 : (zRt σ).1 = zr1 σ.2.2.2.1 (σ.2.2.2.1.1 + 1) 0 0 := (e.2 np).2 none σ.1
      have z71 := fin h1 _ σ e1.symm (hX.asm (hFa.1.mo (fun o z => by rcases z with z | z; exact Or.inl z; exact Or.inr (Or.inl z))) (fun i hi => hFa.2 i (by omega) (by omega)) hG1 hP1) (hFa.1.mo (fun o z => by show 86 ≤ o; omega)) (by unfold zsT; rw [if_neg (by rw [e1]; exact np)])
      exact z71
    · have hpos : 0 < zr1 σ.2.2.2.1 (σ.2.2.2.1.1 + 1) 0 0 := by grind
      have eR : zRt σ = zr2 σ.2.2.2.1 (σ.2.2.2.1.1 + 1) 0 0 (σ.1.1, σ.1.2) := ((e.1 hpos σ.1).1 : _)
      have h91 := hw9 hpos
      refine WG.aload_n (pc' := 16) dX6_tells_15 rfl rfl ?_
      refine WG.getR (r := 88) f_X6_23 (pc' := 19) dX6_tells_16 rfl rfl rfl rfl ?_
      refine WG.iconst (v := 0) (pc' := 20) dX6_tells_19 rfl rfl ?_
      refine WG.aload_n (pc' := 21) dX6_tells_20 rfl rfl ?_
      refine WG.getR (r := 93) f_X6_38 (pc' := 24) dX6_tells_21 rfl rfl rfl rfl ?_
      refine WG.iconst (v := 0) (pc' := 25) dX6_tells_24 rfl rfl ?_
      refine WG.callS (c_X6_copies (b1 := 0) (b2 := 0) (o1 := 88) (o2 := 93) rfl rfl (by decide) (by decide) (by decide) (by decide) (by decide)) m_X6_99 b_X6_copies rfl (zrk_of rfl) rfl (Nat.le_of_ble_eq_true rfl) dX6_tells_25 (pc' := 28) rfl (fun r_ h_ q_ => ?_)
      obtain ⟨rfl, qc, hFc⟩ := q_
      have hB2 := hG1.cp qc
      have hG2 := hG1.fo hFc (by decide)
      have hP2 := hP1.fo hFc (by decide) (by decide)
      have hV2 := hV1.fo hFc (by decide) (by decide)
      have h92 : h_.1 86 9 = 0 := by rw [hFc.1 86 (by decide)]; exact h91
      have hFb : zFr (fun o => o = 86 ∨ o = 92 ∨ o = 88 ∨ o = 90 ∨ o = 93 ∨ o = 89) h h_ := (hFa.1.mo (fun o z => by rcases z with z | z; exact Or.inl z; exact Or.inr (Or.inl z))).tr (hFc.mo (fun o z => Or.inr (Or.inr (Or.inr (Or.inr (Or.inl z))))))
      have h8b : ∀ i, i ≠ 8 → i ≠ 9 → h_.1 86 i = h.1 86 i := fun i a b => by rw [hFc.1 86 (by decide)]; exact hFa.2 i a b
      generalize h_ = h2 at *
      refine WG.aload_n (pc' := 29) dX6_tells_28 rfl rfl ?_
      refine WG.iconst (v := 1) (pc' := 30) dX6_tells_29 rfl rfl ?_
      refine WG.callV (c_X6_going1 hV2 h92 hG2 hpos) m_X6_173 b_X6_goesThrough rfl rfl rfl (zrk_of rfl) rfl (Nat.le_of_ble_eq_true rfl) dX6_tells_30 (pc' := 33) rfl (fun r_ h_ q_ => ?_)
      obtain ⟨rfl, hF3, hres, hV3⟩ := q_
      rw [← eR] at hres
      have hFd : zFr (fun o => o = 86 ∨ o = 92 ∨ o = 88 ∨ o = 90 ∨ o = 93 ∨ o = 89) h h_ := hFb.tr (hF3.1.mo (fun o z => by rcases z with z | z | z | z; exact Or.inl z; exact Or.inr (Or.inl z); exact Or.inr (Or.inr (Or.inl z)); exact Or.inr (Or.inr (Or.inr (Or.inl z)))))
      have h8d : ∀ i, i ≠ 8 → i ≠ 9 → h_.1 86 i = h.1 86 i := fun i a b => (hF3.2 i a b).trans (h8b i a b)
      have hB3 := hB2.fo hF3.1 (by intro z; rcases z with z | z | z | z <;> exact absurd z (by decide))
      have hP3 : RPm σ.2.1.1 σ.2.1.2 h_ := ⟨hP2.1, by rw [hF3.2 4 (by decide) (by decide)]; exact hP2.2.1, fun i hi => (hP2.2.2 i hi).fo hF3.1 (by intro z; rcases z with z | z | z | z <;> exact absurd z (by decide))⟩
      generalize h_ = h3 at *
      refine WG.istore_n (L' := [_, _]) (pc' := 34) dX6_tells_33 rfl (by decide) rfl ?_
      refine WG.iload_n (pc' := 35) dX6_tells_34 rfl rfl ?_
      rw [← eR]
      refine WG.if_ge (tgt := 54) (pc' := 38) dX6_tells_35 rfl (by decide) (fun c_35 => ?_) (fun c_35 => ?_)
      · obtain ⟨pos, hG3⟩ : 0 < (zRt σ).1 ∧ RG 88 0 (zRt σ).2.1 (zRt σ).2.2 h3 := by
          rcases hres with w | w
          · exact absurd w (by grind)
          · exact w
        refine WG.aload_n (pc' := 55) dX6_tells_54 rfl rfl ?_
        refine WG.getR (r := 93) f_X6_38 (pc' := 58) dX6_tells_55 rfl rfl rfl rfl ?_
        refine WG.iconst (v := 0) (pc' := 59) dX6_tells_58 rfl rfl ?_
        refine WG.aload_n (pc' := 60) dX6_tells_59 rfl rfl ?_
        refine WG.getR (r := 90) f_X6_29 (pc' := 63) dX6_tells_60 rfl rfl rfl rfl ?_
        refine WG.iconst (v := 0) (pc' := 64) dX6_tells_63 rfl rfl ?_
        refine WG.callS (c_X6_copies (b1 := 0) (b2 := 0) (o1 := 93) (o2 := 90) rfl rfl (by decide) (by decide) (by decide) (by decide) (by decide)) m_X6_99 b_X6_copies rfl (zrk_of rfl) rfl (Nat.le_of_ble_eq_true rfl) dX6_tells_64 (pc' := 67) rfl (fun r_ h_ q_ => ?_)
        obtain ⟨rfl, qd, hFe⟩ := q_
        have hA4 := hB3.cp qd
        have hG4 := hG3.fo hFe (by decide)
        have hP4 := hP3.fo hFe (by decide) (by decide)
        have hFf := hFd.tr (hFe.mo (fun o z => Or.inr (Or.inr (Or.inr (Or.inl z)))))
        have h8f : ∀ i, i ≠ 8 → i ≠ 9 → h_.1 86 i = h.1 86 i := fun i a b => by rw [hFe.1 86 (by decide)]; exact h8d i a b
        generalize h_ = h4 at *
        refine WG.aload_n (pc' := 68) dX6_tells_67 rfl rfl ?_
        refine WG.callV (c_X6_changed hA4 hP4) m_X6_119 b_X6_changed rfl rfl rfl (zrk_of rfl) rfl (Nat.le_of_ble_eq_true rfl) dX6_tells_68 (pc' := 71) rfl (fun r_ h_ q_ => ?_)
        obtain ⟨rfl, hP5, h86, hF5⟩ := q_
        have hG5 := hG4.fo hF5 (by decide)
        have hFg := hFf.tr (hF5.mo (fun o z => by rcases z with z | z; exact Or.inl z; exact Or.inr (Or.inr (Or.inr (Or.inr (Or.inr z))))))
        have z71 := fin h_ (zRt σ).1 (zch σ (zRt σ).2) rfl (hX.asm hFg (fun i hi => by rw [h86 i (by omega)]; exact h8f i (by omega) (by omega)) hG5 hP5) (hFg.mo (fun o z => by show 86 ≤ o; omega)) (by unfold zsT; rw [if_pos pos]; rfl)
        exact z71
      · have neg : (zRt σ).1 < 0 := by grind
        refine WG.aload_n (pc' := 39) dX6_tells_38 rfl rfl ?_
        refine WG.getR (r := 93) f_X6_38 (pc' := 42) dX6_tells_39 rfl rfl rfl rfl ?_
        refine WG.iconst (v := 0) (pc' := 43) dX6_tells_42 rfl rfl ?_
        refine WG.aload_n (pc' := 44) dX6_tells_43 rfl rfl ?_
        refine WG.getR (r := 88) f_X6_23 (pc' := 47) dX6_tells_44 rfl rfl rfl rfl ?_
        refine WG.iconst (v := 0) (pc' := 48) dX6_tells_47 rfl rfl ?_
        refine WG.callS (c_X6_copies (b1 := 0) (b2 := 0) (o1 := 93) (o2 := 88) rfl rfl (by decide) (by decide) (by decide) (by decide) (by decide)) m_X6_99 b_X6_copies rfl (zrk_of rfl) rfl (Nat.le_of_ble_eq_true rfl) dX6_tells_48 (pc' := 51) rfl (fun r_ h_ q_ => ?_)
        obtain ⟨rfl, qd, hFe⟩ := q_
        have z71 := fin h_ (zRt σ).1 σ rfl (hX.asm (hFd.tr (hFe.mo (fun o z => Or.inr (Or.inr (Or.inl z))))) (fun i hi => by rw [hFe.1 86 (by decide)]; exact h8d i (by omega) (by omega)) (hB3.cp qd) (hP3.fo hFe (by decide) (by decide))) ((hFd.tr (hFe.mo (fun o z => Or.inr (Or.inr (Or.inl z))))).mo (fun o z => by show 86 ≤ o; omega)) (by unfold zsT; rw [if_neg (by grind)])
        refine WG.goto (tgt := 71) dX6_tells_51 (by decide) ?_
        exact z71
  refine CT.of rfl rfl (Nat.le_of_ble_eq_true rfl) rfl ?_
  refine WG.aload_n (pc' := 1) dX6_tells_0 rfl rfl ?_
  refine WG.iconst (v := 0) (pc' := 2) dX6_tells_1 rfl rfl ?_
  refine WG.putI p_X6_146 (pc' := 5) dX6_tells_2 rfl rfl rfl rfl rfl ?_
  exact J5 _ _ (by rw [zI_1, if_pos ⟨rfl, rfl⟩]) ⟨hT.1, by rw [zI_1, if_neg (by omega)]; exact hT.2.1, fun i hi => by rw [zI_1, if_neg (by omega)]; exact hT.2.2 i hi⟩ (zFs.rf.p (Or.inr rfl))
