/-! the reference's reader: a statement -/
/-- the signs of a form, one after the other -/
def yfl (T : zac) (fm off : Nat) : Nat → Nat → zss → zss
  | 0, _, s => s
  | m + 1, cnt, s => if zchr fm (zlen.getD fm 0 - (m + 1)) = 126 ∨ zchr fm (zlen.getD fm 0 - (m + 1)) = 35 then yfl T fm off m (cnt + 1) (zdgs T (zchr fm (zlen.getD fm 0 - (m + 1))) (off + cnt) s) else yfl T fm off m cnt (ztks T (zchr fm (zlen.getD fm 0 - (m + 1))) s)
theorem yfl_w {T : zac} {fm off : Nat} : ∀ (m cnt : Nat) (s : zss), s.1 = true → yfl T fm off m cnt s = s := by
  intro m
  induction m with
  | zero => intro cnt s _; rfl
  | succ m ih =>
    intro cnt s hs
    unfold yfl
    rw [show zdgs T (zchr fm (zlen.getD fm 0 - (m + 1))) (off + cnt) s = s from if_pos hs, show ztks T (zchr fm (zlen.getD fm 0 - (m + 1))) s = s from if_pos hs, ih _ s hs, ih _ s hs]
    exact ite_self _
theorem yfl_e {T : zac} {fm off : Nat} : ∀ (m p : Nat) (acc : zac) (N : Nat → Int32), (∀ i, i < acc.1 → N (off + i) = acc.2 i) → ((zsc T fm m p acc).1 = false → (yfl T fm off m acc.1 (false, p, N)).1 = true ∧ (yfl T fm off m acc.1 (false, p, N)).2.1 = (zsc T fm m p acc).2.1) ∧ ((zsc T fm m p acc).1 = true → (yfl T fm off m acc.1 (false, p, N)).1 = false ∧ (yfl T fm off m acc.1 (false, p, N)).2.1 = (zsc T fm m p acc).2.1 ∧ ∀ i, i < (zsc T fm m p acc).2.2.1 → (yfl T fm off m acc.1 (false, p, N)).2.2 (off + i) = (zsc T fm m p acc).2.2.2 i) := by
  intro m
  induction m with
  | zero => intro p acc N hN; exact ⟨fun q => absurd q (show ¬ true = false by decide), fun _ => ⟨rfl, rfl, hN⟩⟩
  | succ m ih =>
    intro p acc N hN
    have e2 : zsc T fm (m + 1) p acc = (match zit T (zchr fm (zlen.getD fm 0 - (m + 1))) p with
      | (none, q) => (false, q, acc)
      | (some none, q) => zsc T fm m q acc
      | (some (some v), q) => zsc T fm m q (zap acc v)) := rfl
    unfold yfl
    generalize zchr fm (zlen.getD fm 0 - (m + 1)) = a at e2 ⊢
    rw [e2]
    by_cases c : a = 126 ∨ a = 35
    · rw [if_pos c]
      have e1 : zdgs T a (off + acc.1) (false, p, N) = (match zit T a p with
        | (some (some v), q) => (false, q, upd N (off + acc.1) v)
        | (_, q) => (true, q, N)) := if_neg (show ¬ false = true by decide)
      have nn : ∀ q, zit T a p ≠ (some none, q) := by
        intro q w
        unfold zit at w
        rcases c with rfl | rfl
        · rw [if_pos rfl] at w
          split at w
          · split at w <;> cases w
          · split at w <;> cases w
        · rw [if_neg (by decide), if_pos rfl] at w
          split at w <;> cases w
      rw [e1]
      generalize zit T a p = w at nn ⊢
      obtain ⟨o, q⟩ := w
      match o, nn with
      | none, _ =>
        refine ⟨fun _ => ?_, fun z => absurd z (show ¬ false = true by decide)⟩
        dsimp only
        rw [yfl_w m _ _ rfl]
        exact ⟨rfl, rfl⟩
      | some none, nn => exact absurd rfl (nn q)
      | some (some v), _ =>
        have I := ih q (zap acc v) (upd N (off + acc.1) v) (fun i hi => by
          have hi : i < acc.1 + 1 := hi
          show _ = if i = acc.1 then v else acc.2 i
          unfold upd
          by_cases z : i = acc.1
          · rw [if_pos (by omega), if_pos z]
          · rw [if_neg (by omega), if_neg z]; exact hN i (by omega))
        exact I
    · rw [if_neg c]
      have e1 : ztks T a (false, p, N) = if zlt T p = a then (false, p + 1, N) else (true, p, N) := if_neg (show ¬ false = true by decide)
      have e3 : zit T a p = if zlt T p = a then (some none, p + 1) else (none, p) := by
        unfold zit
        rw [if_neg (fun z => c (Or.inl z)), if_neg (fun z => c (Or.inr z))]
      rw [e1, e3]
      by_cases d : zlt T p = a
      · rw [if_pos d, if_pos d]
        exact ih (p + 1) acc N hN
      · rw [if_neg d, if_neg d]
        refine ⟨fun _ => ?_, fun z => absurd z (show ¬ false = true by decide)⟩
        rw [yfl_w m _ _ rfl]
        exact ⟨rfl, rfl⟩
def yof (c : Int32) : Nat := if c = 115 then 1 else 0
/-- behind a statement -/
def yen (T : zac) (p : Nat) (s : zss) : Prop := ((zst_ T p).1 = false → s.1 = true ∧ s.2.1 = (zst_ T p).2.1) ∧ ((zst_ T p).1 = true → s.1 = false ∧ s.2.1 = (zst_ T p).2.1 ∧ ∀ i, i < (zst_ T p).2.2.1 → s.2.2 (yof (zlt T p) + i) = (zst_ T p).2.2.2 i)
theorem yen_of {T : zac} {p : Nat} {N : Nat → Int32} {s : zss} (h0 : zfo (zlt T p) ≠ 0) (hs : s = yfl T (zfo (zlt T p)) (yof (zlt T p)) (zlen.getD (zfo (zlt T p)) 0) 0 (false, p + 1, N)) : yen T p s := by
  subst hs
  unfold yen zst_
  rw [if_neg h0]
  exact yfl_e (zlen.getD (zfo (zlt T p)) 0) (p + 1) (0, fun _ => 0) N (fun i hi => absurd hi (Nat.not_lt_zero _))
section zStmt
variable {T : zac} {p : Nat} {N : Nat → Int32} {h : zH}
def zSm (T : zac) (p : Nat) (h : zH) : Option Value → zH → Prop := fun r h' => r = some (.int (zlt T p)) ∧ ∃ s, RSt T s h' ∧ yen T p s ∧ zFs h h'
set_option maxHeartbeats 4000000 in
set_option maxRecDepth 100000 in
theorem m_stS (hs : RSt T (false, p, N) h) (hc : zlt T p = 115) : W_X6_statement (zSm T p h) 5 [some (.ref 86), some (.int 115)] [] h := by
  have hp : p < T.1 := zlt_ne (by rw [hc]; decide)
  have r1 : h.1 86 8 = nI p := hs.1
  refine WG.iload_n (pc' := 6) dX6_statement_5 rfl rfl ?_
  refine WG.bipush (v := 115) (pc' := 8) dX6_statement_6 rfl rfl ?_
  refine WG.icmp_eq (tgt := 42) (pc' := 11) dX6_statement_8 rfl (by decide) (fun c_8 => ?_) (fun c_8 => ?_)
  · refine WG.aload_n (pc' := 43) dX6_statement_42 rfl rfl ?_
    refine WG.dup (pc' := 44) dX6_statement_43 rfl rfl ?_
    refine WG.getI f_X6_143 (pc' := 47) dX6_statement_44 rfl rfl rfl ?_
    refine WG.iconst (v := 1) (pc' := 48) dX6_statement_47 rfl rfl ?_
    refine WG.iadd (pc' := 49) dX6_statement_48 rfl ?_
    rw [r1, nI_1]
    refine WG.putI p_X6_143 (pc' := 52) dX6_statement_49 rfl rfl rfl rfl rfl ?_
    refine WG.iload_n (pc' := 53) dX6_statement_52 rfl rfl ?_
    refine WG.bipush (v := 105) (pc' := 55) dX6_statement_53 rfl rfl ?_
    refine WG.icmp_eq (tgt := 70) (pc' := 58) dX6_statement_55 rfl (by decide) (fun c_55 => ?_) (fun c_55 => ?_)
    · exact absurd c_55 (by decide)
    · refine WG.iload_n (pc' := 59) dX6_statement_58 rfl rfl ?_
      refine WG.bipush (v := 107) (pc' := 61) dX6_statement_59 rfl rfl ?_
      refine WG.icmp_eq (tgt := 70) (pc' := 64) dX6_statement_61 rfl (by decide) (fun c_61 => ?_) (fun c_61 => ?_)
      · exact absurd c_61 (by decide)
      · refine WG.iload_n (pc' := 65) dX6_statement_64 rfl rfl ?_
        refine WG.bipush (v := 100) (pc' := 67) dX6_statement_65 rfl rfl ?_
        refine WG.icmp_ne (tgt := 76) (pc' := 70) dX6_statement_67 rfl (by decide) (fun c_67 => ?_) (fun c_67 => ?_)
        · refine WG.iload_n (pc' := 77) dX6_statement_76 rfl rfl ?_
          refine WG.bipush (v := 105) (pc' := 79) dX6_statement_77 rfl rfl ?_
          refine WG.icmp_ne (tgt := 88) (pc' := 82) dX6_statement_79 rfl (by decide) (fun c_79 => ?_) (fun c_79 => ?_)
          · refine WG.iload_n (pc' := 89) dX6_statement_88 rfl rfl ?_
            refine WG.bipush (v := 115) (pc' := 91) dX6_statement_89 rfl rfl ?_
            refine WG.icmp_eq (tgt := 100) (pc' := 94) dX6_statement_91 rfl (by decide) (fun c_91 => ?_) (fun c_91 => ?_)
            · refine WG.aload_n (pc' := 101) dX6_statement_100 rfl rfl ?_
              refine WG.callV (c_X6_bearing (hs.P (s' := (false, p + 1, N)) (x := p + 1) rfl rfl rfl (by omega))) m_X6_164 b_X6_bearing rfl rfl rfl (zrk_of rfl) rfl (Nat.le_of_ble_eq_true rfl) dX6_statement_101 (pc' := 104) rfl (fun r_ h_ q_ => ?_)
              obtain ⟨rfl, s1, f1⟩ := q_
              generalize h_ = h1 at *
              refine WG.iload_n (pc' := 105) dX6_statement_104 rfl rfl ?_
              refine WG.bipush (v := 107) (pc' := 107) dX6_statement_105 rfl rfl ?_
              refine WG.icmp_ne (tgt := 134) (pc' := 110) dX6_statement_107 rfl (by decide) (fun c_107 => ?_) (fun c_107 => ?_)
              · refine WG.aload_n (pc' := 135) dX6_statement_134 rfl rfl ?_
                refine WG.bipush (v := 59) (pc' := 137) dX6_statement_135 rfl rfl ?_
                refine WG.callV (c_X6_takes (c := 59) s1 (by decide)) m_X6_161 b_X6_takes rfl rfl rfl (zrk_of rfl) rfl (Nat.le_of_ble_eq_true rfl) dX6_statement_137 (pc' := 140) rfl (fun r_ h_ q_ => ?_)
                obtain ⟨rfl, s2, f2⟩ := q_
                refine WG.iload_n (pc' := 141) dX6_statement_140 rfl rfl ?_
                refine WG.ireturn dX6_statement_141 rfl (by first | rfl | decide) ?_
                exact ⟨by rw [hc], _, s2, yen_of (N := N) (by rw [hc]; decide) (by rw [hc]; rfl), (zFs.rf.p (Or.inl rfl)).tr (f1.tr f2)⟩
              · exact absurd c_107 (by decide)
            · exact absurd c_91 (by decide)
          · exact absurd c_79 (by decide)
        · exact absurd c_67 (by decide)
  · exact absurd c_8 (by decide)
set_option maxHeartbeats 4000000 in
set_option maxRecDepth 100000 in
theorem m_stI (hs : RSt T (false, p, N) h) (hc : zlt T p = 105) : W_X6_statement (zSm T p h) 5 [some (.ref 86), some (.int 105)] [] h := by
  have hp : p < T.1 := zlt_ne (by rw [hc]; decide)
  have r1 : h.1 86 8 = nI p := hs.1
  refine WG.iload_n (pc' := 6) dX6_statement_5 rfl rfl ?_
  refine WG.bipush (v := 115) (pc' := 8) dX6_statement_6 rfl rfl ?_
  refine WG.icmp_eq (tgt := 42) (pc' := 11) dX6_statement_8 rfl (by decide) (fun c_8 => ?_) (fun c_8 => ?_)
  · exact absurd c_8 (by decide)
  · refine WG.iload_n (pc' := 12) dX6_statement_11 rfl rfl ?_
    refine WG.bipush (v := 105) (pc' := 14) dX6_statement_12 rfl rfl ?_
    refine WG.icmp_eq (tgt := 42) (pc' := 17) dX6_statement_14 rfl (by decide) (fun c_14 => ?_) (fun c_14 => ?_)
    · refine WG.aload_n (pc' := 43) dX6_statement_42 rfl rfl ?_
      refine WG.dup (pc' := 44) dX6_statement_43 rfl rfl ?_
      refine WG.getI f_X6_143 (pc' := 47) dX6_statement_44 rfl rfl rfl ?_
      refine WG.iconst (v := 1) (pc' := 48) dX6_statement_47 rfl rfl ?_
      refine WG.iadd (pc' := 49) dX6_statement_48 rfl ?_
      rw [r1, nI_1]
      refine WG.putI p_X6_143 (pc' := 52) dX6_statement_49 rfl rfl rfl rfl rfl ?_
      refine WG.iload_n (pc' := 53) dX6_statement_52 rfl rfl ?_
      refine WG.bipush (v := 105) (pc' := 55) dX6_statement_53 rfl rfl ?_
      refine WG.icmp_eq (tgt := 70) (pc' := 58) dX6_statement_55 rfl (by decide) (fun c_55 => ?_) (fun c_55 => ?_)
      · refine WG.aload_n (pc' := 71) dX6_statement_70 rfl rfl ?_
        refine WG.iconst (v := 0) (pc' := 72) dX6_statement_71 rfl rfl ?_
        refine WG.iconst (v := 0) (pc' := 73) dX6_statement_72 rfl rfl ?_
        refine WG.callV (c_X6_digit (k := 0) (a := 35) (hs.P (s' := (false, p + 1, N)) (x := p + 1) rfl rfl rfl (by omega)) (by decide) (Or.inr ⟨rfl, rfl⟩)) m_X6_157 b_X6_digit rfl rfl rfl (zrk_of rfl) rfl (Nat.le_of_ble_eq_true rfl) dX6_statement_73 (pc' := 76) rfl (fun r_ h_ q_ => ?_)
        obtain ⟨rfl, s0, f0⟩ := q_
        generalize h_ = h0 at *
        refine WG.iload_n (pc' := 77) dX6_statement_76 rfl rfl ?_
        refine WG.bipush (v := 105) (pc' := 79) dX6_statement_77 rfl rfl ?_
        refine WG.icmp_ne (tgt := 88) (pc' := 82) dX6_statement_79 rfl (by decide) (fun c_79 => ?_) (fun c_79 => ?_)
        · exact absurd c_79 (by decide)
        · refine WG.aload_n (pc' := 83) dX6_statement_82 rfl rfl ?_
          refine WG.bipush (v := 58) (pc' := 85) dX6_statement_83 rfl rfl ?_
          refine WG.callV (c_X6_takes (c := 58) s0 (by decide)) m_X6_161 b_X6_takes rfl rfl rfl (zrk_of rfl) rfl (Nat.le_of_ble_eq_true rfl) dX6_statement_85 (pc' := 88) rfl (fun r_ h_ q_ => ?_)
          obtain ⟨rfl, sa, fa⟩ := q_
          generalize h_ = ha at *
          refine WG.iload_n (pc' := 89) dX6_statement_88 rfl rfl ?_
          refine WG.bipush (v := 115) (pc' := 91) dX6_statement_89 rfl rfl ?_
          refine WG.icmp_eq (tgt := 100) (pc' := 94) dX6_statement_91 rfl (by decide) (fun c_91 => ?_) (fun c_91 => ?_)
          · exact absurd c_91 (by decide)
          · refine WG.iload_n (pc' := 95) dX6_statement_94 rfl rfl ?_
            refine WG.bipush (v := 105) (pc' := 97) dX6_statement_95 rfl rfl ?_
            refine WG.icmp_ne (tgt := 104) (pc' := 100) dX6_statement_97 rfl (by decide) (fun c_97 => ?_) (fun c_97 => ?_)
            · exact absurd c_97 (by decide)
            · refine WG.aload_n (pc' := 101) dX6_statement_100 rfl rfl ?_
              refine WG.callV (c_X6_bearing sa) m_X6_164 b_X6_bearing rfl rfl rfl (zrk_of rfl) rfl (Nat.le_of_ble_eq_true rfl) dX6_statement_101 (pc' := 104) rfl (fun r_ h_ q_ => ?_)
              obtain ⟨rfl, s1, f1⟩ := q_
              generalize h_ = h1 at *
              refine WG.iload_n (pc' := 105) dX6_statement_104 rfl rfl ?_
              refine WG.bipush (v := 107) (pc' := 107) dX6_statement_105 rfl rfl ?_
              refine WG.icmp_ne (tgt := 134) (pc' := 110) dX6_statement_107 rfl (by decide) (fun c_107 => ?_) (fun c_107 => ?_)
              · refine WG.aload_n (pc' := 135) dX6_statement_134 rfl rfl ?_
                refine WG.bipush (v := 59) (pc' := 137) dX6_statement_135 rfl rfl ?_
                refine WG.callV (c_X6_takes (c := 59) s1 (by decide)) m_X6_161 b_X6_takes rfl rfl rfl (zrk_of rfl) rfl (Nat.le_of_ble_eq_true rfl) dX6_statement_137 (pc' := 140) rfl (fun r_ h_ q_ => ?_)
                obtain ⟨rfl, s2, f2⟩ := q_
                refine WG.iload_n (pc' := 141) dX6_statement_140 rfl rfl ?_
                refine WG.ireturn dX6_statement_141 rfl (by first | rfl | decide) ?_
                exact ⟨by rw [hc], _, s2, yen_of (N := N) (by rw [hc]; decide) (by rw [hc]; rfl), (zFs.rf.p (Or.inl rfl)).tr (f0.tr (fa.tr (f1.tr f2)))⟩
              · exact absurd c_107 (by decide)
      · exact absurd c_55 (by decide)
    · exact absurd c_14 (by decide)
set_option maxHeartbeats 4000000 in
set_option maxRecDepth 100000 in
theorem m_stK (hs : RSt T (false, p, N) h) (hc : zlt T p = 107) : W_X6_statement (zSm T p h) 5 [some (.ref 86), some (.int 107)] [] h := by
  have hp : p < T.1 := zlt_ne (by rw [hc]; decide)
  have r1 : h.1 86 8 = nI p := hs.1
  refine WG.iload_n (pc' := 6) dX6_statement_5 rfl rfl ?_
  refine WG.bipush (v := 115) (pc' := 8) dX6_statement_6 rfl rfl ?_
  refine WG.icmp_eq (tgt := 42) (pc' := 11) dX6_statement_8 rfl (by decide) (fun c_8 => ?_) (fun c_8 => ?_)
  · exact absurd c_8 (by decide)
  · refine WG.iload_n (pc' := 12) dX6_statement_11 rfl rfl ?_
    refine WG.bipush (v := 105) (pc' := 14) dX6_statement_12 rfl rfl ?_
    refine WG.icmp_eq (tgt := 42) (pc' := 17) dX6_statement_14 rfl (by decide) (fun c_14 => ?_) (fun c_14 => ?_)
    · exact absurd c_14 (by decide)
    · refine WG.iload_n (pc' := 18) dX6_statement_17 rfl rfl ?_
      refine WG.bipush (v := 107) (pc' := 20) dX6_statement_18 rfl rfl ?_
      refine WG.icmp_eq (tgt := 42) (pc' := 23) dX6_statement_20 rfl (by decide) (fun c_20 => ?_) (fun c_20 => ?_)
      · refine WG.aload_n (pc' := 43) dX6_statement_42 rfl rfl ?_
        refine WG.dup (pc' := 44) dX6_statement_43 rfl rfl ?_
        refine WG.getI f_X6_143 (pc' := 47) dX6_statement_44 rfl rfl rfl ?_
        refine WG.iconst (v := 1) (pc' := 48) dX6_statement_47 rfl rfl ?_
        refine WG.iadd (pc' := 49) dX6_statement_48 rfl ?_
        rw [r1, nI_1]
        refine WG.putI p_X6_143 (pc' := 52) dX6_statement_49 rfl rfl rfl rfl rfl ?_
        refine WG.iload_n (pc' := 53) dX6_statement_52 rfl rfl ?_
        refine WG.bipush (v := 105) (pc' := 55) dX6_statement_53 rfl rfl ?_
        refine WG.icmp_eq (tgt := 70) (pc' := 58) dX6_statement_55 rfl (by decide) (fun c_55 => ?_) (fun c_55 => ?_)
        · exact absurd c_55 (by decide)
        · refine WG.iload_n (pc' := 59) dX6_statement_58 rfl rfl ?_
          refine WG.bipush (v := 107) (pc' := 61) dX6_statement_59 rfl rfl ?_
          refine WG.icmp_eq (tgt := 70) (pc' := 64) dX6_statement_61 rfl (by decide) (fun c_61 => ?_) (fun c_61 => ?_)
          · refine WG.aload_n (pc' := 71) dX6_statement_70 rfl rfl ?_
            refine WG.iconst (v := 0) (pc' := 72) dX6_statement_71 rfl rfl ?_
            refine WG.iconst (v := 0) (pc' := 73) dX6_statement_72 rfl rfl ?_
            refine WG.callV (c_X6_digit (k := 0) (a := 35) (hs.P (s' := (false, p + 1, N)) (x := p + 1) rfl rfl rfl (by omega)) (by decide) (Or.inr ⟨rfl, rfl⟩)) m_X6_157 b_X6_digit rfl rfl rfl (zrk_of rfl) rfl (Nat.le_of_ble_eq_true rfl) dX6_statement_73 (pc' := 76) rfl (fun r_ h_ q_ => ?_)
            obtain ⟨rfl, s0, f0⟩ := q_
            generalize h_ = h0 at *
            refine WG.iload_n (pc' := 77) dX6_statement_76 rfl rfl ?_
            refine WG.bipush (v := 105) (pc' := 79) dX6_statement_77 rfl rfl ?_
            refine WG.icmp_ne (tgt := 88) (pc' := 82) dX6_statement_79 rfl (by decide) (fun c_79 => ?_) (fun c_79 => ?_)
            · refine WG.iload_n (pc' := 89) dX6_statement_88 rfl rfl ?_
              refine WG.bipush (v := 115) (pc' := 91) dX6_statement_89 rfl rfl ?_
              refine WG.icmp_eq (tgt := 100) (pc' := 94) dX6_statement_91 rfl (by decide) (fun c_91 => ?_) (fun c_91 => ?_)
              · exact absurd c_91 (by decide)
              · refine WG.iload_n (pc' := 95) dX6_statement_94 rfl rfl ?_
                refine WG.bipush (v := 105) (pc' := 97) dX6_statement_95 rfl rfl ?_
                refine WG.icmp_ne (tgt := 104) (pc' := 100) dX6_statement_97 rfl (by decide) (fun c_97 => ?_) (fun c_97 => ?_)
                · refine WG.iload_n (pc' := 105) dX6_statement_104 rfl rfl ?_
                  refine WG.bipush (v := 107) (pc' := 107) dX6_statement_105 rfl rfl ?_
                  refine WG.icmp_ne (tgt := 134) (pc' := 110) dX6_statement_107 rfl (by decide) (fun c_107 => ?_) (fun c_107 => ?_)
                  · exact absurd c_107 (by decide)
                  · refine WG.aload_n (pc' := 111) dX6_statement_110 rfl rfl ?_
                    refine WG.bipush (v := 61) (pc' := 113) dX6_statement_111 rfl rfl ?_
                    refine WG.callV (c_X6_takes (c := 61) s0 (by decide)) m_X6_161 b_X6_takes rfl rfl rfl (zrk_of rfl) rfl (Nat.le_of_ble_eq_true rfl) dX6_statement_113 (pc' := 116) rfl (fun r_ h_ q_ => ?_)
                    obtain ⟨rfl, sa, fa⟩ := q_
                    generalize h_ = ha at *
                    refine WG.aload_n (pc' := 117) dX6_statement_116 rfl rfl ?_
                    refine WG.iconst (v := 1) (pc' := 118) dX6_statement_117 rfl rfl ?_
                    refine WG.iconst (v := 0) (pc' := 119) dX6_statement_118 rfl rfl ?_
                    refine WG.callV (c_X6_digit (k := 1) (a := 35) sa (by decide) (Or.inr ⟨rfl, rfl⟩)) m_X6_157 b_X6_digit rfl rfl rfl (zrk_of rfl) rfl (Nat.le_of_ble_eq_true rfl) dX6_statement_119 (pc' := 122) rfl (fun r_ h_ q_ => ?_)
                    obtain ⟨rfl, sb, fb⟩ := q_
                    generalize h_ = hb at *
                    refine WG.aload_n (pc' := 123) dX6_statement_122 rfl rfl ?_
                    refine WG.bipush (v := 44) (pc' := 125) dX6_statement_123 rfl rfl ?_
                    refine WG.callV (c_X6_takes (c := 44) sb (by decide)) m_X6_161 b_X6_takes rfl rfl rfl (zrk_of rfl) rfl (Nat.le_of_ble_eq_true rfl) dX6_statement_125 (pc' := 128) rfl (fun r_ h_ q_ => ?_)
                    obtain ⟨rfl, sc, fc⟩ := q_
                    generalize h_ = hcc at *
                    refine WG.aload_n (pc' := 129) dX6_statement_128 rfl rfl ?_
                    refine WG.iconst (v := 2) (pc' := 130) dX6_statement_129 rfl rfl ?_
                    refine WG.iconst (v := 0) (pc' := 131) dX6_statement_130 rfl rfl ?_
                    refine WG.callV (c_X6_digit (k := 2) (a := 35) sc (by decide) (Or.inr ⟨rfl, rfl⟩)) m_X6_157 b_X6_digit rfl rfl rfl (zrk_of rfl) rfl (Nat.le_of_ble_eq_true rfl) dX6_statement_131 (pc' := 134) rfl (fun r_ h_ q_ => ?_)
                    obtain ⟨rfl, s1, f1⟩ := q_
                    generalize h_ = h1 at *
                    refine WG.aload_n (pc' := 135) dX6_statement_134 rfl rfl ?_
                    refine WG.bipush (v := 59) (pc' := 137) dX6_statement_135 rfl rfl ?_
                    refine WG.callV (c_X6_takes (c := 59) s1 (by decide)) m_X6_161 b_X6_takes rfl rfl rfl (zrk_of rfl) rfl (Nat.le_of_ble_eq_true rfl) dX6_statement_137 (pc' := 140) rfl (fun r_ h_ q_ => ?_)
                    obtain ⟨rfl, s2, f2⟩ := q_
                    refine WG.iload_n (pc' := 141) dX6_statement_140 rfl rfl ?_
                    refine WG.ireturn dX6_statement_141 rfl (by first | rfl | decide) ?_
                    exact ⟨by rw [hc], _, s2, yen_of (N := N) (by rw [hc]; decide) (by rw [hc]; rfl), (zFs.rf.p (Or.inl rfl)).tr (f0.tr (fa.tr (fb.tr (fc.tr (f1.tr f2)))))⟩
                · exact absurd c_97 (by decide)
            · exact absurd c_79 (by decide)
          · exact absurd c_61 (by decide)
      · exact absurd c_20 (by decide)
set_option maxHeartbeats 4000000 in
set_option maxRecDepth 100000 in
theorem m_stD (hs : RSt T (false, p, N) h) (hc : zlt T p = 100) : W_X6_statement (zSm T p h) 5 [some (.ref 86), some (.int 100)] [] h := by
  have hp : p < T.1 := zlt_ne (by rw [hc]; decide)
  have r1 : h.1 86 8 = nI p := hs.1
  refine WG.iload_n (pc' := 6) dX6_statement_5 rfl rfl ?_
  refine WG.bipush (v := 115) (pc' := 8) dX6_statement_6 rfl rfl ?_
  refine WG.icmp_eq (tgt := 42) (pc' := 11) dX6_statement_8 rfl (by decide) (fun c_8 => ?_) (fun c_8 => ?_)
  · exact absurd c_8 (by decide)
  · refine WG.iload_n (pc' := 12) dX6_statement_11 rfl rfl ?_
    refine WG.bipush (v := 105) (pc' := 14) dX6_statement_12 rfl rfl ?_
    refine WG.icmp_eq (tgt := 42) (pc' := 17) dX6_statement_14 rfl (by decide) (fun c_14 => ?_) (fun c_14 => ?_)
    · exact absurd c_14 (by decide)
    · refine WG.iload_n (pc' := 18) dX6_statement_17 rfl rfl ?_
      refine WG.bipush (v := 107) (pc' := 20) dX6_statement_18 rfl rfl ?_
      refine WG.icmp_eq (tgt := 42) (pc' := 23) dX6_statement_20 rfl (by decide) (fun c_20 => ?_) (fun c_20 => ?_)
      · exact absurd c_20 (by decide)
      · refine WG.iload_n (pc' := 24) dX6_statement_23 rfl rfl ?_
        refine WG.bipush (v := 100) (pc' := 26) dX6_statement_24 rfl rfl ?_
        refine WG.icmp_eq (tgt := 42) (pc' := 29) dX6_statement_26 rfl (by decide) (fun c_26 => ?_) (fun c_26 => ?_)
        · refine WG.aload_n (pc' := 43) dX6_statement_42 rfl rfl ?_
          refine WG.dup (pc' := 44) dX6_statement_43 rfl rfl ?_
          refine WG.getI f_X6_143 (pc' := 47) dX6_statement_44 rfl rfl rfl ?_
          refine WG.iconst (v := 1) (pc' := 48) dX6_statement_47 rfl rfl ?_
          refine WG.iadd (pc' := 49) dX6_statement_48 rfl ?_
          rw [r1, nI_1]
          refine WG.putI p_X6_143 (pc' := 52) dX6_statement_49 rfl rfl rfl rfl rfl ?_
          refine WG.iload_n (pc' := 53) dX6_statement_52 rfl rfl ?_
          refine WG.bipush (v := 105) (pc' := 55) dX6_statement_53 rfl rfl ?_
          refine WG.icmp_eq (tgt := 70) (pc' := 58) dX6_statement_55 rfl (by decide) (fun c_55 => ?_) (fun c_55 => ?_)
          · exact absurd c_55 (by decide)
          · refine WG.iload_n (pc' := 59) dX6_statement_58 rfl rfl ?_
            refine WG.bipush (v := 107) (pc' := 61) dX6_statement_59 rfl rfl ?_
            refine WG.icmp_eq (tgt := 70) (pc' := 64) dX6_statement_61 rfl (by decide) (fun c_61 => ?_) (fun c_61 => ?_)
            · exact absurd c_61 (by decide)
            · refine WG.iload_n (pc' := 65) dX6_statement_64 rfl rfl ?_
              refine WG.bipush (v := 100) (pc' := 67) dX6_statement_65 rfl rfl ?_
              refine WG.icmp_ne (tgt := 76) (pc' := 70) dX6_statement_67 rfl (by decide) (fun c_67 => ?_) (fun c_67 => ?_)
              · exact absurd c_67 (by decide)
              · refine WG.aload_n (pc' := 71) dX6_statement_70 rfl rfl ?_
                refine WG.iconst (v := 0) (pc' := 72) dX6_statement_71 rfl rfl ?_
                refine WG.iconst (v := 0) (pc' := 73) dX6_statement_72 rfl rfl ?_
                refine WG.callV (c_X6_digit (k := 0) (a := 35) (hs.P (s' := (false, p + 1, N)) (x := p + 1) rfl rfl rfl (by omega)) (by decide) (Or.inr ⟨rfl, rfl⟩)) m_X6_157 b_X6_digit rfl rfl rfl (zrk_of rfl) rfl (Nat.le_of_ble_eq_true rfl) dX6_statement_73 (pc' := 76) rfl (fun r_ h_ q_ => ?_)
                obtain ⟨rfl, s1, f1⟩ := q_
                generalize h_ = h1 at *
                refine WG.iload_n (pc' := 77) dX6_statement_76 rfl rfl ?_
                refine WG.bipush (v := 105) (pc' := 79) dX6_statement_77 rfl rfl ?_
                refine WG.icmp_ne (tgt := 88) (pc' := 82) dX6_statement_79 rfl (by decide) (fun c_79 => ?_) (fun c_79 => ?_)
                · refine WG.iload_n (pc' := 89) dX6_statement_88 rfl rfl ?_
                  refine WG.bipush (v := 115) (pc' := 91) dX6_statement_89 rfl rfl ?_
                  refine WG.icmp_eq (tgt := 100) (pc' := 94) dX6_statement_91 rfl (by decide) (fun c_91 => ?_) (fun c_91 => ?_)
                  · exact absurd c_91 (by decide)
                  · refine WG.iload_n (pc' := 95) dX6_statement_94 rfl rfl ?_
                    refine WG.bipush (v := 105) (pc' := 97) dX6_statement_95 rfl rfl ?_
                    refine WG.icmp_ne (tgt := 104) (pc' := 100) dX6_statement_97 rfl (by decide) (fun c_97 => ?_) (fun c_97 => ?_)
                    · refine WG.iload_n (pc' := 105) dX6_statement_104 rfl rfl ?_
                      refine WG.bipush (v := 107) (pc' := 107) dX6_statement_105 rfl rfl ?_
                      refine WG.icmp_ne (tgt := 134) (pc' := 110) dX6_statement_107 rfl (by decide) (fun c_107 => ?_) (fun c_107 => ?_)
                      · refine WG.aload_n (pc' := 135) dX6_statement_134 rfl rfl ?_
                        refine WG.bipush (v := 59) (pc' := 137) dX6_statement_135 rfl rfl ?_
                        refine WG.callV (c_X6_takes (c := 59) s1 (by decide)) m_X6_161 b_X6_takes rfl rfl rfl (zrk_of rfl) rfl (Nat.le_of_ble_eq_true rfl) dX6_statement_137 (pc' := 140) rfl (fun r_ h_ q_ => ?_)
                        obtain ⟨rfl, s2, f2⟩ := q_
                        refine WG.iload_n (pc' := 141) dX6_statement_140 rfl rfl ?_
                        refine WG.ireturn dX6_statement_141 rfl (by first | rfl | decide) ?_
                        exact ⟨by rw [hc], _, s2, yen_of (N := N) (by rw [hc]; decide) (by rw [hc]; rfl), (zFs.rf.p (Or.inl rfl)).tr (f1.tr f2)⟩
                      · exact absurd c_107 (by decide)
                    · exact absurd c_97 (by decide)
                · exact absurd c_79 (by decide)
        · exact absurd c_26 (by decide)
set_option maxHeartbeats 4000000 in
set_option maxRecDepth 100000 in
theorem m_stR (hs : RSt T (false, p, N) h) (hc : zlt T p = 114) : W_X6_statement (zSm T p h) 5 [some (.ref 86), some (.int 114)] [] h := by
  have hp : p < T.1 := zlt_ne (by rw [hc]; decide)
  have r1 : h.1 86 8 = nI p := hs.1
  refine WG.iload_n (pc' := 6) dX6_statement_5 rfl rfl ?_
  refine WG.bipush (v := 115) (pc' := 8) dX6_statement_6 rfl rfl ?_
  refine WG.icmp_eq (tgt := 42) (pc' := 11) dX6_statement_8 rfl (by decide) (fun c_8 => ?_) (fun c_8 => ?_)
  · exact absurd c_8 (by decide)
  · refine WG.iload_n (pc' := 12) dX6_statement_11 rfl rfl ?_
    refine WG.bipush (v := 105) (pc' := 14) dX6_statement_12 rfl rfl ?_
    refine WG.icmp_eq (tgt := 42) (pc' := 17) dX6_statement_14 rfl (by decide) (fun c_14 => ?_) (fun c_14 => ?_)
    · exact absurd c_14 (by decide)
    · refine WG.iload_n (pc' := 18) dX6_statement_17 rfl rfl ?_
      refine WG.bipush (v := 107) (pc' := 20) dX6_statement_18 rfl rfl ?_
      refine WG.icmp_eq (tgt := 42) (pc' := 23) dX6_statement_20 rfl (by decide) (fun c_20 => ?_) (fun c_20 => ?_)
      · exact absurd c_20 (by decide)
      · refine WG.iload_n (pc' := 24) dX6_statement_23 rfl rfl ?_
        refine WG.bipush (v := 100) (pc' := 26) dX6_statement_24 rfl rfl ?_
        refine WG.icmp_eq (tgt := 42) (pc' := 29) dX6_statement_26 rfl (by decide) (fun c_26 => ?_) (fun c_26 => ?_)
        · exact absurd c_26 (by decide)
        · refine WG.iload_n (pc' := 30) dX6_statement_29 rfl rfl ?_
          refine WG.bipush (v := 114) (pc' := 32) dX6_statement_30 rfl rfl ?_
          refine WG.icmp_eq (tgt := 42) (pc' := 35) dX6_statement_32 rfl (by decide) (fun c_32 => ?_) (fun c_32 => ?_)
          · refine WG.aload_n (pc' := 43) dX6_statement_42 rfl rfl ?_
            refine WG.dup (pc' := 44) dX6_statement_43 rfl rfl ?_
            refine WG.getI f_X6_143 (pc' := 47) dX6_statement_44 rfl rfl rfl ?_
            refine WG.iconst (v := 1) (pc' := 48) dX6_statement_47 rfl rfl ?_
            refine WG.iadd (pc' := 49) dX6_statement_48 rfl ?_
            rw [r1, nI_1]
            refine WG.putI p_X6_143 (pc' := 52) dX6_statement_49 rfl rfl rfl rfl rfl ?_
            refine WG.iload_n (pc' := 53) dX6_statement_52 rfl rfl ?_
            refine WG.bipush (v := 105) (pc' := 55) dX6_statement_53 rfl rfl ?_
            refine WG.icmp_eq (tgt := 70) (pc' := 58) dX6_statement_55 rfl (by decide) (fun c_55 => ?_) (fun c_55 => ?_)
            · exact absurd c_55 (by decide)
            · refine WG.iload_n (pc' := 59) dX6_statement_58 rfl rfl ?_
              refine WG.bipush (v := 107) (pc' := 61) dX6_statement_59 rfl rfl ?_
              refine WG.icmp_eq (tgt := 70) (pc' := 64) dX6_statement_61 rfl (by decide) (fun c_61 => ?_) (fun c_61 => ?_)
              · exact absurd c_61 (by decide)
              · refine WG.iload_n (pc' := 65) dX6_statement_64 rfl rfl ?_
                refine WG.bipush (v := 100) (pc' := 67) dX6_statement_65 rfl rfl ?_
                refine WG.icmp_ne (tgt := 76) (pc' := 70) dX6_statement_67 rfl (by decide) (fun c_67 => ?_) (fun c_67 => ?_)
                · refine WG.iload_n (pc' := 77) dX6_statement_76 rfl rfl ?_
                  refine WG.bipush (v := 105) (pc' := 79) dX6_statement_77 rfl rfl ?_
                  refine WG.icmp_ne (tgt := 88) (pc' := 82) dX6_statement_79 rfl (by decide) (fun c_79 => ?_) (fun c_79 => ?_)
                  · refine WG.iload_n (pc' := 89) dX6_statement_88 rfl rfl ?_
                    refine WG.bipush (v := 115) (pc' := 91) dX6_statement_89 rfl rfl ?_
                    refine WG.icmp_eq (tgt := 100) (pc' := 94) dX6_statement_91 rfl (by decide) (fun c_91 => ?_) (fun c_91 => ?_)
                    · exact absurd c_91 (by decide)
                    · refine WG.iload_n (pc' := 95) dX6_statement_94 rfl rfl ?_
                      refine WG.bipush (v := 105) (pc' := 97) dX6_statement_95 rfl rfl ?_
                      refine WG.icmp_ne (tgt := 104) (pc' := 100) dX6_statement_97 rfl (by decide) (fun c_97 => ?_) (fun c_97 => ?_)
                      · refine WG.iload_n (pc' := 105) dX6_statement_104 rfl rfl ?_
                        refine WG.bipush (v := 107) (pc' := 107) dX6_statement_105 rfl rfl ?_
                        refine WG.icmp_ne (tgt := 134) (pc' := 110) dX6_statement_107 rfl (by decide) (fun c_107 => ?_) (fun c_107 => ?_)
                        · refine WG.aload_n (pc' := 135) dX6_statement_134 rfl rfl ?_
                          refine WG.bipush (v := 59) (pc' := 137) dX6_statement_135 rfl rfl ?_
                          refine WG.callV (c_X6_takes (c := 59) (hs.P (s' := (false, p + 1, N)) (x := p + 1) rfl rfl rfl (by omega)) (by decide)) m_X6_161 b_X6_takes rfl rfl rfl (zrk_of rfl) rfl (Nat.le_of_ble_eq_true rfl) dX6_statement_137 (pc' := 140) rfl (fun r_ h_ q_ => ?_)
                          obtain ⟨rfl, s2, f2⟩ := q_
                          refine WG.iload_n (pc' := 141) dX6_statement_140 rfl rfl ?_
                          refine WG.ireturn dX6_statement_141 rfl (by first | rfl | decide) ?_
                          exact ⟨by rw [hc], _, s2, yen_of (N := N) (by rw [hc]; decide) (by rw [hc]; rfl), (zFs.rf.p (Or.inl rfl)).tr f2⟩
                        · exact absurd c_107 (by decide)
                      · exact absurd c_97 (by decide)
                  · exact absurd c_79 (by decide)
                · exact absurd c_67 (by decide)
          · exact absurd c_32 (by decide)
set_option maxHeartbeats 4000000 in
set_option maxRecDepth 100000 in
theorem c_X6_statement (hs : RSt T (false, p, N) h) : K_X6_statement [.ref 86] h (zSm T p h) := by
  refine CT.of rfl rfl (Nat.le_of_ble_eq_true rfl) rfl ?_
  have J5 : W_X6_statement (zSm T p h) 5 [some (.ref 86), some (.int (zlt T p))] [] h := by
    by_cases c1 : zlt T p = 115
    · have z := m_stS hs c1
      rw [c1]; exact z
    · by_cases c2 : zlt T p = 105
      · have z := m_stI hs c2
        rw [c2]; exact z
      · by_cases c3 : zlt T p = 107
        · have z := m_stK hs c3
          rw [c3]; exact z
        · by_cases c4 : zlt T p = 100
          · have z := m_stD hs c4
            rw [c4]; exact z
          · by_cases c5 : zlt T p = 114
            · have z := m_stR hs c5
              rw [c5]; exact z
            · have z0 : zfo (zlt T p) = 0 := by unfold zfo; rw [if_neg c1, if_neg c2, if_neg c3, if_neg c4, if_neg c5]
              have en : yen T p (true, p, N) := by
                unfold yen zst_
                rw [if_pos z0]
                exact ⟨fun _ => ⟨rfl, rfl⟩, fun q => absurd q (show ¬ false = true by decide)⟩
              refine WG.iload_n (pc' := 6) dX6_statement_5 rfl rfl ?_
              refine WG.bipush (v := 115) (pc' := 8) dX6_statement_6 rfl rfl ?_
              refine WG.icmp_eq (tgt := 42) (pc' := 11) dX6_statement_8 rfl (by decide) (fun c_8 => ?_) (fun c_8 => ?_)
              · exact absurd c_8 c1
              · refine WG.iload_n (pc' := 12) dX6_statement_11 rfl rfl ?_
                refine WG.bipush (v := 105) (pc' := 14) dX6_statement_12 rfl rfl ?_
                refine WG.icmp_eq (tgt := 42) (pc' := 17) dX6_statement_14 rfl (by decide) (fun c_14 => ?_) (fun c_14 => ?_)
                · exact absurd c_14 c2
                · refine WG.iload_n (pc' := 18) dX6_statement_17 rfl rfl ?_
                  refine WG.bipush (v := 107) (pc' := 20) dX6_statement_18 rfl rfl ?_
                  refine WG.icmp_eq (tgt := 42) (pc' := 23) dX6_statement_20 rfl (by decide) (fun c_20 => ?_) (fun c_20 => ?_)
                  · exact absurd c_20 c3
                  · refine WG.iload_n (pc' := 24) dX6_statement_23 rfl rfl ?_
                    refine WG.bipush (v := 100) (pc' := 26) dX6_statement_24 rfl rfl ?_
                    refine WG.icmp_eq (tgt := 42) (pc' := 29) dX6_statement_26 rfl (by decide) (fun c_26 => ?_) (fun c_26 => ?_)
                    · exact absurd c_26 c4
                    · refine WG.iload_n (pc' := 30) dX6_statement_29 rfl rfl ?_
                      refine WG.bipush (v := 114) (pc' := 32) dX6_statement_30 rfl rfl ?_
                      refine WG.icmp_eq (tgt := 42) (pc' := 35) dX6_statement_32 rfl (by decide) (fun c_32 => ?_) (fun c_32 => ?_)
                      · exact absurd c_32 c5
                      · refine WG.aload_n (pc' := 36) dX6_statement_35 rfl rfl ?_
                        refine WG.iconst (v := 1) (pc' := 37) dX6_statement_36 rfl rfl ?_
                        refine WG.putI p_X6_146 (pc' := 40) dX6_statement_37 rfl rfl rfl rfl rfl ?_
                        refine WG.iload_n (pc' := 41) dX6_statement_40 rfl rfl ?_
                        refine WG.ireturn dX6_statement_41 rfl (by first | rfl | decide) ?_
                        exact ⟨rfl, _, hs.W (s' := (true, p, N)) rfl rfl, en, zFs.rf.p (Or.inr rfl)⟩
  refine WG.aload_n (pc' := 1) dX6_statement_0 rfl rfl ?_
  refine WG.callVd (c_X6_here hs) m_X6_150 b_X6_here rfl rfl rfl (zrk_of rfl) rfl (Nat.le_of_ble_eq_true rfl) dX6_statement_1 (pc' := 4) rfl ?_
  refine WG.istore_n (L' := [_, _]) (pc' := 5) dX6_statement_4 rfl (by decide) rfl ?_
  exact J5
end zStmt
