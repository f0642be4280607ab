/-! the reference's reader: letters -/
abbrev zss : Type := Bool × Nat × (Nat → Int32)
def RSt (T : zac) (s : zss) (h : zH) : Prop := h.1 86 8 = nI s.2.1 ∧ h.1 86 9 = (bif s.1 then 1 else 0) ∧ RV 86 7 120 91 T h ∧ h.1 92 = s.2.2 ∧ s.2.1 ≤ T.1
def zFs (h h' : zH) : Prop := zFr (fun o => o = 86 ∨ o = 92) h h' ∧ ∀ i, i ≠ 8 → i ≠ 9 → h'.1 86 i = h.1 86 i
theorem zFs.rf {h : zH} : zFs h h := ⟨zFr.rf, fun _ _ _ => rfl⟩
theorem zFs.tr {h h1 h2 : zH} (a : zFs h h1) (b : zFs h1 h2) : zFs h h2 := ⟨a.1.tr b.1, fun i h8 h9 => (b.2 i h8 h9).trans (a.2 i h8 h9)⟩
theorem zFs.p {h h1 : zH} (a : zFs h h1) {i : Nat} (hi : i = 8 ∨ i = 9) {x : Int32} : zFs h (zI h1 86 i x) := ⟨a.1.I (Or.inl rfl), fun j h8 h9 => by rw [zI_1, if_neg (by omega)]; exact a.2 j h8 h9⟩
theorem zFs.n {h h1 : zH} (a : zFs h h1) {i : Nat} {x : Int32} : zFs h (zI h1 92 i x) := ⟨a.1.I (Or.inr rfl), fun j h8 h9 => by rw [zI_1, if_neg (by omega)]; exact a.2 j h8 h9⟩
def zdgs (T : zac) (a : Int32) (k : Nat) (s : zss) : zss := if s.1 = true then s else match zit T a s.2.1 with
  | (some (some v), q) => (false, q, upd s.2.2 k v)
  | (_, q) => (true, q, s.2.2)
def ztks (T : zac) (c : Int32) (s : zss) : zss := if s.1 = true then s else if zlt T s.2.1 = c then (false, s.2.1 + 1, s.2.2) else (true, s.2.1, s.2.2)
section zScan
variable {T : zac} {s : zss} {h : zH}
theorem RSt.P {s' : zss} {x : Nat} (hs : RSt T s h) (e1 : s'.1 = s.1) (e2 : s'.2.1 = x) (e3 : s'.2.2 = s.2.2) (hx : x ≤ T.1) : RSt T s' (zI h 86 8 (nI x)) := by
  obtain ⟨r1, r2, r3, r4, r5⟩ := hs
  subst e2
  refine ⟨by rw [zI_1, if_pos ⟨rfl, rfl⟩], by rw [zI_1, if_neg (by omega), e1]; exact r2, ⟨r3.1, by rw [zI_1, if_neg (by omega)]; exact r3.2.1, fun i hi => by rw [zI_1, if_neg (by omega)]; exact r3.2.2 i hi⟩, ?_, hx⟩
  rw [(zI_o (by decide)).1, e3]; exact r4
theorem RSt.W {s' : zss} (hs : RSt T s h) (e1 : s'.1 = true) (e2 : s'.2 = s.2) : RSt T s' (zI h 86 9 1) := by
  obtain ⟨r1, r2, r3, r4, r5⟩ := hs
  refine ⟨by rw [zI_1, if_neg (by omega), e2]; exact r1, by rw [zI_1, if_pos ⟨rfl, rfl⟩, e1]; rfl, ⟨r3.1, by rw [zI_1, if_neg (by omega)]; exact r3.2.1, fun i hi => by rw [zI_1, if_neg (by omega)]; exact r3.2.2 i hi⟩, ?_, by rw [e2]; exact r5⟩
  rw [(zI_o (by decide)).1, e2]; exact r4
theorem RSt.N {s' : zss} {k : Nat} {v : Int32} (hs : RSt T s h) (e1 : s'.1 = s.1) (e2 : s'.2.1 = s.2.1) (e3 : s'.2.2 = upd s.2.2 k v) : RSt T s' (zI h 92 k v) := by
  obtain ⟨r1, r2, r3, r4, r5⟩ := hs
  refine ⟨by rw [zI_1, if_neg (by omega), e2]; exact r1, by rw [zI_1, if_neg (by omega), e1]; exact r2, ⟨r3.1, by rw [zI_1, if_neg (by omega)]; exact r3.2.1, fun i hi => by rw [zI_1, if_neg (by omega)]; exact r3.2.2 i hi⟩, ?_, by rw [e2]; exact r5⟩
  rw [zI_s, e3, r4]
set_option maxHeartbeats 4000000 in
set_option maxRecDepth 100000 in
theorem c_X6_here (hs : RSt T s h) : K_X6_here [.ref 86] h (zD (some (.int (zlt T s.2.1))) h) := by
  obtain ⟨r1, r2, ⟨t1, t2, t3⟩, r4, r5⟩ := hs
  have e : nI T.1 ≤ nI s.2.1 ↔ T.1 ≤ s.2.1 := nI_leI (by omega) (by omega)
  refine CT.of rfl rfl (Nat.le_of_ble_eq_true rfl) rfl ?_
  refine WG.aload_n (pc' := 1) dX6_here_0 rfl rfl ?_
  refine WG.getI f_X6_143 (pc' := 4) dX6_here_1 rfl rfl rfl ?_
  refine WG.aload_n (pc' := 5) dX6_here_4 rfl rfl ?_
  refine WG.getI f_X6_140 (pc' := 8) dX6_here_5 rfl rfl rfl ?_
  rw [r1, t2]
  refine WG.icmp_ge (tgt := 23) (pc' := 11) dX6_here_8 rfl (by decide) (fun c_8 => ?_) (fun c_8 => ?_)
  · have c8 := e.mp c_8
    refine WG.bipush (v := -9) (pc' := 25) dX6_here_23 rfl rfl ?_
    refine WG.ireturn dX6_here_25 rfl (by first | rfl | decide) ?_
    first
      | exact ⟨by rw [zlt_out c8], rfl⟩
      | exact ⟨by rw [zlt_in (by omega), t3 _ (by omega)], rfl⟩
  · have c8 := mt e.mpr c_8
    refine WG.aload_n (pc' := 12) dX6_here_11 rfl rfl ?_
    refine WG.getR (r := 91) f_X6_32 (pc' := 15) dX6_here_12 rfl rfl rfl rfl ?_
    refine WG.aload_n (pc' := 16) dX6_here_15 rfl rfl ?_
    refine WG.getI f_X6_143 (pc' := 19) dX6_here_16 rfl rfl rfl ?_
    refine WG.ialoadN (j := s.2.1) (pc' := 20) dX6_here_19 rfl rfl r1 (by omega) (by first | decide | omega) ?_
    refine WG.goto (tgt := 25) dX6_here_20 (by decide) ?_
    refine WG.ireturn dX6_here_25 rfl (by first | rfl | decide) ?_
    first
      | exact ⟨by rw [zlt_out c8], rfl⟩
      | exact ⟨by rw [zlt_in (by omega), t3 _ (by omega)], rfl⟩
set_option maxHeartbeats 4000000 in
set_option maxRecDepth 100000 in
theorem c_X6_takes (hs : RSt T s h) {c : Int32} (hc : c ≠ -9) : K_X6_takes [.ref 86, .int c] h (fun r h' => r = none ∧ RSt T (ztks T c s) h' ∧ zFs h h') := by
  have r1 := hs.1
  have r2 := hs.2.1
  refine CT.of rfl rfl (Nat.le_of_ble_eq_true rfl) rfl ?_
  cases hw : s.1 with
  | true =>
    rw [hw] at r2
    have e : ztks T c s = s := if_pos hw
    rw [e]
    refine WG.aload_n (pc' := 1) dX6_takes_0 rfl rfl ?_
    refine WG.getI f_X6_146 (pc' := 4) dX6_takes_1 rfl rfl rfl ?_
    rw [r2]
    refine WG.if_ne (tgt := 15) (pc' := 7) dX6_takes_4 rfl (by decide) (fun c_4 => ?_) (fun c_4 => ?_)
    · refine WG.aload_n (pc' := 16) dX6_takes_15 rfl rfl ?_
      refine WG.iconst (v := 1) (pc' := 17) dX6_takes_16 rfl rfl ?_
      refine WG.putI p_X6_146 (pc' := 20) dX6_takes_17 rfl rfl rfl rfl rfl ?_
      refine WG.vreturn dX6_takes_20 rfl ?_
      exact ⟨rfl, hs.W hw rfl, zFs.rf.p (Or.inr rfl)⟩
    · exact absurd c_4 (by decide)
  | false =>
    rw [hw] at r2
    have e : ztks T c s = if zlt T s.2.1 = c then (false, s.2.1 + 1, s.2.2) else (true, s.2.1, s.2.2) := if_neg (by rw [hw]; decide)
    rw [e]
    refine WG.aload_n (pc' := 1) dX6_takes_0 rfl rfl ?_
    refine WG.getI f_X6_146 (pc' := 4) dX6_takes_1 rfl rfl rfl ?_
    rw [r2]
    refine WG.if_ne (tgt := 15) (pc' := 7) dX6_takes_4 rfl (by decide) (fun c_4 => ?_) (fun c_4 => ?_)
    · exact absurd rfl c_4
    · refine WG.aload_n (pc' := 8) dX6_takes_7 rfl rfl ?_
      refine WG.callVd (c_X6_here hs) m_X6_150 b_X6_here rfl rfl rfl (zrk_of rfl) rfl (Nat.le_of_ble_eq_true rfl) dX6_takes_8 (pc' := 11) rfl ?_
      refine WG.iload_n (pc' := 12) dX6_takes_11 rfl rfl ?_
      refine WG.icmp_eq (tgt := 21) (pc' := 15) dX6_takes_12 rfl (by decide) (fun c_12 => ?_) (fun c_12 => ?_)
      · refine WG.aload_n (pc' := 22) dX6_takes_21 rfl rfl ?_
        refine WG.dup (pc' := 23) dX6_takes_22 rfl rfl ?_
        refine WG.getI f_X6_143 (pc' := 26) dX6_takes_23 rfl rfl rfl ?_
        refine WG.iconst (v := 1) (pc' := 27) dX6_takes_26 rfl rfl ?_
        refine WG.iadd (pc' := 28) dX6_takes_27 rfl ?_
        rw [r1, nI_1]
        refine WG.putI p_X6_143 (pc' := 31) dX6_takes_28 rfl rfl rfl rfl rfl ?_
        refine WG.vreturn dX6_takes_31 rfl ?_
        exact ⟨rfl, by rw [if_pos c_12]; exact hs.P hw.symm rfl rfl (by have := zlt_ne (T := T) (p := s.2.1) (by rw [c_12]; exact hc); omega), zFs.rf.p (Or.inl rfl)⟩
      · refine WG.aload_n (pc' := 16) dX6_takes_15 rfl rfl ?_
        refine WG.iconst (v := 1) (pc' := 17) dX6_takes_16 rfl rfl ?_
        refine WG.putI p_X6_146 (pc' := 20) dX6_takes_17 rfl rfl rfl rfl rfl ?_
        refine WG.vreturn dX6_takes_20 rfl ?_
        exact ⟨rfl, by rw [if_neg c_12]; exact hs.W rfl rfl, zFs.rf.p (Or.inr rfl)⟩
theorem zin48 (x : Int32) : ((48 : Int64) ≤ x.toInt64 ∧ x.toInt64 ≤ (57 : Int64)) ↔ (48 ≤ x ∧ x ≤ 57) := by
  rw [Int64.le_iff_toInt_le, Int64.le_iff_toInt_le, zi64, Int32.le_iff_toInt_le, Int32.le_iff_toInt_le, show (48 : Int64).toInt = 48 by decide, show (57 : Int64).toInt = 57 by decide, show (48 : Int32).toInt = 48 by decide, show (57 : Int32).toInt = 57 by decide]
set_option maxHeartbeats 4000000 in
set_option maxRecDepth 100000 in
theorem c_X6_digit (hs : RSt T s h) {k : Nat} (hk : k < 4) {a m : Int32} (hm : (m = 1 ∧ a = 126) ∨ (m = 0 ∧ a = 35)) : K_X6_digit [.ref 86, .int (nI k), .int m] h (fun r h' => r = none ∧ RSt T (zdgs T a k s) h' ∧ zFs h h') := by
  have r1 := hs.1
  have r2 := hs.2.1
  refine CT.of rfl rfl (Nat.le_of_ble_eq_true rfl) rfl ?_
  cases hw : s.1 with
  | true =>
    rw [hw] at r2
    have e : zdgs T a k s = s := if_pos hw
    rw [e]
    refine WG.aload_n (pc' := 1) dX6_digit_0 rfl rfl ?_
    refine WG.getI f_X6_146 (pc' := 4) dX6_digit_1 rfl rfl rfl ?_
    rw [r2]
    refine WG.if_eq (tgt := 8) (pc' := 7) dX6_digit_4 rfl (by decide) (fun c_4 => ?_) (fun c_4 => ?_)
    · exact absurd c_4 (by decide)
    · refine WG.vreturn dX6_digit_7 rfl ?_
      exact ⟨rfl, hs, zFs.rf⟩
  | false =>
    rw [hw] at r2
    have e : zdgs T a k s = (match zit T a s.2.1 with
      | (some (some v), q) => (false, q, upd s.2.2 k v)
      | (_, q) => (true, q, s.2.2)) := if_neg (by rw [hw]; decide)
    generalize hz : zdgs T a k s = z at e ⊢
    have J45 : ∀ (h1 : zH) (p1 : Nat) (u : Int32), RSt T (false, p1, s.2.2) h1 → zFs h h1 → (u = 0 ∨ u = 1) → (zit T a s.2.1 = if 48 ≤ zlt T p1 ∧ zlt T p1 ≤ 57 then (some (some (if u = 0 then zlt T p1 - 48 else -(zlt T p1 - 48))), p1 + 1) else (none, p1)) → ∀ v4, W_X6_digit (fun r h' => r = none ∧ RSt T z h' ∧ zFs h h') 45 [some (.ref 86), some (.int (nI k)), some (.int m), some (.int u), v4] [] h1 := by
      intro h1 p1 u hs1 hF1 hu hit v4
      have q1 := hs1.1
      have q5 := hs1.2.2.2.2
      obtain ⟨t1, t2, t3⟩ := hs1.2.2.1
      have q1 : h1.1 86 8 = nI p1 := q1
      by_cases d : 48 ≤ zlt T p1 ∧ zlt T p1 ≤ 57
      · rw [if_pos d] at hit
        rw [hit] at e
        have lp : p1 < T.1 := zlt_ne (fun w => by rw [w] at d; exact absurd d.1 (by decide))
        have x1 : h1.1 91 p1 = zlt T p1 := by rw [zlt_in lp, t3 p1 lp]
        have e92 : ∀ v, (zI h1 92 k v).1 86 8 = nI p1 := fun v => by rw [zI_1, if_neg (by omega)]; exact q1
        have fin : ∀ v : Int32, v = (if u = 0 then zlt T p1 - 48 else -(zlt T p1 - 48)) → RSt T z (zI (zI h1 92 k v) 86 8 (nI (p1 + 1))) ∧ zFs h (zI (zI h1 92 k v) 86 8 (nI (p1 + 1))) := fun v hv => by
          refine ⟨?_, (hF1.n).p (Or.inl rfl)⟩
          have a1 : RSt T (false, p1, upd s.2.2 k v) (zI h1 92 k v) := hs1.N rfl rfl rfl
          exact a1.P (by rw [e]) (by rw [e]) (by rw [e, hv]) (by omega)
        refine WG.aload_n (pc' := 46) dX6_digit_45 rfl rfl ?_
        refine WG.callVd (c_X6_here hs1) m_X6_150 b_X6_here rfl rfl rfl (zrk_of rfl) rfl (Nat.le_of_ble_eq_true rfl) dX6_digit_46 (pc' := 49) rfl ?_
        refine WG.i2l (pc' := 50) dX6_digit_49 rfl ?_
        refine WG.ldc2 (pc' := 53) dX6_digit_50 rfl k_X6_153 ?_
        refine WG.ldc2 (pc' := 56) dX6_digit_53 rfl k_X6_155 ?_
        refine WG.callSd (c_X6_in _ _ _ _) m_X6_67 b_X6_in rfl (zrk_of rfl) rfl (Nat.le_of_ble_eq_true rfl) dX6_digit_56 (pc' := 59) rfl ?_
        refine WG.if_ne (tgt := 68) (pc' := 62) dX6_digit_59 rfl (by decide) (fun c_59 => ?_) (fun c_59 => ?_)
        · refine WG.aload_n (pc' := 69) dX6_digit_68 rfl rfl ?_
          refine WG.getR (r := 91) f_X6_32 (pc' := 72) dX6_digit_69 rfl rfl rfl rfl ?_
          refine WG.aload_n (pc' := 73) dX6_digit_72 rfl rfl ?_
          refine WG.getI f_X6_143 (pc' := 76) dX6_digit_73 rfl rfl rfl ?_
          refine WG.ialoadN (j := p1) (pc' := 77) dX6_digit_76 rfl rfl q1 (by omega) (by first | decide | omega) ?_
          rw [x1]
          refine WG.bipush (v := 48) (pc' := 79) dX6_digit_77 rfl rfl ?_
          refine WG.isub (pc' := 80) dX6_digit_79 rfl ?_
          refine WG.istore (L' := [_, _, _, _, _]) (pc' := 82) dX6_digit_80 rfl (by decide) rfl ?_
          refine WG.aload_n (pc' := 83) dX6_digit_82 rfl rfl ?_
          refine WG.getR (r := 92) f_X6_35 (pc' := 86) dX6_digit_83 rfl rfl rfl rfl ?_
          refine WG.iload_n (pc' := 87) dX6_digit_86 rfl rfl ?_
          refine WG.iload_n (pc' := 88) dX6_digit_87 rfl rfl ?_
          refine WG.if_eq (tgt := 97) (pc' := 91) dX6_digit_88 rfl (by decide) (fun c_88 => ?_) (fun c_88 => ?_)
          · refine WG.iload (pc' := 99) dX6_digit_97 rfl rfl ?_
            refine WG.iastoreN (j := k) (pc' := 100) dX6_digit_99 rfl rfl rfl (by omega) (by first | decide | omega) ?_
            refine WG.aload_n (pc' := 101) dX6_digit_100 rfl rfl ?_
            refine WG.dup (pc' := 102) dX6_digit_101 rfl rfl ?_
            refine WG.getI f_X6_143 (pc' := 105) dX6_digit_102 rfl rfl rfl ?_
            refine WG.iconst (v := 1) (pc' := 106) dX6_digit_105 rfl rfl ?_
            refine WG.iadd (pc' := 107) dX6_digit_106 rfl ?_
            rw [e92, nI_1]
            refine WG.putI p_X6_143 (pc' := 110) dX6_digit_107 rfl rfl rfl rfl rfl ?_
            refine WG.vreturn dX6_digit_110 rfl ?_
            first
              | (have f1 := fin _ (if_pos c_88).symm; exact ⟨rfl, f1.1, f1.2⟩)
              | (have f1 := fin _ (if_neg c_88).symm; exact ⟨rfl, f1.1, f1.2⟩)
          · refine WG.iload (pc' := 93) dX6_digit_91 rfl rfl ?_
            refine WG.ineg (pc' := 94) dX6_digit_93 rfl ?_
            refine WG.goto (tgt := 99) dX6_digit_94 (by decide) ?_
            refine WG.iastoreN (j := k) (pc' := 100) dX6_digit_99 rfl rfl rfl (by omega) (by first | decide | omega) ?_
            refine WG.aload_n (pc' := 101) dX6_digit_100 rfl rfl ?_
            refine WG.dup (pc' := 102) dX6_digit_101 rfl rfl ?_
            refine WG.getI f_X6_143 (pc' := 105) dX6_digit_102 rfl rfl rfl ?_
            refine WG.iconst (v := 1) (pc' := 106) dX6_digit_105 rfl rfl ?_
            refine WG.iadd (pc' := 107) dX6_digit_106 rfl ?_
            rw [e92, nI_1]
            refine WG.putI p_X6_143 (pc' := 110) dX6_digit_107 rfl rfl rfl rfl rfl ?_
            refine WG.vreturn dX6_digit_110 rfl ?_
            first
              | (have f1 := fin _ (if_pos c_88).symm; exact ⟨rfl, f1.1, f1.2⟩)
              | (have f1 := fin _ (if_neg c_88).symm; exact ⟨rfl, f1.1, f1.2⟩)
        · rw [zb_eq, zin48] at c_59; exact absurd d c_59
      · rw [if_neg d] at hit
        rw [hit] at e
        refine WG.aload_n (pc' := 46) dX6_digit_45 rfl rfl ?_
        refine WG.callVd (c_X6_here hs1) m_X6_150 b_X6_here rfl rfl rfl (zrk_of rfl) rfl (Nat.le_of_ble_eq_true rfl) dX6_digit_46 (pc' := 49) rfl ?_
        refine WG.i2l (pc' := 50) dX6_digit_49 rfl ?_
        refine WG.ldc2 (pc' := 53) dX6_digit_50 rfl k_X6_153 ?_
        refine WG.ldc2 (pc' := 56) dX6_digit_53 rfl k_X6_155 ?_
        refine WG.callSd (c_X6_in _ _ _ _) m_X6_67 b_X6_in rfl (zrk_of rfl) rfl (Nat.le_of_ble_eq_true rfl) dX6_digit_56 (pc' := 59) rfl ?_
        refine WG.if_ne (tgt := 68) (pc' := 62) dX6_digit_59 rfl (by decide) (fun c_59 => ?_) (fun c_59 => ?_)
        · rw [zb_ne, zin48] at c_59; exact absurd c_59 d
        · refine WG.aload_n (pc' := 63) dX6_digit_62 rfl rfl ?_
          refine WG.iconst (v := 1) (pc' := 64) dX6_digit_63 rfl rfl ?_
          refine WG.putI p_X6_146 (pc' := 67) dX6_digit_64 rfl rfl rfl rfl rfl ?_
          refine WG.vreturn dX6_digit_67 rfl ?_
          exact ⟨rfl, hs1.W (by rw [e]) (by rw [e]), hF1.p (Or.inr rfl)⟩
    by_cases hl : m = 1 ∧ zlt T s.2.1 = 45
    · obtain ⟨rfl, hl⟩ := hl
      have ha : a = 126 := by
        rcases hm with ⟨-, w⟩ | ⟨w, -⟩
        · exact w
        · exact absurd w (by decide)
      have lp : s.2.1 < T.1 := zlt_ne (by rw [hl]; decide)
      have hit : zit T a s.2.1 = if 48 ≤ zlt T (s.2.1 + 1) ∧ zlt T (s.2.1 + 1) ≤ 57 then (some (some (if (1 : Int32) = 0 then zlt T (s.2.1 + 1) - 48 else -(zlt T (s.2.1 + 1) - 48))), s.2.1 + 1 + 1) else (none, s.2.1 + 1) := by
        unfold zit
        rw [if_pos ha, if_pos hl, if_neg (show ¬ (1 : Int32) = 0 by decide)]
      refine WG.aload_n (pc' := 1) dX6_digit_0 rfl rfl ?_
      refine WG.getI f_X6_146 (pc' := 4) dX6_digit_1 rfl rfl rfl ?_
      rw [r2]
      refine WG.if_eq (tgt := 8) (pc' := 7) dX6_digit_4 rfl (by decide) (fun c_4 => ?_) (fun c_4 => ?_)
      · refine WG.iload_n (pc' := 9) dX6_digit_8 rfl rfl ?_
        refine WG.if_eq (tgt := 25) (pc' := 12) dX6_digit_9 rfl (by decide) (fun c_9 => ?_) (fun c_9 => ?_)
        · exact absurd c_9 (by decide)
        · refine WG.aload_n (pc' := 13) dX6_digit_12 rfl rfl ?_
          refine WG.callVd (c_X6_here hs) m_X6_150 b_X6_here rfl rfl rfl (zrk_of rfl) rfl (Nat.le_of_ble_eq_true rfl) dX6_digit_13 (pc' := 16) rfl ?_
          refine WG.bipush (v := 45) (pc' := 18) dX6_digit_16 rfl rfl ?_
          refine WG.icmp_ne (tgt := 25) (pc' := 21) dX6_digit_18 rfl (by decide) (fun c_18 => ?_) (fun c_18 => ?_)
          · exact absurd hl c_18
          · refine WG.iconst (v := 1) (pc' := 22) dX6_digit_21 rfl rfl ?_
            refine WG.goto (tgt := 26) dX6_digit_22 (by decide) ?_
            refine WG.istore_n (L' := [_, _, _, _, _]) (pc' := 27) dX6_digit_26 rfl (by decide) rfl ?_
            refine WG.aload_n (pc' := 28) dX6_digit_27 rfl rfl ?_
            refine WG.dup (pc' := 29) dX6_digit_28 rfl rfl ?_
            refine WG.getI f_X6_143 (pc' := 32) dX6_digit_29 rfl rfl rfl ?_
            refine WG.iload_n (pc' := 33) dX6_digit_32 rfl rfl ?_
            refine WG.if_eq (tgt := 40) (pc' := 36) dX6_digit_33 rfl (by decide) (fun c_33 => ?_) (fun c_33 => ?_)
            · exact absurd c_33 (by decide)
            · refine WG.iconst (v := 1) (pc' := 37) dX6_digit_36 rfl rfl ?_
              refine WG.goto (tgt := 41) dX6_digit_37 (by decide) ?_
              refine WG.iadd (pc' := 42) dX6_digit_41 rfl ?_
              rw [r1, nI_1]
              refine WG.putI p_X6_143 (pc' := 45) dX6_digit_42 rfl rfl rfl rfl rfl ?_
              exact J45 _ (s.2.1 + 1) 1 (hs.P (x := s.2.1 + 1) hw.symm rfl rfl (by omega)) (zFs.rf.p (Or.inl rfl)) (Or.inr rfl) hit _
      · exact absurd rfl c_4
    · have hit : zit T a s.2.1 = if 48 ≤ zlt T s.2.1 ∧ zlt T s.2.1 ≤ 57 then (some (some (if (0 : Int32) = 0 then zlt T s.2.1 - 48 else -(zlt T s.2.1 - 48))), s.2.1 + 1) else (none, s.2.1) := by
        unfold zit
        rcases hm with ⟨w, w2⟩ | ⟨w, w2⟩
        · rw [if_pos w2, if_neg (fun y => hl ⟨w, y⟩), if_pos rfl]
        · rw [if_neg (by rw [w2]; decide), if_pos w2, if_pos rfl]
      have fin := J45 (zI h 86 8 (nI s.2.1)) s.2.1 0 (hs.P hw.symm rfl rfl hs.2.2.2.2) (zFs.rf.p (Or.inl rfl)) (Or.inl rfl) hit
      refine WG.aload_n (pc' := 1) dX6_digit_0 rfl rfl ?_
      refine WG.getI f_X6_146 (pc' := 4) dX6_digit_1 rfl rfl rfl ?_
      rw [r2]
      refine WG.if_eq (tgt := 8) (pc' := 7) dX6_digit_4 rfl (by decide) (fun c_4 => ?_) (fun c_4 => ?_)
      · refine WG.iload_n (pc' := 9) dX6_digit_8 rfl rfl ?_
        refine WG.if_eq (tgt := 25) (pc' := 12) dX6_digit_9 rfl (by decide) (fun c_9 => ?_) (fun c_9 => ?_)
        · refine WG.iconst (v := 0) (pc' := 26) dX6_digit_25 rfl rfl ?_
          refine WG.istore_n (L' := [_, _, _, _, _]) (pc' := 27) dX6_digit_26 rfl (by decide) rfl ?_
          refine WG.aload_n (pc' := 28) dX6_digit_27 rfl rfl ?_
          refine WG.dup (pc' := 29) dX6_digit_28 rfl rfl ?_
          refine WG.getI f_X6_143 (pc' := 32) dX6_digit_29 rfl rfl rfl ?_
          refine WG.iload_n (pc' := 33) dX6_digit_32 rfl rfl ?_
          refine WG.if_eq (tgt := 40) (pc' := 36) dX6_digit_33 rfl (by decide) (fun c_33 => ?_) (fun c_33 => ?_)
          · refine WG.iconst (v := 0) (pc' := 41) dX6_digit_40 rfl rfl ?_
            refine WG.iadd (pc' := 42) dX6_digit_41 rfl ?_
            rw [r1, Int32.add_zero]
            refine WG.putI p_X6_143 (pc' := 45) dX6_digit_42 rfl rfl rfl rfl rfl ?_
            exact fin _
          · exact absurd rfl c_33
        · refine WG.aload_n (pc' := 13) dX6_digit_12 rfl rfl ?_
          refine WG.callVd (c_X6_here hs) m_X6_150 b_X6_here rfl rfl rfl (zrk_of rfl) rfl (Nat.le_of_ble_eq_true rfl) dX6_digit_13 (pc' := 16) rfl ?_
          refine WG.bipush (v := 45) (pc' := 18) dX6_digit_16 rfl rfl ?_
          refine WG.icmp_ne (tgt := 25) (pc' := 21) dX6_digit_18 rfl (by decide) (fun c_18 => ?_) (fun c_18 => ?_)
          · refine WG.iconst (v := 0) (pc' := 26) dX6_digit_25 rfl rfl ?_
            refine WG.istore_n (L' := [_, _, _, _, _]) (pc' := 27) dX6_digit_26 rfl (by decide) rfl ?_
            refine WG.aload_n (pc' := 28) dX6_digit_27 rfl rfl ?_
            refine WG.dup (pc' := 29) dX6_digit_28 rfl rfl ?_
            refine WG.getI f_X6_143 (pc' := 32) dX6_digit_29 rfl rfl rfl ?_
            refine WG.iload_n (pc' := 33) dX6_digit_32 rfl rfl ?_
            refine WG.if_eq (tgt := 40) (pc' := 36) dX6_digit_33 rfl (by decide) (fun c_33 => ?_) (fun c_33 => ?_)
            · refine WG.iconst (v := 0) (pc' := 41) dX6_digit_40 rfl rfl ?_
              refine WG.iadd (pc' := 42) dX6_digit_41 rfl ?_
              rw [r1, Int32.add_zero]
              refine WG.putI p_X6_143 (pc' := 45) dX6_digit_42 rfl rfl rfl rfl rfl ?_
              exact fin _
            · exact absurd rfl c_33
          · exact absurd ⟨by rcases hm with w | w; exact w.1; exact absurd w.1 c_9, c_18⟩ hl
      · exact absurd rfl c_4
def zbr (T : zac) (s : zss) : zss := zdgs T 35 3 (ztks T 42 (zdgs T 126 2 (ztks T 44 (zdgs T 126 1 s))))
set_option maxHeartbeats 4000000 in
set_option maxRecDepth 100000 in
theorem c_X6_bearing (hs : RSt T s h) : K_X6_bearing [.ref 86] h (fun r h' => r = none ∧ RSt T (zbr T s) h' ∧ zFs h h') := by
  refine CT.of rfl rfl (Nat.le_of_ble_eq_true rfl) rfl ?_
  refine WG.aload_n (pc' := 1) dX6_bearing_0 rfl rfl ?_
  refine WG.iconst (v := 1) (pc' := 2) dX6_bearing_1 rfl rfl ?_
  refine WG.iconst (v := 1) (pc' := 3) dX6_bearing_2 rfl rfl ?_
  refine WG.callV (c_X6_digit (k := 1) (a := 126) hs (by decide) (Or.inl ⟨rfl, rfl⟩)) m_X6_157 b_X6_digit rfl rfl rfl (zrk_of rfl) rfl (Nat.le_of_ble_eq_true rfl) dX6_bearing_3 (pc' := 6) rfl (fun r_ h_ q_ => ?_)
  obtain ⟨rfl, s1, f1⟩ := q_
  generalize h_ = h1 at *
  refine WG.aload_n (pc' := 7) dX6_bearing_6 rfl rfl ?_
  refine WG.bipush (v := 44) (pc' := 9) dX6_bearing_7 rfl rfl ?_
  refine WG.callV (c_X6_takes (c := 44) s1 (by decide)) m_X6_161 b_X6_takes rfl rfl rfl (zrk_of rfl) rfl (Nat.le_of_ble_eq_true rfl) dX6_bearing_9 (pc' := 12) rfl (fun r_ h_ q_ => ?_)
  obtain ⟨rfl, s2, f2⟩ := q_
  generalize h_ = h2 at *
  refine WG.aload_n (pc' := 13) dX6_bearing_12 rfl rfl ?_
  refine WG.iconst (v := 2) (pc' := 14) dX6_bearing_13 rfl rfl ?_
  refine WG.iconst (v := 1) (pc' := 15) dX6_bearing_14 rfl rfl ?_
  refine WG.callV (c_X6_digit (k := 2) (a := 126) s2 (by decide) (Or.inl ⟨rfl, rfl⟩)) m_X6_157 b_X6_digit rfl rfl rfl (zrk_of rfl) rfl (Nat.le_of_ble_eq_true rfl) dX6_bearing_15 (pc' := 18) rfl (fun r_ h_ q_ => ?_)
  obtain ⟨rfl, s3, f3⟩ := q_
  generalize h_ = h3 at *
  refine WG.aload_n (pc' := 19) dX6_bearing_18 rfl rfl ?_
  refine WG.bipush (v := 42) (pc' := 21) dX6_bearing_19 rfl rfl ?_
  refine WG.callV (c_X6_takes (c := 42) s3 (by decide)) m_X6_161 b_X6_takes rfl rfl rfl (zrk_of rfl) rfl (Nat.le_of_ble_eq_true rfl) dX6_bearing_21 (pc' := 24) rfl (fun r_ h_ q_ => ?_)
  obtain ⟨rfl, s4, f4⟩ := q_
  generalize h_ = h4 at *
  refine WG.aload_n (pc' := 25) dX6_bearing_24 rfl rfl ?_
  refine WG.iconst (v := 3) (pc' := 26) dX6_bearing_25 rfl rfl ?_
  refine WG.iconst (v := 0) (pc' := 27) dX6_bearing_26 rfl rfl ?_
  refine WG.callV (c_X6_digit (k := 3) (a := 35) s4 (by decide) (Or.inr ⟨rfl, rfl⟩)) m_X6_157 b_X6_digit rfl rfl rfl (zrk_of rfl) rfl (Nat.le_of_ble_eq_true rfl) dX6_bearing_27 (pc' := 30) rfl (fun r_ h_ q_ => ?_)
  obtain ⟨rfl, s5, f5⟩ := q_
  refine WG.vreturn dX6_bearing_30 rfl ?_
  exact ⟨rfl, s5, (((f1.tr f2).tr f3).tr f4).tr f5⟩
end zScan
