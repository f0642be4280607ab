/-! calls with more on the stack below them (16 words) -/
section zRows5
variable {own : String} {cc : ByteArray} {nL : Nat} {rt : Option FieldType} {R : Room} {cs sl : Nat} {X : zXP} {E : zEP} {pc pc' : Nat} {L L' : List (Option Value)} {st : List Value} {h : zH}
theorem zcallW {y : MethodName} {cc' : ByteArray} {nL' n idx o ci N : Nat} {rt' : Option FieldType} {R' : Room} {as stk : List Value} {Tt : u_T} {r0 : Option Value} {h0 : zH} (hC : CT y cc' nL' rt' R' (.ref o :: as) h (zD r0 h0)) (hm : zMV own idx y) (hB : zMB y cc' nL' rt' n) (ho : zSH[o]? = some (.inl ci)) (hci : vwCl[ci]? = some (y.cls, Tt, N)) (hn : as.length = n) (hR : R'.cells = 0 ∧ R'.slots = 0 ∧ (R'.frames + 1 ≤ R.frames ∧ 16 + (nL' + 11) + R'.locals ≤ R.locals) ∧ (cs + 0 ≤ R.cells ∧ sl + 0 ≤ R.slots)) (hst : stk = as.reverse ++ .ref o :: st) (hcat : (st.map Value.category).sum ≤ 16) (hdg : decode cc pc = .ok (.invokevirtual idx, 3)) (hp : pc + 3 = pc')
    (k : WG own cc nL rt R cs sl X E pc' L (r0.toList ++ st) h0) : WG own cc nL rt R cs sl X E pc L stk h := by
  intro p l e s m args below meth c D cA ad A C hX H locs ls hP hD hS hl
  subst hp; subst hst
  obtain ⟨m1, m2, m3⟩ := hm
  obtain ⟨b1, b2, b3⟩ := hB
  obtain ⟨r1, r2, r3, r4⟩ := hR
  have hts := C.2.2.2.2.2.2.1
  have hK := C.2.2.2.2.2.2.2.1
  have hF := zfree hD hS C.2.2.2.2.2.2.2.2.1
  have hgi := zgoodIn b2
  have hM := hC l D cA ad H.size
  have hBk : Back l R p e below s args y 3 16 (PreOf R 0 0 _) (PostOf _ 0 0 _) := back_of (bytes := cc') (maxL := nL') (ret := rt') hM zblind r1 r2 r3.1 r3.2 (pay_in hts hgi) List.mem_cons_self (fun a' U hW => word_at hW (Or.inl (by first | rfl | simp [Cond.onTables, Cond.keeps, Cond.steady])) (hts _ b1))
  have hrun : va_Run p l e R s m args below meth c H locs cs sl 0 0 (F0 m pc ls ((as.reverse ++ .ref o :: st).map (zt ad))) (st.map (zt ad)) (zQC D cA ad (zAD ad H.size) (zD r0 h0) (Value.ref (ad o) :: as.map (zt ad)).toArray) (zAD ad H.size) := by
    intro T hT XX
    obtain ⟨cellB, hcB, hoB, hclB⟩ := va_recv hK hP (q := (y.cls, Tt, N)) hci (zW_at ho)
    obtain ⟨v, vm₁, ⟨U', l2, c2, s2⟩, hW₁, X', ⟨g', mk, t, Lc, e1, e2, hq, h1, hL, h2, h3⟩, st9⟩ := callV XX C.1 (C := y.cls) (bytes := cc') (maxL := nL') (ret := rt') C.2.2.2.2.2.1 (hts _ m1) (hts _ m2) (hts _ m3) (hts _ b2) ⟨b3.1, b3.2.1⟩ hBk (b := ad o) (by rw [hT]; exact hcB) hoB hclB (g := F0 m pc ls ((as.reverse ++ .ref o :: st).map (zt ad))) rfl (hl.1.trans C.2.2.1.symm) (argsL := as.map (zt ad)) (rest := st.map (zt ad)) (fun sig h => by have h2 := b3.2.2; rw [h] at h2; simp only [List.length_map]; rw [hn]; exact (Option.some.inj h2).symm) (by simp [zt]) (by show 2 * 0 + _ ≤ 16; rw [zcat]; omega) (by rw [C.2.1]; exact hdg)
      (fun vm₁ hW₁ => ⟨r4.1, r4.2, ⟨rfl, by show T.heap.size = _; rw [hT], by show va_P _ _ _ T.heap; rw [hT]; exact hP, va_K.moved hW₁.alike hK, zD_of hD (fun _ _ _ => trivial), zT_call C.2.2.2.2.2.2.2.2.2 hS hF (U := T.setVm vm₁) hT hW₁⟩⟩)
    dsimp only [Pt.U, Pt.locs, Pt.cells, Pt.slots] at X' e1 e2 h1 h2 h3 st9
    subst h1; subst h2; subst h3
    exact ⟨v, (T.setVm vm₁).calling g' mk (Value.ref (ad o) :: as.map (zt ad)).toArray, t, U', Lc, hT, X', hL, e1, e2, hq, st9⟩
  refine zcall_go (rest := st.map (zt ad)) hrun hS hF (fun r h' H1 locs1 hq hP' hD' hS' => ?_)
  obtain ⟨q1, q2⟩ := hq
  subst q1; subst q2
  rw [zmapr]
  exact k p l e s m args below meth c D cA ad A C hX H1 locs1 ls hP' (zD_of hD' (fun k _ q => hF _ q)) hS' hl
end zRows5
/-! the reference (cells 86 .. 100): rows of numbers -/
def RG (o b n : Nat) (f : zf) (h : zH) : Prop := n ≤ 8 ∧ h.1 o (b + 40) = nI n ∧ ∀ i, i < n → ∀ j, j < 5 → h.1 o (b + (5 * i + j)) = f i j
theorem RG.fo {o b n : Nat} {f : zf} {P : Nat → Prop} {h h' : zH} (hG : RG o b n f h) (hf : zFr P h h') (hP : ¬ P o) : RG o b n f h' := by
  obtain ⟨a, c, d⟩ := hG
  exact ⟨a, by rw [hf.1 o hP]; exact c, fun i hi j hj => by rw [hf.1 o hP]; exact d i hi j hj⟩
theorem zi64 (x : Int32) : x.toInt64.toInt = x.toInt := by simp
theorem zin_iff {n : Nat} (hn : n ≤ 100) (x : Int32) : (0 ≤ x.toInt64 ∧ x.toInt64 ≤ (nI n - 1).toInt64) ↔ zsd n x := by
  unfold zsd
  rw [Int64.le_iff_toInt_le, Int64.le_iff_toInt_le, zi64, zi64, Int32.lt_iff_toInt_lt, Int32.lt_iff_toInt_lt, nI_toInt (by omega), show (nI n - 1).toInt = (n : Int) - 1 from pk_sub_toInt (b := 1) (by omega) (by omega), show (0 : Int64).toInt = 0 by decide, show (0 : Int32).toInt = 0 by decide]
  omega
def zmf (f : zf) (a n : Nat) : Int32 := zsum (fun i => zsp f i a) n
set_option maxHeartbeats 4000000 in
set_option maxRecDepth 100000 in
theorem c_X6_in (h : zH) (v a b : Int64) : K_X6_in [.long v, .long a, .long b] h (zD (some (.int (zb (a ≤ v ∧ v ≤ b)))) h) := by
  refine CT.of rfl rfl (Nat.le_of_ble_eq_true rfl) rfl ?_
  refine WG.lload_n (pc' := 1) dX6_in_0 rfl rfl ?_
  refine WG.lload_n (pc' := 2) dX6_in_1 rfl rfl ?_
  refine WG.lif_lt (tgt := 17) (pc1 := 3) (pc' := 6) dX6_in_2 rfl dX6_in_3 rfl (by decide) (fun c_3 => ?_) (fun c_3 => ?_)
  · refine WG.iconst (v := 0) (pc' := 18) dX6_in_17 rfl rfl ?_
    refine WG.ireturn dX6_in_18 rfl (by first | rfl | decide) ?_
    exact ⟨by first | (rw [zb_t (by grind)]; done) | (rw [zb_f (by grind)]; done), rfl⟩
  · refine WG.lload_n (pc' := 7) dX6_in_6 rfl rfl ?_
    refine WG.lload (pc' := 9) dX6_in_7 rfl rfl ?_
    refine WG.lif_gt (tgt := 17) (pc1 := 10) (pc' := 13) dX6_in_9 rfl dX6_in_10 rfl (by decide) (fun c_10 => ?_) (fun c_10 => ?_)
    · refine WG.iconst (v := 0) (pc' := 18) dX6_in_17 rfl rfl ?_
      refine WG.ireturn dX6_in_18 rfl (by first | rfl | decide) ?_
      exact ⟨by first | (rw [zb_t (by grind)]; done) | (rw [zb_f (by grind)]; done), rfl⟩
    · refine WG.iconst (v := 1) (pc' := 14) dX6_in_13 rfl rfl ?_
      refine WG.goto (tgt := 18) dX6_in_14 (by decide) ?_
      refine WG.ireturn dX6_in_18 rfl (by first | rfl | decide) ?_
      exact ⟨by first | (rw [zb_t (by grind)]; done) | (rw [zb_f (by grind)]; done), rfl⟩
set_option maxHeartbeats 4000000 in
set_option maxRecDepth 100000 in
theorem c_X6_many {h : zH} {n : Nat} {f : zf} (hG : RG 88 0 n f h) : K_X6_many [.ref 86] h (zD (some (.int (nI n))) h) := by
  refine CT.of rfl rfl (Nat.le_of_ble_eq_true rfl) rfl ?_
  refine WG.aload_n (pc' := 1) dX6_many_0 rfl rfl ?_
  refine WG.getR (r := 88) f_X6_23 (pc' := 4) dX6_many_1 rfl rfl rfl rfl ?_
  refine WG.bipush (v := 40) (pc' := 6) dX6_many_4 rfl rfl ?_
  refine WG.ialoadN (j := 40) (pc' := 7) dX6_many_6 rfl rfl rfl (by decide) (by first | decide | omega) ?_
  refine WG.ireturn dX6_many_7 rfl (by first | rfl | decide) ?_
  exact ⟨by rw [← hG.2.1], rfl⟩
set_option maxHeartbeats 4000000 in
set_option maxRecDepth 100000 in
theorem c_X6_isSide {h : zH} {n : Nat} {f : zf} (hG : RG 88 0 n f h) (x : Int32) : K_X6_isSide [.ref 86, .int x] h (zD (some (.int (zb (zsd n x)))) h) := by
  have hn := hG.1
  refine CT.of rfl rfl (Nat.le_of_ble_eq_true rfl) rfl ?_
  refine WG.iload_n (pc' := 1) dX6_isSide_0 rfl rfl ?_
  refine WG.i2l (pc' := 2) dX6_isSide_1 rfl ?_
  refine WG.lconst (v := 0) (pc' := 3) dX6_isSide_2 rfl rfl ?_
  refine WG.aload_n (pc' := 4) dX6_isSide_3 rfl rfl ?_
  refine WG.callVd (c_X6_many hG) m_X6_63 b_X6_many rfl rfl rfl (zrk_of rfl) rfl (Nat.le_of_ble_eq_true rfl) dX6_isSide_4 (pc' := 7) rfl ?_
  refine WG.iconst (v := 1) (pc' := 8) dX6_isSide_7 rfl rfl ?_
  refine WG.isub (pc' := 9) dX6_isSide_8 rfl ?_
  refine WG.i2l (pc' := 10) dX6_isSide_9 rfl ?_
  refine WG.callSd (c_X6_in _ _ _ _) m_X6_67 b_X6_in rfl (zrk_of rfl) rfl (Nat.le_of_ble_eq_true rfl) dX6_isSide_10 (pc' := 13) rfl ?_
  refine WG.ireturn dX6_isSide_13 rfl (zb_n _) ?_
  exact ⟨by rw [zb_i (zin_iff (by omega) x)], rfl⟩
theorem zi5 (i j : Nat) : (5 : Int32) * nI i + nI j = nI (5 * i + j) := by rw [show (5 : Int32) = nI 5 from rfl, pk_mul, nI_add]
set_option maxHeartbeats 4000000 in
set_option maxRecDepth 100000 in
theorem c_X6_at {h : zH} {n i : Nat} {f : zf} (hG : RG 88 0 n f h) (hi : i < n) (j : Nat) (hj : j < 5) : K_X6_at [.ref 86, .int (nI i), .int (nI j)] h (zD (some (.int (f i j))) h) := by
  have hn := hG.1
  refine CT.of rfl rfl (Nat.le_of_ble_eq_true rfl) rfl ?_
  refine WG.aload_n (pc' := 1) dX6_at_0 rfl rfl ?_
  refine WG.getR (r := 88) f_X6_23 (pc' := 4) dX6_at_1 rfl rfl rfl rfl ?_
  refine WG.iconst (v := 5) (pc' := 5) dX6_at_4 rfl rfl ?_
  refine WG.iload_n (pc' := 6) dX6_at_5 rfl rfl ?_
  refine WG.imul (pc' := 7) dX6_at_6 rfl ?_
  refine WG.iload_n (pc' := 8) dX6_at_7 rfl rfl ?_
  refine WG.iadd (pc' := 9) dX6_at_8 rfl ?_
  refine WG.ialoadN (j := 5 * i + j) (pc' := 10) dX6_at_9 rfl rfl (zi5 i j) (by omega) (by first | decide | omega) ?_
  refine WG.ireturn dX6_at_10 rfl (by first | rfl | decide) ?_
  exact ⟨by have := hG.2.2 i hi j hj; rw [Nat.zero_add] at this; rw [this], rfl⟩
theorem z0s (x : Int32) : 0 - x = -x := by grind
set_option maxHeartbeats 4000000 in
set_option maxRecDepth 100000 in
theorem c_X6_size (h : zH) (x : Int32) : K_X6_size [.int x] h (zD (some (.int (zabs x))) h) := by
  refine CT.of rfl rfl (Nat.le_of_ble_eq_true rfl) rfl ?_
  refine WG.iload_n (pc' := 1) dX6_size_0 rfl rfl ?_
  refine WG.if_ge (tgt := 9) (pc' := 4) dX6_size_1 rfl (by decide) (fun c_1 => ?_) (fun c_1 => ?_)
  · refine WG.iload_n (pc' := 10) dX6_size_9 rfl rfl ?_
    refine WG.ireturn dX6_size_10 rfl (by first | rfl | decide) ?_
    exact ⟨by unfold zabs; first | rw [if_pos (by assumption)] | rw [if_neg (by assumption), z0s], rfl⟩
  · refine WG.iload_n (pc' := 5) dX6_size_4 rfl rfl ?_
    refine WG.ineg (pc' := 6) dX6_size_5 rfl ?_
    refine WG.goto (tgt := 10) dX6_size_6 (by decide) ?_
    refine WG.ireturn dX6_size_10 rfl (by first | rfl | decide) ?_
    exact ⟨by unfold zabs; first | rw [if_pos (by assumption)] | rw [if_neg (by assumption), z0s], rfl⟩
set_option maxHeartbeats 4000000 in
set_option maxRecDepth 100000 in
theorem c_X6_stretchOf (h : zH) (kd fg : Int32) : K_X6_stretchOf [.int kd, .int fg] h (zD (some (.int (zst kd fg))) h) := by
  refine CT.of rfl rfl (Nat.le_of_ble_eq_true rfl) rfl ?_
  refine WG.iload_n (pc' := 1) dX6_stretchOf_0 rfl rfl ?_
  refine WG.iconst (v := 1) (pc' := 2) dX6_stretchOf_1 rfl rfl ?_
  refine WG.icmp_eq (tgt := 10) (pc' := 5) dX6_stretchOf_2 rfl (by decide) (fun c_2 => ?_) (fun c_2 => ?_)
  · refine WG.bipush (v := 10) (pc' := 12) dX6_stretchOf_10 rfl rfl ?_
    refine WG.iload_n (pc' := 13) dX6_stretchOf_12 rfl rfl ?_
    refine WG.iadd (pc' := 14) dX6_stretchOf_13 rfl ?_
    refine WG.goto (tgt := 31) dX6_stretchOf_14 (by decide) ?_
    refine WG.ireturn dX6_stretchOf_31 rfl (by first | rfl | decide) ?_
    exact ⟨by unfold zst; grind, rfl⟩
  · refine WG.iload_n (pc' := 6) dX6_stretchOf_5 rfl rfl ?_
    refine WG.iconst (v := 3) (pc' := 7) dX6_stretchOf_6 rfl rfl ?_
    refine WG.icmp_ne (tgt := 17) (pc' := 10) dX6_stretchOf_7 rfl (by decide) (fun c_7 => ?_) (fun c_7 => ?_)
    · refine WG.iload_n (pc' := 18) dX6_stretchOf_17 rfl rfl ?_
      refine WG.iconst (v := 5) (pc' := 19) dX6_stretchOf_18 rfl rfl ?_
      refine WG.icmp_ne (tgt := 29) (pc' := 22) dX6_stretchOf_19 rfl (by decide) (fun c_19 => ?_) (fun c_19 => ?_)
      · refine WG.bipush (v := 10) (pc' := 31) dX6_stretchOf_29 rfl rfl ?_
        refine WG.ireturn dX6_stretchOf_31 rfl (by first | rfl | decide) ?_
        exact ⟨by unfold zst; grind, rfl⟩
      · refine WG.bipush (v := 10) (pc' := 24) dX6_stretchOf_22 rfl rfl ?_
        refine WG.iload_n (pc' := 25) dX6_stretchOf_24 rfl rfl ?_
        refine WG.isub (pc' := 26) dX6_stretchOf_25 rfl ?_
        refine WG.goto (tgt := 31) dX6_stretchOf_26 (by decide) ?_
        refine WG.ireturn dX6_stretchOf_31 rfl (by first | rfl | decide) ?_
        exact ⟨by unfold zst; grind, rfl⟩
    · refine WG.bipush (v := 10) (pc' := 12) dX6_stretchOf_10 rfl rfl ?_
      refine WG.iload_n (pc' := 13) dX6_stretchOf_12 rfl rfl ?_
      refine WG.iadd (pc' := 14) dX6_stretchOf_13 rfl ?_
      refine WG.goto (tgt := 31) dX6_stretchOf_14 (by decide) ?_
      refine WG.ireturn dX6_stretchOf_31 rfl (by first | rfl | decide) ?_
      exact ⟨by unfold zst; grind, rfl⟩
set_option maxHeartbeats 4000000 in
set_option maxRecDepth 100000 in
theorem c_X6_weightOf (h : zH) (kd t e n : Int32) : K_X6_weightOf [.int kd, .int t, .int e, .int n] h (zD (some (.int (zwt kd e n t))) h) := by
  refine CT.of rfl rfl (Nat.le_of_ble_eq_true rfl) rfl ?_
  unfold zwt
  generalize hz : t * (zabs e + zabs n) = z
  refine WG.iload_n (pc' := 1) dX6_weightOf_0 rfl rfl ?_
  refine WG.iload_n (pc' := 2) dX6_weightOf_1 rfl rfl ?_
  refine WG.callSd (c_X6_size h e) m_X6_71 b_X6_size rfl (zrk_of rfl) rfl (Nat.le_of_ble_eq_true rfl) dX6_weightOf_2 (pc' := 5) rfl ?_
  refine WG.iload_n (pc' := 6) dX6_weightOf_5 rfl rfl ?_
  refine WG.callSd (c_X6_size h n) m_X6_71 b_X6_size rfl (zrk_of rfl) rfl (Nat.le_of_ble_eq_true rfl) dX6_weightOf_6 (pc' := 9) rfl ?_
  refine WG.iadd (pc' := 10) dX6_weightOf_9 rfl ?_
  refine WG.imul (pc' := 11) dX6_weightOf_10 rfl ?_
  rw [hz]
  refine WG.istore (L' := [_, _, _, _, _]) (pc' := 13) dX6_weightOf_11 rfl (by decide) rfl ?_
  refine WG.iload_n (pc' := 14) dX6_weightOf_13 rfl rfl ?_
  refine WG.iconst (v := 4) (pc' := 15) dX6_weightOf_14 rfl rfl ?_
  refine WG.icmp_ne (tgt := 20) (pc' := 18) dX6_weightOf_15 rfl (by decide) (fun c_15 => ?_) (fun c_15 => ?_)
  · refine WG.iload_n (pc' := 21) dX6_weightOf_20 rfl rfl ?_
    refine WG.iconst (v := 2) (pc' := 22) dX6_weightOf_21 rfl rfl ?_
    refine WG.icmp_eq (tgt := 30) (pc' := 25) dX6_weightOf_22 rfl (by decide) (fun c_22 => ?_) (fun c_22 => ?_)
    · refine WG.iconst (v := 2) (pc' := 31) dX6_weightOf_30 rfl rfl ?_
      refine WG.iload (pc' := 33) dX6_weightOf_31 rfl rfl ?_
      refine WG.imul (pc' := 34) dX6_weightOf_33 rfl ?_
      refine WG.ireturn dX6_weightOf_34 rfl (by first | rfl | decide) ?_
      exact ⟨by clear hz; grind, rfl⟩
    · refine WG.iload_n (pc' := 26) dX6_weightOf_25 rfl rfl ?_
      refine WG.iconst (v := 5) (pc' := 27) dX6_weightOf_26 rfl rfl ?_
      refine WG.icmp_ne (tgt := 35) (pc' := 30) dX6_weightOf_27 rfl (by decide) (fun c_27 => ?_) (fun c_27 => ?_)
      · refine WG.iload_n (pc' := 36) dX6_weightOf_35 rfl rfl ?_
        refine WG.iconst (v := 3) (pc' := 37) dX6_weightOf_36 rfl rfl ?_
        refine WG.icmp_ne (tgt := 51) (pc' := 40) dX6_weightOf_37 rfl (by decide) (fun c_37 => ?_) (fun c_37 => ?_)
        · refine WG.iload (pc' := 53) dX6_weightOf_51 rfl rfl ?_
          refine WG.ireturn dX6_weightOf_53 rfl (by first | rfl | decide) ?_
          exact ⟨by clear hz; grind, rfl⟩
        · refine WG.iconst (v := 1) (pc' := 41) dX6_weightOf_40 rfl rfl ?_
          refine WG.iload (pc' := 43) dX6_weightOf_41 rfl rfl ?_
          refine WG.iconst (v := 2) (pc' := 44) dX6_weightOf_43 rfl rfl ?_
          refine WG.idiv (pc' := 45) dX6_weightOf_44 rfl (by decide) ?_
          refine WG.mmax m_X6_74 (pc' := 48) dX6_weightOf_45 rfl (Nat.le_of_ble_eq_true rfl) (Nat.le_of_ble_eq_true rfl) (Nat.le_of_ble_eq_true rfl) (Nat.le_of_ble_eq_true rfl) ?_
          refine WG.goto (tgt := 53) dX6_weightOf_48 (by decide) ?_
          refine WG.ireturn dX6_weightOf_53 rfl (by first | rfl | decide) ?_
          exact ⟨by clear hz; grind, rfl⟩
      · refine WG.iconst (v := 2) (pc' := 31) dX6_weightOf_30 rfl rfl ?_
        refine WG.iload (pc' := 33) dX6_weightOf_31 rfl rfl ?_
        refine WG.imul (pc' := 34) dX6_weightOf_33 rfl ?_
        refine WG.ireturn dX6_weightOf_34 rfl (by first | rfl | decide) ?_
        exact ⟨by clear hz; grind, rfl⟩
  · refine WG.iconst (v := 0) (pc' := 19) dX6_weightOf_18 rfl rfl ?_
    refine WG.ireturn dX6_weightOf_19 rfl (by first | rfl | decide) ?_
    exact ⟨by clear hz; grind, rfl⟩
set_option maxHeartbeats 4000000 in
set_option maxRecDepth 100000 in
theorem c_X6_weight {h : zH} {n i : Nat} {f : zf} (hG : RG 88 0 n f h) (hi : i < n) : K_X6_weight [.ref 86, .int (nI i)] h (zD (some (.int (zw f i))) h) := by
  refine CT.of rfl rfl (Nat.le_of_ble_eq_true rfl) rfl ?_
  refine WG.aload_n (pc' := 1) dX6_weight_0 rfl rfl ?_
  refine WG.iload_n (pc' := 2) dX6_weight_1 rfl rfl ?_
  refine WG.iconst (v := 0) (pc' := 3) dX6_weight_2 rfl rfl ?_
  refine WG.callVd (c_X6_at hG hi 0 (by decide)) m_X6_80 b_X6_at rfl rfl rfl (zrk_of rfl) rfl (Nat.le_of_ble_eq_true rfl) dX6_weight_3 (pc' := 6) rfl ?_
  refine WG.aload_n (pc' := 7) dX6_weight_6 rfl rfl ?_
  refine WG.iload_n (pc' := 8) dX6_weight_7 rfl rfl ?_
  refine WG.iconst (v := 4) (pc' := 9) dX6_weight_8 rfl rfl ?_
  refine WG.callVd (c_X6_at hG hi 4 (by decide)) m_X6_80 b_X6_at rfl rfl rfl (zrk_of rfl) rfl (Nat.le_of_ble_eq_true rfl) dX6_weight_9 (pc' := 12) rfl ?_
  refine WG.aload_n (pc' := 13) dX6_weight_12 rfl rfl ?_
  refine WG.iload_n (pc' := 14) dX6_weight_13 rfl rfl ?_
  refine WG.iconst (v := 2) (pc' := 15) dX6_weight_14 rfl rfl ?_
  refine WG.callVd (c_X6_at hG hi 2 (by decide)) m_X6_80 b_X6_at rfl rfl rfl (zrk_of rfl) rfl (Nat.le_of_ble_eq_true rfl) dX6_weight_15 (pc' := 18) rfl ?_
  refine WG.aload_n (pc' := 19) dX6_weight_18 rfl rfl ?_
  refine WG.iload_n (pc' := 20) dX6_weight_19 rfl rfl ?_
  refine WG.iconst (v := 3) (pc' := 21) dX6_weight_20 rfl rfl ?_
  refine WG.callVd (c_X6_at hG hi 3 (by decide)) m_X6_80 b_X6_at rfl rfl rfl (zrk_of rfl) rfl (Nat.le_of_ble_eq_true rfl) dX6_weight_21 (pc' := 24) rfl ?_
  refine WG.callSd (c_X6_weightOf _ _ _ _ _) m_X6_83 b_X6_weightOf rfl (zrk_of rfl) rfl (Nat.le_of_ble_eq_true rfl) dX6_weight_24 (pc' := 27) rfl ?_
  refine WG.ireturn dX6_weight_27 rfl (by first | rfl | decide) ?_
  exact ⟨rfl, rfl⟩
set_option maxHeartbeats 4000000 in
set_option maxRecDepth 100000 in
theorem c_X6_unit {h : zH} {n i a : Nat} {f : zf} (hG : RG 88 0 n f h) (hi : i < n) (ha : a < 2) : K_X6_unit [.ref 86, .int (nI i), .int (nI a)] h (zD (some (.int (zun f i a))) h) := by
  refine CT.of rfl rfl (Nat.le_of_ble_eq_true rfl) rfl ?_
  refine WG.aload_n (pc' := 1) dX6_unit_0 rfl rfl ?_
  refine WG.iload_n (pc' := 2) dX6_unit_1 rfl rfl ?_
  refine WG.iconst (v := 0) (pc' := 3) dX6_unit_2 rfl rfl ?_
  refine WG.callVd (c_X6_at hG hi 0 (by decide)) m_X6_80 b_X6_at rfl rfl rfl (zrk_of rfl) rfl (Nat.le_of_ble_eq_true rfl) dX6_unit_3 (pc' := 6) rfl ?_
  refine WG.aload_n (pc' := 7) dX6_unit_6 rfl rfl ?_
  refine WG.iload_n (pc' := 8) dX6_unit_7 rfl rfl ?_
  refine WG.iconst (v := 1) (pc' := 9) dX6_unit_8 rfl rfl ?_
  refine WG.callVd (c_X6_at hG hi 1 (by decide)) m_X6_80 b_X6_at rfl rfl rfl (zrk_of rfl) rfl (Nat.le_of_ble_eq_true rfl) dX6_unit_9 (pc' := 12) rfl ?_
  refine WG.callSd (c_X6_stretchOf _ _ _) m_X6_87 b_X6_stretchOf rfl (zrk_of rfl) rfl (Nat.le_of_ble_eq_true rfl) dX6_unit_12 (pc' := 15) rfl ?_
  refine WG.aload_n (pc' := 16) dX6_unit_15 rfl rfl ?_
  refine WG.iload_n (pc' := 17) dX6_unit_16 rfl rfl ?_
  refine WG.iconst (v := 2) (pc' := 18) dX6_unit_17 rfl rfl ?_
  refine WG.iload_n (pc' := 19) dX6_unit_18 rfl rfl ?_
  refine WG.iadd (pc' := 20) dX6_unit_19 rfl ?_
  rw [show (2 : Int32) + nI a = nI (2 + a) from nI_add 2 a]
  refine WG.callVd (c_X6_at hG hi (2 + a) (by omega)) m_X6_80 b_X6_at rfl rfl rfl (zrk_of rfl) rfl (Nat.le_of_ble_eq_true rfl) dX6_unit_20 (pc' := 23) rfl ?_
  refine WG.imul (pc' := 24) dX6_unit_23 rfl ?_
  refine WG.ireturn dX6_unit_24 rfl (by first | rfl | decide) ?_
  exact ⟨rfl, rfl⟩
set_option maxHeartbeats 4000000 in
set_option maxRecDepth 100000 in
theorem c_X6_step {h : zH} {n i a : Nat} {f : zf} (hG : RG 88 0 n f h) (hi : i < n) (ha : a < 2) : K_X6_step [.ref 86, .int (nI i), .int (nI a)] h (zD (some (.int (zsp f i a))) h) := by
  refine CT.of rfl rfl (Nat.le_of_ble_eq_true rfl) rfl ?_
  refine WG.aload_n (pc' := 1) dX6_step_0 rfl rfl ?_
  refine WG.iload_n (pc' := 2) dX6_step_1 rfl rfl ?_
  refine WG.iconst (v := 4) (pc' := 3) dX6_step_2 rfl rfl ?_
  refine WG.callVd (c_X6_at hG hi 4 (by decide)) m_X6_80 b_X6_at rfl rfl rfl (zrk_of rfl) rfl (Nat.le_of_ble_eq_true rfl) dX6_step_3 (pc' := 6) rfl ?_
  refine WG.aload_n (pc' := 7) dX6_step_6 rfl rfl ?_
  refine WG.iload_n (pc' := 8) dX6_step_7 rfl rfl ?_
  refine WG.iload_n (pc' := 9) dX6_step_8 rfl rfl ?_
  refine WG.callVd (c_X6_unit hG hi ha) m_X6_90 b_X6_unit rfl rfl rfl (zrk_of rfl) rfl (Nat.le_of_ble_eq_true rfl) dX6_step_9 (pc' := 12) rfl ?_
  refine WG.imul (pc' := 13) dX6_step_12 rfl ?_
  refine WG.ireturn dX6_step_13 rfl (by first | rfl | decide) ?_
  exact ⟨rfl, rfl⟩
set_option maxHeartbeats 4000000 in
set_option maxRecDepth 100000 in
theorem c_X6_missOf {h : zH} {n a : Nat} {f : zf} (hG : RG 88 0 n f h) (ha : a < 2) : K_X6_missOf [.ref 86, .int (nI a)] h (zD (some (.int (zmf f a n))) h) := by
  have hn := hG.1
  refine CT.of rfl rfl (Nat.le_of_ble_eq_true rfl) rfl ?_
  have loop : ∀ (m i : Nat), i ≤ n → n - i < m → W_X6_missOf (zD (some (.int (zmf f a n))) h) 4 [some (.ref 86), some (.int (nI a)), some (.int (zmf f a i)), some (.int (nI i))] [] h := by
    intro m
    induction m with
    | zero => intro i h1 h2; omega
    | succ m ih =>
      intro i hi hm
      refine WG.iload_n (pc' := 5) dX6_missOf_4 rfl rfl ?_
      refine WG.aload_n (pc' := 6) dX6_missOf_5 rfl rfl ?_
      refine WG.callVd (c_X6_many hG) m_X6_63 b_X6_many rfl rfl rfl (zrk_of rfl) rfl (Nat.le_of_ble_eq_true rfl) dX6_missOf_6 (pc' := 9) rfl ?_
      refine WG.icmp_ge (tgt := 27) (pc' := 12) dX6_missOf_9 rfl (by decide) (fun c_9 => ?_) (fun c_9 => ?_)
      · obtain rfl : i = n := by have := (nI_leI (by omega) (by omega)).mp c_9; omega
        refine WG.iload_n (pc' := 28) dX6_missOf_27 rfl rfl ?_
        refine WG.ireturn dX6_missOf_28 rfl (by first | rfl | decide) ?_
        exact ⟨rfl, rfl⟩
      · have hlt : i < n := by have := mt (nI_leI (a := n) (b := i) (by omega) (by omega)).mpr c_9; omega
        refine WG.iload_n (pc' := 13) dX6_missOf_12 rfl rfl ?_
        refine WG.aload_n (pc' := 14) dX6_missOf_13 rfl rfl ?_
        refine WG.iload_n (pc' := 15) dX6_missOf_14 rfl rfl ?_
        refine WG.iload_n (pc' := 16) dX6_missOf_15 rfl rfl ?_
        refine WG.callVd (c_X6_step hG hlt ha) m_X6_93 b_X6_step rfl rfl rfl (zrk_of rfl) rfl (Nat.le_of_ble_eq_true rfl) dX6_missOf_16 (pc' := 19) rfl ?_
        refine WG.iadd (pc' := 20) dX6_missOf_19 rfl ?_
        refine WG.istore_n (L' := [_, _, _, _]) (pc' := 21) dX6_missOf_20 rfl (by decide) rfl ?_
        refine WG.iinc1 (L' := [_, _, _, _]) (pc' := 24) dX6_missOf_21 rfl rfl (by decide) rfl ?_
        refine WG.goto (tgt := 4) dX6_missOf_24 (by decide) ?_
        have q := ih (i + 1) hlt (by omega)
        rw [nI_succ] at q
        exact q
  refine WG.iconst (v := 0) (pc' := 1) dX6_missOf_0 rfl rfl ?_
  refine WG.istore_n (L' := [_, _, _, _]) (pc' := 2) dX6_missOf_1 rfl (by decide) rfl ?_
  refine WG.iconst (v := 0) (pc' := 3) dX6_missOf_2 rfl rfl ?_
  refine WG.istore_n (L' := [_, _, _, _]) (pc' := 4) dX6_missOf_3 rfl (by decide) rfl ?_
  exact loop (n + 1) 0 (by omega) (by omega)
set_option maxHeartbeats 4000000 in
set_option maxRecDepth 100000 in
theorem c_X6_allWeights {h : zH} {n : Nat} {f : zf} (hG : RG 88 0 n f h) : K_X6_allWeights [.ref 86] h (zD (some (.int (zsum (zw f) n))) h) := by
  have hn := hG.1
  refine CT.of rfl rfl (Nat.le_of_ble_eq_true rfl) rfl ?_
  have loop : ∀ (m i : Nat), i ≤ n → n - i < m → W_X6_allWeights (zD (some (.int (zsum (zw f) n))) h) 4 [some (.ref 86), some (.int (zsum (zw f) i)), some (.int (nI i))] [] h := by
    intro m
    induction m with
    | zero => intro i h1 h2; omega
    | succ m ih =>
      intro i hi hm
      refine WG.iload_n (pc' := 5) dX6_allWeights_4 rfl rfl ?_
      refine WG.aload_n (pc' := 6) dX6_allWeights_5 rfl rfl ?_
      refine WG.callVd (c_X6_many hG) m_X6_63 b_X6_many rfl rfl rfl (zrk_of rfl) rfl (Nat.le_of_ble_eq_true rfl) dX6_allWeights_6 (pc' := 9) rfl ?_
      refine WG.icmp_ge (tgt := 26) (pc' := 12) dX6_allWeights_9 rfl (by decide) (fun c_9 => ?_) (fun c_9 => ?_)
      · obtain rfl : i = n := by have := (nI_leI (by omega) (by omega)).mp c_9; omega
        refine WG.iload_n (pc' := 27) dX6_allWeights_26 rfl rfl ?_
        refine WG.ireturn dX6_allWeights_27 rfl (by first | rfl | decide) ?_
        exact ⟨rfl, rfl⟩
      · have hlt : i < n := by have := mt (nI_leI (a := n) (b := i) (by omega) (by omega)).mpr c_9; omega
        refine WG.iload_n (pc' := 13) dX6_allWeights_12 rfl rfl ?_
        refine WG.aload_n (pc' := 14) dX6_allWeights_13 rfl rfl ?_
        refine WG.iload_n (pc' := 15) dX6_allWeights_14 rfl rfl ?_
        refine WG.callVd (c_X6_weight hG hlt) m_X6_96 b_X6_weight rfl rfl rfl (zrk_of rfl) rfl (Nat.le_of_ble_eq_true rfl) dX6_allWeights_15 (pc' := 18) rfl ?_
        refine WG.iadd (pc' := 19) dX6_allWeights_18 rfl ?_
        refine WG.istore_n (L' := [_, _, _]) (pc' := 20) dX6_allWeights_19 rfl (by decide) rfl ?_
        refine WG.iinc1 (L' := [_, _, _]) (pc' := 23) dX6_allWeights_20 rfl rfl (by decide) rfl ?_
        refine WG.goto (tgt := 4) dX6_allWeights_23 (by decide) ?_
        have q := ih (i + 1) hlt (by omega)
        rw [nI_succ] at q
        exact q
  refine WG.iconst (v := 0) (pc' := 1) dX6_allWeights_0 rfl rfl ?_
  refine WG.istore_n (L' := [_, _, _]) (pc' := 2) dX6_allWeights_1 rfl (by decide) rfl ?_
  refine WG.iconst (v := 0) (pc' := 3) dX6_allWeights_2 rfl rfl ?_
  refine WG.istore_n (L' := [_, _, _]) (pc' := 4) dX6_allWeights_3 rfl (by decide) rfl ?_
  exact loop (n + 1) 0 (by omega) (by omega)
set_option maxHeartbeats 4000000 in
set_option maxRecDepth 100000 in
theorem c_X6_copies {h : zH} {o1 b1 o2 b2 n1 n2 : Nat} (s1 : zSH[o1]? = some (.inr (0, n1))) (s2 : zSH[o2]? = some (.inr (0, n2))) (hne : o1 ≠ o2) (l1 : b1 + 41 ≤ n1) (l2 : b2 + 41 ≤ n2) (m1 : n1 < 1000) (m2 : n2 < 1000) :
    K_X6_copies [.ref o1, .int (nI b1), .ref o2, .int (nI b2)] h (fun r h' => r = none ∧ (∀ p, h'.1 o2 p = if b2 ≤ p ∧ p < b2 + 41 then h.1 o1 (b1 + (p - b2)) else h.1 o2 p) ∧ zFr (fun o => o = o2) h h') := by
  refine CT.of rfl rfl (Nat.le_of_ble_eq_true rfl) rfl ?_
  have loop : ∀ (m i : Nat) (h1 : zH), i ≤ 41 → 41 - i < m → (∀ p, h1.1 o2 p = if b2 ≤ p ∧ p < b2 + i then h.1 o1 (b1 + (p - b2)) else h.1 o2 p) → zFr (fun o => o = o2) h h1 →
      W_X6_copies (fun r h' => r = none ∧ (∀ p, h'.1 o2 p = if b2 ≤ p ∧ p < b2 + 41 then h.1 o1 (b1 + (p - b2)) else h.1 o2 p) ∧ zFr (fun o => o = o2) h h') 3 [some (.ref o1), some (.int (nI b1)), some (.ref o2), some (.int (nI b2)), some (.int (nI i))] [] h1 := by
    intro m
    induction m with
    | zero => intro i h1 a b; omega
    | succ m ih =>
      intro i h1 hi hm g gf
      refine WG.iload (pc' := 5) dX6_copies_3 rfl rfl ?_
      refine WG.bipush (v := 41) (pc' := 7) dX6_copies_5 rfl rfl ?_
      refine WG.icmp_ge (tgt := 28) (pc' := 10) dX6_copies_7 rfl (by decide) (fun c_7 => ?_) (fun c_7 => ?_)
      · obtain rfl : i = 41 := by have := (nI_leI (a := 41) (b := i) (by omega) (by omega)).mp c_7; omega
        refine WG.vreturn dX6_copies_28 rfl ?_
        exact ⟨rfl, g, gf⟩
      · have hlt : i < 41 := by have := mt (nI_leI (a := 41) (b := i) (by omega) (by omega)).mpr c_7; omega
        refine WG.aload_n (pc' := 11) dX6_copies_10 rfl rfl ?_
        refine WG.iload_n (pc' := 12) dX6_copies_11 rfl rfl ?_
        refine WG.iload (pc' := 14) dX6_copies_12 rfl rfl ?_
        refine WG.iadd (pc' := 15) dX6_copies_14 rfl ?_
        refine WG.aload_n (pc' := 16) dX6_copies_15 rfl rfl ?_
        refine WG.iload_n (pc' := 17) dX6_copies_16 rfl rfl ?_
        refine WG.iload (pc' := 19) dX6_copies_17 rfl rfl ?_
        refine WG.iadd (pc' := 20) dX6_copies_19 rfl ?_
        refine WG.ialoadN (j := b1 + i) (pc' := 21) dX6_copies_20 rfl (by first | rfl | assumption) (nI_add b1 i) (by omega) (by first | decide | omega) ?_
        refine WG.iastoreN (j := b2 + i) (pc' := 22) dX6_copies_21 rfl (by first | rfl | assumption) (nI_add b2 i) (by omega) (by first | decide | omega) ?_
        refine WG.iinc1 (L' := [_, _, _, _, _]) (pc' := 25) dX6_copies_22 rfl rfl (by decide) rfl ?_
        refine WG.goto (tgt := 3) dX6_copies_25 (by decide) ?_
        rw [nI_1]
        refine ih (i + 1) _ (by omega) (by omega) (fun p => ?_) (gf.I rfl)
        rw [zI_1, g p, show h1.1 o1 = h.1 o1 from gf.1 o1 hne]
        by_cases c : p = b2 + i
        · rw [if_pos ⟨rfl, c⟩, if_pos (by omega), c, show b2 + i - b2 = i by omega]
        · rw [if_neg (fun q => c q.2)]
          by_cases c3 : b2 ≤ p ∧ p < b2 + i
          · rw [if_pos c3, if_pos (by omega)]
          · rw [if_neg c3, if_neg (by omega)]
  refine WG.iconst (v := 0) (pc' := 1) dX6_copies_0 rfl rfl ?_
  refine WG.istore (L' := [_, _, _, _, _]) (pc' := 3) dX6_copies_1 rfl (by decide) rfl ?_
  exact loop 42 0 h (by omega) (by omega) (fun p => by rw [if_neg (by omega)]) zFr.rf
theorem RG.cp {o1 b1 o2 b2 n : Nat} {f : zf} {h h' : zH} (hG : RG o1 b1 n f h) (hc : ∀ p, h'.1 o2 p = if b2 ≤ p ∧ p < b2 + 41 then h.1 o1 (b1 + (p - b2)) else h.1 o2 p) : RG o2 b2 n f h' := by
  obtain ⟨a, c, d⟩ := hG
  refine ⟨a, ?_, fun i hi j hj => ?_⟩
  · rw [hc, if_pos (by omega), show b2 + 40 - b2 = 40 by omega]; exact c
  · rw [hc, if_pos (by omega), show b2 + (5 * i + j) - b2 = 5 * i + j by omega]; exact d i hi j hj
