/-! lists -/
def zsL (σ : zA) (l : Nat) (z : zls) : zA := (σ.1, σ.2.1, σ.2.2.1, σ.2.2.2.1, σ.2.2.2.2.1, (fun i => if i = l then z else σ.2.2.2.2.2.1 i), σ.2.2.2.2.2.2)
theorem isR_l {l : Nat} (hl : l < 3) : isR (79 + 2 * l) := by
  simp only [isR, List.mem_cons, List.not_mem_nil, or_false]; omega
theorem RX.setL {σ : zA} {l : Nat} {z : zls} {h h' : zH} (hX : RX σ h) (hl : l < 3) (hR : RR (79 + 2 * l) z h') (hF : zFr (zRg (79 + 2 * l) 2) h h') : RX (zsL σ l z) h' := by
  obtain ⟨a, ⟨nx, b⟩, c, d, e, g, k⟩ := hX
  have w : ∀ o, zRg (79 + 2 * l) 2 o → (79 + 2 * l ≤ o ∧ o < 79 + 2 * l + 2) := fun o q => q
  have np : ∀ o, ¬ (79 + 2 * l ≤ o ∧ o < 79 + 2 * l + 2) → ¬ zRg (79 + 2 * l) 2 o := fun o q y => q (w o y)
  refine ⟨a.fo hF (fun o q => by have := w o q; omega), ⟨nx, b.fo hF (fun o q => by have := w o q; omega)⟩, c.fo hF (np 0 (by omega)) (fun o q => by have := w o q; omega), d.fo hF (np 0 (by omega)) (np 76 (by omega)), e.fo hF (np 0 (by omega)) (np 77 (by omega)), fun j hj => ?_, by rw [hF.1 85 (np 85 (by omega))]; exact k⟩
  show RR (79 + 2 * j) (if j = l then z else σ.2.2.2.2.2.1 j) h'
  by_cases q : j = l
  · rw [if_pos q, q]; exact hR
  · rw [if_neg q]; exact (g j hj).fo hF (fun o y => by have := w o y; omega)
theorem zB_setL {l : Nat} {h h' : zH} (hl : l < 3) (hF : zFr (zRg (79 + 2 * l) 2) h h') : zFr zB1 h h' := hF.mo (fun o z => by obtain ⟨z1, z2⟩ := z; show o < 86; omega)
theorem RM.setQ {σ : zA} {l : Nat} {z : zls} {h h' : zH} (hX : RM σ h) (hQ : RQ l z h') (hF : zFr (fun o => o = 97 ∨ o = 98 ∨ o = 99) h h') (e1 : ∀ p, p ≠ l → h'.1 97 p = h.1 97 p) (e2 : ∀ p, p ≠ l → h'.1 98 p = h.1 98 p) (e3 : ∀ j i, i < 20 → j ≠ l → h'.2 99 (20 * j + i) = h.2 99 (20 * j + i)) : RM (zsL σ l z) h' := by
  obtain ⟨a, b, c, d, e, g, k⟩ := hX
  refine ⟨a.fo hF (by decide), b.fo hF (by decide) (by decide), c.fo hF (by decide) (by decide), d.fo hF (by decide) (by decide), e.fo hF (by decide) (by decide), fun j hj => ?_, by rw [hF.1 87 (by decide)]; exact k⟩
  show RQ j (if j = l then z else σ.2.2.2.2.2.1 j) h'
  by_cases q : j = l
  · rw [if_pos q, q]; exact hQ
  · rw [if_neg q]
    have := g j hj
    revert this
    generalize σ.2.2.2.2.2.1 j = y
    intro hR
    match y, hR with
    | none, hR => show h'.1 97 j = -1; rw [e1 j q]; exact hR
    | some (s, m, gg), hR =>
      obtain ⟨r1, r2, r3, r4, r5⟩ := hR
      exact ⟨r1, r2, by rw [e1 j q]; exact r3, by rw [e2 j q]; exact r4, fun i hi => by rw [e3 j i (by omega) q]; exact r5 i hi⟩
noncomputable def zeLi (l s n : Int32) : Int32 := zes [(¬ zsd 3 l, -1), (¬ (s = 0 ∨ s = 1), -2), (20 < n, -6)]
set_option maxHeartbeats 4000000 in
set_option maxRecDepth 100000 in
theorem x_list {σ : zA} {h : zH} (hX : RX σ h) (l s n : Int32) : K_X5_list [.ref 0, .int l, .int s, .int n] h (zPi RX zB1 h σ (zeLi l s n) (if n < 0 then -14 else 1) (if n < 0 then σ else zsL σ l.toNatClampNeg (some (s, n.toNatClampNeg, fun _ => 0)))) := by
  refine CT.of rfl rfl (Nat.le_of_ble_eq_true rfl) rfl ?_
  refine WG.iload_n (pc' := 1) dX5_list_0 rfl rfl ?_
  refine WG.callSd (c_X5_isList h l) m_X5_245 b_X5_isList rfl (zrk_of rfl) rfl (Nat.le_of_ble_eq_true rfl) dX5_list_1 (pc' := 4) rfl ?_
  refine WG.if_ne (tgt := 13) (pc' := 7) dX5_list_4 rfl (by decide) (fun c_4 => ?_) (fun c_4 => ?_)
  · rw [zb_ne] at c_4
    refine WG.iload_n (pc' := 14) dX5_list_13 rfl rfl ?_
    refine WG.callSd (c_X5_isOneOfTwo h s) m_X5_144 b_X5_isOneOfTwo rfl (zrk_of rfl) rfl (Nat.le_of_ble_eq_true rfl) dX5_list_14 (pc' := 17) rfl ?_
    refine WG.if_ne (tgt := 27) (pc' := 20) dX5_list_17 rfl (by decide) (fun c_17 => ?_) (fun c_17 => ?_)
    · rw [zb_ne] at c_17
      refine WG.iload_n (pc' := 28) dX5_list_27 rfl rfl ?_
      refine WG.bipush (v := 20) (pc' := 30) dX5_list_28 rfl rfl ?_
      refine WG.icmp_le (tgt := 40) (pc' := 33) dX5_list_30 rfl (by decide) (fun c_30 => ?_) (fun c_30 => ?_)
      · have he : zeLi l s n = 0 := (zes_n c_4).trans ((zes_n c_17).trans (zes_f (by grind)))
        refine WG.iload_n (pc' := 41) dX5_list_40 rfl rfl ?_
        refine WG.if_ge (tgt := 47) (pc' := 44) dX5_list_41 rfl (by decide) (fun c_41 => ?_) (fun c_41 => ?_)
        · have hn0 : ¬ n < 0 := by grind
          rw [if_neg hn0, if_neg hn0]
          obtain ⟨j, hj, rfl⟩ := zsd_of (by decide) c_4
          obtain ⟨m, hm, rfl⟩ := nI_of hn0
          have hm20 : m ≤ 20 := (nI_leI (a := m) (b := 20) (by omega) (by omega)).mp c_30
          rw [nI_clamp (show j < 2 ^ 31 by omega), nI_clamp hm]
          have J : ∀ v : Int32, v = s → W_X5_list (zPi RX zB1 h σ (zeLi (nI j) s (nI m)) 1 (zsL σ j (some (s, m, fun _ => 0)))) 63 [some (.ref 0), some (.int (nI j)), some (.int s), some (.int (nI m))] [.int v, .ref (79 + 2 * j)] h := by
            intro v hv
            subst hv
            have hr := isR_l hj
            refine WG.iload_n (pc' := 64) dX5_list_63 rfl rfl ?_
            refine WG.callV (c_X3_become hr hm20 c_17) m_X5_248 b_X3_become (zRo hr) rfl rfl (zrk_of rfl) rfl (Nat.le_of_ble_eq_true rfl) dX5_list_64 (pc' := 67) rfl (fun r_ h_ q_ => ?_)
            obtain ⟨rfl, q1, q2⟩ := q_
            refine WG.iconst (v := 1) (pc' := 68) dX5_list_67 rfl rfl ?_
            refine WG.ireturn dX5_list_68 rfl rfl ?_
            exact zok (hX.setL hj q1 q2) (zB_setL hj q2) he rfl
          refine WG.aload_n (pc' := 48) dX5_list_47 rfl rfl ?_
          refine WG.getR (r := 78) f_X5_63 (pc' := 51) dX5_list_48 rfl rfl rfl rfl ?_
          refine WG.iload_n (pc' := 52) dX5_list_51 rfl rfl ?_
          refine WG.aaloadN (j := j) (r := 79 + 2 * (j)) (pc' := 53) dX5_list_52 rfl (t := 1) (Or.inr rfl) rfl rfl (by omega) (by decide) rfl ?_
          refine WG.iload_n (pc' := 54) dX5_list_53 rfl rfl ?_
          refine WG.iconst (v := 1) (pc' := 55) dX5_list_54 rfl rfl ?_
          refine WG.icmp_ne (tgt := 62) (pc' := 58) dX5_list_55 rfl (by decide) (fun c_55 => ?_) (fun c_55 => ?_)
          · refine WG.iconst (v := 0) (pc' := 63) dX5_list_62 rfl rfl ?_
            first
              | exact J 1 (by assumption)
              | exact J 1 (Eq.symm (by assumption))
              | exact J 0 (by rcases c_17 with q | q; exact q.symm; exact absurd q (by assumption))
          · refine WG.iconst (v := 1) (pc' := 59) dX5_list_58 rfl rfl ?_
            refine WG.goto (tgt := 63) dX5_list_59 (by decide) ?_
            first
              | exact J 1 (by assumption)
              | exact J 1 (Eq.symm (by assumption))
              | exact J 0 (by rcases c_17 with q | q; exact q.symm; exact absurd q (by assumption))
        · refine WG.bipush (v := -14) (pc' := 46) dX5_list_44 rfl rfl ?_
          refine WG.ireturn dX5_list_46 rfl (by first | rfl | decide) ?_
          exact zok (by rw [if_pos (by grind)]; exact hX) zFr.rf he (by rw [if_pos (by grind)])
      · refine WG.aload_n (pc' := 34) dX5_list_33 rfl rfl ?_
        refine WG.bipush (v := -6) (pc' := 36) dX5_list_34 rfl rfl ?_
        refine WG.callVd (c_X5_refuse 6 (by decide)) m_X5_71 b_X5_refuse rfl rfl rfl (zrk_of rfl) rfl (Nat.le_of_ble_eq_true rfl) dX5_list_36 (pc' := 39) rfl ?_
        refine WG.ireturn dX5_list_39 rfl (by first | rfl | decide) ?_
        exact zrX hX zFr.rf (by decide) ((zes_n c_4).trans ((zes_n c_17).trans (zes_t (by grind))))
    · rw [zb_eq] at c_17
      refine WG.aload_n (pc' := 21) dX5_list_20 rfl rfl ?_
      refine WG.bipush (v := -2) (pc' := 23) dX5_list_21 rfl rfl ?_
      refine WG.callVd (c_X5_refuse 2 (by decide)) m_X5_71 b_X5_refuse rfl rfl rfl (zrk_of rfl) rfl (Nat.le_of_ble_eq_true rfl) dX5_list_23 (pc' := 26) rfl ?_
      refine WG.ireturn dX5_list_26 rfl (by first | rfl | decide) ?_
      exact zrX hX zFr.rf (by decide) ((zes_n c_4).trans (zes_t c_17))
  · rw [zb_eq] at c_4
    refine WG.aload_n (pc' := 8) dX5_list_7 rfl rfl ?_
    refine WG.iconst (v := -1) (pc' := 9) dX5_list_8 rfl rfl ?_
    refine WG.callVd (c_X5_refuse 1 (by decide)) m_X5_71 b_X5_refuse rfl rfl rfl (zrk_of rfl) rfl (Nat.le_of_ble_eq_true rfl) dX5_list_9 (pc' := 12) rfl ?_
    refine WG.ireturn dX5_list_12 rfl (by first | rfl | decide) ?_
    exact zrX hX zFr.rf (by decide) (zes_t c_4)
theorem zi20 (l i : Nat) : (20 : Int32) * nI l + nI i = nI (20 * l + i) := by rw [show (20 : Int32) = nI 20 from rfl, pk_mul, nI_add]
set_option maxHeartbeats 4000000 in
set_option maxRecDepth 100000 in
theorem m_list {σ : zA} {h : zH} (hX : RM σ h) (l s n : Int32) : K_X6_list [.ref 86, .int l, .int s, .int n] h (zPi RM zB2 h σ (zeLi l s n) (if n < 0 then -14 else 1) (if n < 0 then σ else zsL σ l.toNatClampNeg (some (s, n.toNatClampNeg, fun _ => 0)))) := by
  refine CT.of rfl rfl (Nat.le_of_ble_eq_true rfl) rfl ?_
  refine WG.iload_n (pc' := 1) dX6_list_0 rfl rfl ?_
  refine WG.callSd (c_X6_isList h l) m_X6_308 b_X6_isList rfl (zrk_of rfl) rfl (Nat.le_of_ble_eq_true rfl) dX6_list_1 (pc' := 4) rfl ?_
  refine WG.if_ne (tgt := 13) (pc' := 7) dX6_list_4 rfl (by decide) (fun c_4 => ?_) (fun c_4 => ?_)
  · rw [zb_ne] at c_4
    refine WG.iload_n (pc' := 14) dX6_list_13 rfl rfl ?_
    refine WG.i2l (pc' := 15) dX6_list_14 rfl ?_
    refine WG.lconst (v := 0) (pc' := 16) dX6_list_15 rfl rfl ?_
    refine WG.lconst (v := 1) (pc' := 17) dX6_list_16 rfl rfl ?_
    refine WG.callSd (c_X6_in _ _ _ _) m_X6_67 b_X6_in rfl (zrk_of rfl) rfl (Nat.le_of_ble_eq_true rfl) dX6_list_17 (pc' := 20) rfl ?_
    refine WG.if_ne (tgt := 30) (pc' := 23) dX6_list_20 rfl (by decide) (fun c_20 => ?_) (fun c_20 => ?_)
    · rw [zb_ne, zin01] at c_20
      refine WG.iload_n (pc' := 31) dX6_list_30 rfl rfl ?_
      refine WG.bipush (v := 20) (pc' := 33) dX6_list_31 rfl rfl ?_
      refine WG.icmp_le (tgt := 43) (pc' := 36) dX6_list_33 rfl (by decide) (fun c_33 => ?_) (fun c_33 => ?_)
      · have he : zeLi l s n = 0 := (zes_n c_4).trans ((zes_n c_20).trans (zes_f (by grind)))
        refine WG.iload_n (pc' := 44) dX6_list_43 rfl rfl ?_
        refine WG.if_ge (tgt := 50) (pc' := 47) dX6_list_44 rfl (by decide) (fun c_44 => ?_) (fun c_44 => ?_)
        · have hn0 : ¬ n < 0 := by grind
          rw [if_neg hn0, if_neg hn0]
          obtain ⟨j, hj, rfl⟩ := zsd_of (by decide) c_4
          obtain ⟨m, hm, rfl⟩ := nI_of hn0
          have hm20 : m ≤ 20 := (nI_leI (a := m) (b := 20) (by omega) (by omega)).mp c_33
          rw [nI_clamp (show j < 2 ^ 31 by omega), nI_clamp hm]
          have loop : ∀ (q k : Nat) (h1 : zH), k ≤ 20 → 20 - k < q → (∀ p, h1.1 97 p = if p = j then s else h.1 97 p) → (∀ p, h1.1 98 p = if p = j then nI m else h.1 98 p) → (∀ p, h1.2 99 p = if 20 * j ≤ p ∧ p < 20 * j + k then 0 else h.2 99 p) → zFr (fun o => o = 97 ∨ o = 98 ∨ o = 99) h h1 → W_X6_list (zPi RM zB2 h σ (zeLi (nI j) s (nI m)) 1 (zsL σ j (some (s, m, fun _ => 0)))) 67 [some (.ref 86), some (.int (nI j)), some (.int s), some (.int (nI m)), some (.int (nI k))] [] h1 := by
            intro q
            induction q with
            | zero => intro k h1 a b; omega
            | succ q ih =>
              intro k h1 hk hq g1 g2 g3 gf
              refine WG.iload (pc' := 69) dX6_list_67 rfl rfl ?_
              refine WG.bipush (v := 20) (pc' := 71) dX6_list_69 rfl rfl ?_
              refine WG.icmp_ge (tgt := 93) (pc' := 74) dX6_list_71 rfl (by decide) (fun c_71 => ?_) (fun c_71 => ?_)
              · have e20 : k = 20 := by have := (nI_leI (a := 20) (b := k) (by omega) (by omega)).mp c_71; omega
                refine WG.iconst (v := 1) (pc' := 94) dX6_list_93 rfl rfl ?_
                refine WG.ireturn dX6_list_94 rfl rfl ?_
                refine zok (hX.setQ (l := j) (z := some (s, m, fun _ => 0)) ⟨hm20, c_20, by rw [g1, if_pos rfl], by rw [g2, if_pos rfl], fun i hi => by rw [g3, if_pos (by omega)]⟩ gf (fun p hp => by rw [g1, if_neg hp]) (fun p hp => by rw [g2, if_neg hp]) (fun a i hi ha => by rw [g3, if_neg (by omega)])) (gf.mo (fun o z => by show 86 ≤ o; omega)) he rfl
              · have hlt : k < 20 := by have := mt (nI_leI (a := 20) (b := k) (by omega) (by omega)).mpr c_71; omega
                refine WG.aload_n (pc' := 75) dX6_list_74 rfl rfl ?_
                refine WG.getR (r := 99) f_X6_57 (pc' := 78) dX6_list_75 rfl rfl rfl rfl ?_
                refine WG.bipush (v := 20) (pc' := 80) dX6_list_78 rfl rfl ?_
                refine WG.iload_n (pc' := 81) dX6_list_80 rfl rfl ?_
                refine WG.imul (pc' := 82) dX6_list_81 rfl ?_
                refine WG.iload (pc' := 84) dX6_list_82 rfl rfl ?_
                refine WG.iadd (pc' := 85) dX6_list_84 rfl ?_
                refine WG.lconst (v := 0) (pc' := 86) dX6_list_85 rfl rfl ?_
                refine WG.lastoreN (j := 20 * j + k) (pc' := 87) dX6_list_86 rfl rfl (zi20 j k) (by omega) (by decide) ?_
                refine WG.iinc1 (L' := [_, _, _, _, _]) (pc' := 90) dX6_list_87 rfl rfl (by decide) rfl ?_
                refine WG.goto (tgt := 67) dX6_list_90 (by decide) ?_
                rw [nI_1]
                refine ih (k + 1) _ (by omega) (by omega) g1 g2 (fun p => ?_) (gf.L (Or.inr (Or.inr rfl)))
                rw [zL_2, g3]
                by_cases z : p = 20 * j + k
                · rw [if_pos ⟨rfl, z⟩, if_pos (by omega)]
                · rw [if_neg (fun y => z y.2)]
                  by_cases z2 : 20 * j ≤ p ∧ p < 20 * j + k
                  · rw [if_pos z2, if_pos (by omega)]
                  · rw [if_neg z2, if_neg (by omega)]
          refine WG.aload_n (pc' := 51) dX6_list_50 rfl rfl ?_
          refine WG.getR (r := 97) f_X6_51 (pc' := 54) dX6_list_51 rfl rfl rfl rfl ?_
          refine WG.iload_n (pc' := 55) dX6_list_54 rfl rfl ?_
          refine WG.iload_n (pc' := 56) dX6_list_55 rfl rfl ?_
          refine WG.iastoreN (j := j) (pc' := 57) dX6_list_56 rfl rfl rfl (by omega) (by first | decide | omega) ?_
          refine WG.aload_n (pc' := 58) dX6_list_57 rfl rfl ?_
          refine WG.getR (r := 98) f_X6_54 (pc' := 61) dX6_list_58 rfl rfl rfl rfl ?_
          refine WG.iload_n (pc' := 62) dX6_list_61 rfl rfl ?_
          refine WG.iload_n (pc' := 63) dX6_list_62 rfl rfl ?_
          refine WG.iastoreN (j := j) (pc' := 64) dX6_list_63 rfl rfl rfl (by omega) (by first | decide | omega) ?_
          refine WG.iconst (v := 0) (pc' := 65) dX6_list_64 rfl rfl ?_
          refine WG.istore (L' := [_, _, _, _, _]) (pc' := 67) dX6_list_65 rfl (by decide) rfl ?_
          refine loop 21 0 _ (by omega) (by omega) (fun p => ?_) (fun p => ?_) (fun p => by rw [if_neg (by omega)]; rfl) (((zFr.rf (P := fun o => o = 97 ∨ o = 98 ∨ o = 99)).I (Or.inl rfl)).I (Or.inr (Or.inl rfl)))
          · rw [zI_1, if_neg (by omega), zI_1]; by_cases z : p = j; (rw [if_pos ⟨rfl, z⟩, if_pos z]); (rw [if_neg (fun y => z y.2), if_neg z])
          · rw [zI_1]; by_cases z : p = j; (rw [if_pos ⟨rfl, z⟩, if_pos z]); (rw [if_neg (fun y => z y.2), if_neg z, zI_1, if_neg (by omega)])
        · refine WG.bipush (v := -14) (pc' := 49) dX6_list_47 rfl rfl ?_
          refine WG.ireturn dX6_list_49 rfl (by first | rfl | decide) ?_
          exact zok (by rw [if_pos (by grind)]; exact hX) zFr.rf he (by rw [if_pos (by grind)])
      · refine WG.aload_n (pc' := 37) dX6_list_36 rfl rfl ?_
        refine WG.bipush (v := -6) (pc' := 39) dX6_list_37 rfl rfl ?_
        refine WG.callVd (c_X6_no 6 (by decide)) m_X6_13 b_X6_no rfl rfl rfl (zrk_of rfl) rfl (Nat.le_of_ble_eq_true rfl) dX6_list_39 (pc' := 42) rfl ?_
        refine WG.ireturn dX6_list_42 rfl (by first | rfl | decide) ?_
        exact zrM hX zFr.rf (by decide) ((zes_n c_4).trans ((zes_n c_20).trans (zes_t (by grind))))
    · rw [zb_eq, zin01] at c_20
      refine WG.aload_n (pc' := 24) dX6_list_23 rfl rfl ?_
      refine WG.bipush (v := -2) (pc' := 26) dX6_list_24 rfl rfl ?_
      refine WG.callVd (c_X6_no 2 (by decide)) m_X6_13 b_X6_no rfl rfl rfl (zrk_of rfl) rfl (Nat.le_of_ble_eq_true rfl) dX6_list_26 (pc' := 29) rfl ?_
      refine WG.ireturn dX6_list_29 rfl (by first | rfl | decide) ?_
      exact zrM hX zFr.rf (by decide) ((zes_n c_4).trans (zes_t c_20))
  · rw [zb_eq] at c_4
    refine WG.aload_n (pc' := 8) dX6_list_7 rfl rfl ?_
    refine WG.iconst (v := -1) (pc' := 9) dX6_list_8 rfl rfl ?_
    refine WG.callVd (c_X6_no 1 (by decide)) m_X6_13 b_X6_no rfl rfl rfl (zrk_of rfl) rfl (Nat.le_of_ble_eq_true rfl) dX6_list_9 (pc' := 12) rfl ?_
    refine WG.ireturn dX6_list_12 rfl (by first | rfl | decide) ?_
    exact zrM hX zFr.rf (by decide) (zes_t c_4)
