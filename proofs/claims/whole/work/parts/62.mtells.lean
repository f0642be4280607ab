/-! tells: the reference's -/
def zFd : Nat → Prop := fun o => o = 88 ∨ o = 90
def zMd (c : Int32) (N : Nat → Int32) (n : Nat) (f : zf) (h : zH) : Option Value → zH → Prop := fun r h' => ∃ v : Int32, r = some (.int v) ∧ zFr zFd h h' ∧ ((v = 0 ∧ zdo c N (n, f) = none ∧ RG 88 0 n f h') ∨ (v = 1 ∧ ∃ S', zdo c N (n, f) = some S' ∧ RG 88 0 S'.1 S'.2 h'))
set_option maxHeartbeats 4000000 in
set_option maxRecDepth 100000 in
theorem m_doS {n : Nat} {f : zf} {M N : Nat → Int32} {h : zH} (hG : RG 88 0 n f h) (hN : h.1 92 = M) (e0 : M 1 = N 0) (e1 : M 2 = N 1) (e2 : M 3 = N 2) (v2 : Option Value) : W_X6_isDone (zMd 115 N n f h) 0 [some (.ref 86), some (.int 115), v2] [] h := by
  have hn := hG.1
  have ed : zdo 115 N (n, f) = if zwS n (N 0) (N 1) (N 2) = 0 then some (n + 1, zins f n (znew (N 0) (N 1) (N 2))) else none := if_pos rfl
  refine WG.aload_n (pc' := 1) dX6_isDone_0 rfl rfl ?_
  refine WG.getR (r := 92) f_X6_35 (pc' := 4) dX6_isDone_1 rfl rfl rfl rfl ?_
  refine WG.iconst (v := 0) (pc' := 5) dX6_isDone_4 rfl rfl ?_
  refine WG.ialoadN (j := 0) (pc' := 6) dX6_isDone_5 rfl rfl rfl (by decide) (by first | decide | omega) ?_
  refine WG.istore_n (L' := [_, _, _]) (pc' := 7) dX6_isDone_6 rfl (by decide) rfl ?_
  refine WG.iload_n (pc' := 8) dX6_isDone_7 rfl rfl ?_
  refine WG.lookupE (v := 115) (tgt := 52) rfl dX6_isDone_8 (by decide) rfl (by decide) ?_
  refine WG.iload_n (pc' := 53) dX6_isDone_52 rfl rfl ?_
  refine WG.bipush (v := 105) (pc' := 55) dX6_isDone_53 rfl rfl ?_
  refine WG.icmp_ne (tgt := 66) (pc' := 58) dX6_isDone_55 rfl (by decide) (fun c_55 => ?_) (fun c_55 => ?_)
  · refine WG.aload_n (pc' := 67) dX6_isDone_66 rfl rfl ?_
    refine WG.aload_n (pc' := 68) dX6_isDone_67 rfl rfl ?_
    refine WG.getR (r := 92) f_X6_35 (pc' := 71) dX6_isDone_68 rfl rfl rfl rfl ?_
    refine WG.iconst (v := 1) (pc' := 72) dX6_isDone_71 rfl rfl ?_
    refine WG.ialoadN (j := 1) (pc' := 73) dX6_isDone_72 rfl rfl rfl (by decide) (by first | decide | omega) ?_
    refine WG.aload_n (pc' := 74) dX6_isDone_73 rfl rfl ?_
    refine WG.getR (r := 92) f_X6_35 (pc' := 77) dX6_isDone_74 rfl rfl rfl rfl ?_
    refine WG.iconst (v := 2) (pc' := 78) dX6_isDone_77 rfl rfl ?_
    refine WG.ialoadN (j := 2) (pc' := 79) dX6_isDone_78 rfl rfl rfl (by decide) (by first | decide | omega) ?_
    refine WG.aload_n (pc' := 80) dX6_isDone_79 rfl rfl ?_
    refine WG.getR (r := 92) f_X6_35 (pc' := 83) dX6_isDone_80 rfl rfl rfl rfl ?_
    refine WG.iconst (v := 3) (pc' := 84) dX6_isDone_83 rfl rfl ?_
    refine WG.ialoadN (j := 3) (pc' := 85) dX6_isDone_84 rfl rfl rfl (by decide) (by first | decide | omega) ?_
    rw [hN, e0, e1, e2]
    refine WG.callVd (c_X6_wrongSide hG) m_X6_112 b_X6_wrongSide rfl rfl rfl (zrk_of rfl) rfl (Nat.le_of_ble_eq_true rfl) dX6_isDone_85 (pc' := 88) rfl ?_
    refine WG.if_eq (tgt := 93) (pc' := 91) dX6_isDone_88 rfl (by decide) (fun c_88 => ?_) (fun c_88 => ?_)
    · refine WG.aload_n (pc' := 94) dX6_isDone_93 rfl rfl ?_
      refine WG.iload_n (pc' := 95) dX6_isDone_94 rfl rfl ?_
      refine WG.bipush (v := 115) (pc' := 97) dX6_isDone_95 rfl rfl ?_
      refine WG.icmp_ne (tgt := 107) (pc' := 100) dX6_isDone_97 rfl (by decide) (fun c_97 => ?_) (fun c_97 => ?_)
      · exact absurd c_97 (by decide)
      · refine WG.aload_n (pc' := 101) dX6_isDone_100 rfl rfl ?_
        refine WG.callVd (c_X6_many hG) m_X6_63 b_X6_many rfl rfl rfl (zrk_of rfl) rfl (Nat.le_of_ble_eq_true rfl) dX6_isDone_101 (pc' := 104) rfl ?_
        refine WG.goto (tgt := 108) dX6_isDone_104 (by decide) ?_
        refine WG.aload_n (pc' := 109) dX6_isDone_108 rfl rfl ?_
        refine WG.getR (r := 92) f_X6_35 (pc' := 112) dX6_isDone_109 rfl rfl rfl rfl ?_
        refine WG.iconst (v := 1) (pc' := 113) dX6_isDone_112 rfl rfl ?_
        refine WG.ialoadN (j := 1) (pc' := 114) dX6_isDone_113 rfl rfl rfl (by decide) (by first | decide | omega) ?_
        refine WG.aload_n (pc' := 115) dX6_isDone_114 rfl rfl ?_
        refine WG.getR (r := 92) f_X6_35 (pc' := 118) dX6_isDone_115 rfl rfl rfl rfl ?_
        refine WG.iconst (v := 2) (pc' := 119) dX6_isDone_118 rfl rfl ?_
        refine WG.ialoadN (j := 2) (pc' := 120) dX6_isDone_119 rfl rfl rfl (by decide) (by first | decide | omega) ?_
        refine WG.aload_n (pc' := 121) dX6_isDone_120 rfl rfl ?_
        refine WG.getR (r := 92) f_X6_35 (pc' := 124) dX6_isDone_121 rfl rfl rfl rfl ?_
        refine WG.iconst (v := 3) (pc' := 125) dX6_isDone_124 rfl rfl ?_
        refine WG.ialoadN (j := 3) (pc' := 126) dX6_isDone_125 rfl rfl rfl (by decide) (by first | decide | omega) ?_
        rw [hN, e0, e1, e2]
        refine WG.callV (c_X6_insertAt hG (zwS_n hn c_88) (Nat.le_refl _)) m_X6_122 b_X6_insertAt rfl rfl rfl (zrk_of rfl) rfl (Nat.le_of_ble_eq_true rfl) dX6_isDone_126 (pc' := 129) rfl (fun r_ h_ q_ => ?_)
        obtain ⟨rfl, hG2, hF2⟩ := q_
        refine WG.iconst (v := 1) (pc' := 130) dX6_isDone_129 rfl rfl ?_
        refine WG.ireturn dX6_isDone_130 rfl (by first | rfl | decide) ?_
        exact ⟨1, rfl, hF2.mo (fun _ z => Or.inl z), Or.inr ⟨rfl, _, by rw [ed, if_pos c_88], hG2⟩⟩
    · refine WG.iconst (v := 0) (pc' := 92) dX6_isDone_91 rfl rfl ?_
      refine WG.ireturn dX6_isDone_92 rfl (by first | rfl | decide) ?_
      exact ⟨0, rfl, zFr.rf, Or.inl ⟨rfl, by rw [ed, if_neg c_88], hG⟩⟩
  · exact absurd c_55 (by decide)
set_option maxHeartbeats 4000000 in
set_option maxRecDepth 100000 in
theorem m_doI {n : Nat} {f : zf} {M N : Nat → Int32} {h : zH} (hG : RG 88 0 n f h) (hN : h.1 92 = M) (e0 : M 0 = N 0) (e1 : M 1 = N 1) (e2 : M 2 = N 2) (e3 : M 3 = N 3) (v2 : Option Value) : W_X6_isDone (zMd 105 N n f h) 0 [some (.ref 86), some (.int 105), v2] [] h := by
  have hn := hG.1
  have ed : zdo 105 N (n, f) = if zwA n (N 0) (N 1) (N 2) (N 3) = 0 then some (n + 1, zins f (N 0).toNatClampNeg (znew (N 1) (N 2) (N 3))) else none := (if_neg (by decide)).trans (if_pos rfl)
  have ea : zwA n (N 0) (N 1) (N 2) (N 3) = if ¬ N 0 < 0 ∧ N 0 < nI n then zwS n (N 1) (N 2) (N 3) else -1 := rfl
  refine WG.aload_n (pc' := 1) dX6_isDone_0 rfl rfl ?_
  refine WG.getR (r := 92) f_X6_35 (pc' := 4) dX6_isDone_1 rfl rfl rfl rfl ?_
  refine WG.iconst (v := 0) (pc' := 5) dX6_isDone_4 rfl rfl ?_
  refine WG.ialoadN (j := 0) (pc' := 6) dX6_isDone_5 rfl rfl rfl (by decide) (by first | decide | omega) ?_
  rw [hN, e0]
  refine WG.istore_n (L' := [_, _, _]) (pc' := 7) dX6_isDone_6 rfl (by decide) rfl ?_
  refine WG.iload_n (pc' := 8) dX6_isDone_7 rfl rfl ?_
  refine WG.lookupE (v := 105) (tgt := 52) rfl dX6_isDone_8 (by decide) rfl (by decide) ?_
  refine WG.iload_n (pc' := 53) dX6_isDone_52 rfl rfl ?_
  refine WG.bipush (v := 105) (pc' := 55) dX6_isDone_53 rfl rfl ?_
  refine WG.icmp_ne (tgt := 66) (pc' := 58) dX6_isDone_55 rfl (by decide) (fun c_55 => ?_) (fun c_55 => ?_)
  · exact absurd c_55 (by decide)
  · refine WG.aload_n (pc' := 59) dX6_isDone_58 rfl rfl ?_
    refine WG.iload_n (pc' := 60) dX6_isDone_59 rfl rfl ?_
    refine WG.callVd (c_X6_isSide hG _) m_X6_106 b_X6_isSide rfl rfl rfl (zrk_of rfl) rfl (Nat.le_of_ble_eq_true rfl) dX6_isDone_60 (pc' := 63) rfl ?_
    refine WG.if_eq (tgt := 91) (pc' := 66) dX6_isDone_63 rfl (by decide) (fun c_63 => ?_) (fun c_63 => ?_)
    · rw [zb_eq] at c_63
      have bad : ¬ zwA n (N 0) (N 1) (N 2) (N 3) = 0 := fun z => c_63 (zwA_0 z).1
      refine WG.iconst (v := 0) (pc' := 92) dX6_isDone_91 rfl rfl ?_
      refine WG.ireturn dX6_isDone_92 rfl (by first | rfl | decide) ?_
      exact ⟨0, rfl, zFr.rf, Or.inl ⟨rfl, by rw [ed, if_neg bad], hG⟩⟩
    · rw [zb_nn] at c_63
      rw [if_pos (show ¬ N 0 < 0 ∧ N 0 < nI n from c_63)] at ea
      obtain ⟨j, hj, ej⟩ := zsd_of (by omega) c_63
      refine WG.aload_n (pc' := 67) dX6_isDone_66 rfl rfl ?_
      refine WG.aload_n (pc' := 68) dX6_isDone_67 rfl rfl ?_
      refine WG.getR (r := 92) f_X6_35 (pc' := 71) dX6_isDone_68 rfl rfl rfl rfl ?_
      refine WG.iconst (v := 1) (pc' := 72) dX6_isDone_71 rfl rfl ?_
      refine WG.ialoadN (j := 1) (pc' := 73) dX6_isDone_72 rfl rfl rfl (by decide) (by first | decide | omega) ?_
      refine WG.aload_n (pc' := 74) dX6_isDone_73 rfl rfl ?_
      refine WG.getR (r := 92) f_X6_35 (pc' := 77) dX6_isDone_74 rfl rfl rfl rfl ?_
      refine WG.iconst (v := 2) (pc' := 78) dX6_isDone_77 rfl rfl ?_
      refine WG.ialoadN (j := 2) (pc' := 79) dX6_isDone_78 rfl rfl rfl (by decide) (by first | decide | omega) ?_
      refine WG.aload_n (pc' := 80) dX6_isDone_79 rfl rfl ?_
      refine WG.getR (r := 92) f_X6_35 (pc' := 83) dX6_isDone_80 rfl rfl rfl rfl ?_
      refine WG.iconst (v := 3) (pc' := 84) dX6_isDone_83 rfl rfl ?_
      refine WG.ialoadN (j := 3) (pc' := 85) dX6_isDone_84 rfl rfl rfl (by decide) (by first | decide | omega) ?_
      rw [hN, e1, e2, e3]
      refine WG.callVd (c_X6_wrongSide hG) m_X6_112 b_X6_wrongSide rfl rfl rfl (zrk_of rfl) rfl (Nat.le_of_ble_eq_true rfl) dX6_isDone_85 (pc' := 88) rfl ?_
      refine WG.if_eq (tgt := 93) (pc' := 91) dX6_isDone_88 rfl (by decide) (fun c_88 => ?_) (fun c_88 => ?_)
      · refine WG.aload_n (pc' := 94) dX6_isDone_93 rfl rfl ?_
        refine WG.iload_n (pc' := 95) dX6_isDone_94 rfl rfl ?_
        refine WG.bipush (v := 115) (pc' := 97) dX6_isDone_95 rfl rfl ?_
        refine WG.icmp_ne (tgt := 107) (pc' := 100) dX6_isDone_97 rfl (by decide) (fun c_97 => ?_) (fun c_97 => ?_)
        · refine WG.iload_n (pc' := 108) dX6_isDone_107 rfl rfl ?_
          refine WG.aload_n (pc' := 109) dX6_isDone_108 rfl rfl ?_
          refine WG.getR (r := 92) f_X6_35 (pc' := 112) dX6_isDone_109 rfl rfl rfl rfl ?_
          refine WG.iconst (v := 1) (pc' := 113) dX6_isDone_112 rfl rfl ?_
          refine WG.ialoadN (j := 1) (pc' := 114) dX6_isDone_113 rfl rfl rfl (by decide) (by first | decide | omega) ?_
          refine WG.aload_n (pc' := 115) dX6_isDone_114 rfl rfl ?_
          refine WG.getR (r := 92) f_X6_35 (pc' := 118) dX6_isDone_115 rfl rfl rfl rfl ?_
          refine WG.iconst (v := 2) (pc' := 119) dX6_isDone_118 rfl rfl ?_
          refine WG.ialoadN (j := 2) (pc' := 120) dX6_isDone_119 rfl rfl rfl (by decide) (by first | decide | omega) ?_
          refine WG.aload_n (pc' := 121) dX6_isDone_120 rfl rfl ?_
          refine WG.getR (r := 92) f_X6_35 (pc' := 124) dX6_isDone_121 rfl rfl rfl rfl ?_
          refine WG.iconst (v := 3) (pc' := 125) dX6_isDone_124 rfl rfl ?_
          refine WG.ialoadN (j := 3) (pc' := 126) dX6_isDone_125 rfl rfl rfl (by decide) (by first | decide | omega) ?_
          rw [hN, e1, e2, e3, ej]
          refine WG.callV (c_X6_insertAt hG (zwS_n hn c_88) (show j ≤ n by omega)) m_X6_122 b_X6_insertAt rfl rfl rfl (zrk_of rfl) rfl (Nat.le_of_ble_eq_true rfl) dX6_isDone_126 (pc' := 129) rfl (fun r_ h_ q_ => ?_)
          obtain ⟨rfl, hG2, hF2⟩ := q_
          refine WG.iconst (v := 1) (pc' := 130) dX6_isDone_129 rfl rfl ?_
          refine WG.ireturn dX6_isDone_130 rfl (by first | rfl | decide) ?_
          exact ⟨1, rfl, hF2.mo (fun _ z => Or.inl z), Or.inr ⟨rfl, _, by rw [ed, if_pos (ea.trans c_88)], by rw [ej, nI_clamp (show j < 2 ^ 31 by omega)]; exact hG2⟩⟩
        · exact absurd c_97 (by decide)
      · have bad : ¬ zwA n (N 0) (N 1) (N 2) (N 3) = 0 := fun z => c_88 (ea ▸ z)
        refine WG.iconst (v := 0) (pc' := 92) dX6_isDone_91 rfl rfl ?_
        refine WG.ireturn dX6_isDone_92 rfl (by first | rfl | decide) ?_
        exact ⟨0, rfl, zFr.rf, Or.inl ⟨rfl, by rw [ed, if_neg bad], hG⟩⟩
set_option maxHeartbeats 4000000 in
set_option maxRecDepth 100000 in
theorem m_doK {n : Nat} {f : zf} {M N : Nat → Int32} {h : zH} (hG : RG 88 0 n f h) (hN : h.1 92 = M) (e0 : M 0 = N 0) (e1 : M 1 = N 1) (e2 : M 2 = N 2) (v2 : Option Value) : W_X6_isDone (zMd 107 N n f h) 0 [some (.ref 86), some (.int 107), v2] [] h := by
  have hn := hG.1
  have ed : zdo 107 N (n, f) = if zwK n (N 0) (N 1) (N 2) = 0 then some (n, zkin f (N 0).toNatClampNeg (N 1) (N 2)) else none := (if_neg (by decide)).trans ((if_neg (by decide)).trans (if_pos rfl))
  refine WG.aload_n (pc' := 1) dX6_isDone_0 rfl rfl ?_
  refine WG.getR (r := 92) f_X6_35 (pc' := 4) dX6_isDone_1 rfl rfl rfl rfl ?_
  refine WG.iconst (v := 0) (pc' := 5) dX6_isDone_4 rfl rfl ?_
  refine WG.ialoadN (j := 0) (pc' := 6) dX6_isDone_5 rfl rfl rfl (by decide) (by first | decide | omega) ?_
  rw [hN, e0]
  refine WG.istore_n (L' := [_, _, _]) (pc' := 7) dX6_isDone_6 rfl (by decide) rfl ?_
  refine WG.iload_n (pc' := 8) dX6_isDone_7 rfl rfl ?_
  refine WG.lookupE (v := 107) (tgt := 131) rfl dX6_isDone_8 (by decide) rfl (by decide) ?_
  refine WG.aload_n (pc' := 132) dX6_isDone_131 rfl rfl ?_
  refine WG.iload_n (pc' := 133) dX6_isDone_132 rfl rfl ?_
  refine WG.aload_n (pc' := 134) dX6_isDone_133 rfl rfl ?_
  refine WG.getR (r := 92) f_X6_35 (pc' := 137) dX6_isDone_134 rfl rfl rfl rfl ?_
  refine WG.iconst (v := 1) (pc' := 138) dX6_isDone_137 rfl rfl ?_
  refine WG.ialoadN (j := 1) (pc' := 139) dX6_isDone_138 rfl rfl rfl (by decide) (by first | decide | omega) ?_
  refine WG.aload_n (pc' := 140) dX6_isDone_139 rfl rfl ?_
  refine WG.getR (r := 92) f_X6_35 (pc' := 143) dX6_isDone_140 rfl rfl rfl rfl ?_
  refine WG.iconst (v := 2) (pc' := 144) dX6_isDone_143 rfl rfl ?_
  refine WG.ialoadN (j := 2) (pc' := 145) dX6_isDone_144 rfl rfl rfl (by decide) (by first | decide | omega) ?_
  rw [hN, e1, e2]
  refine WG.callVd (c_X6_wrongKind hG) m_X6_126 b_X6_wrongKind rfl rfl rfl (zrk_of rfl) rfl (Nat.le_of_ble_eq_true rfl) dX6_isDone_145 (pc' := 148) rfl ?_
  refine WG.if_eq (tgt := 153) (pc' := 151) dX6_isDone_148 rfl (by decide) (fun c_148 => ?_) (fun c_148 => ?_)
  · obtain ⟨hsd, -⟩ := zwK_0 c_148
    obtain ⟨j, hj, ej⟩ := zsd_of (by omega) hsd
    refine WG.aload_n (pc' := 154) dX6_isDone_153 rfl rfl ?_
    refine WG.iload_n (pc' := 155) dX6_isDone_154 rfl rfl ?_
    refine WG.aload_n (pc' := 156) dX6_isDone_155 rfl rfl ?_
    refine WG.getR (r := 92) f_X6_35 (pc' := 159) dX6_isDone_156 rfl rfl rfl rfl ?_
    refine WG.iconst (v := 1) (pc' := 160) dX6_isDone_159 rfl rfl ?_
    refine WG.ialoadN (j := 1) (pc' := 161) dX6_isDone_160 rfl rfl rfl (by decide) (by first | decide | omega) ?_
    refine WG.aload_n (pc' := 162) dX6_isDone_161 rfl rfl ?_
    refine WG.getR (r := 92) f_X6_35 (pc' := 165) dX6_isDone_162 rfl rfl rfl rfl ?_
    refine WG.iconst (v := 2) (pc' := 166) dX6_isDone_165 rfl rfl ?_
    refine WG.ialoadN (j := 2) (pc' := 167) dX6_isDone_166 rfl rfl rfl (by decide) (by first | decide | omega) ?_
    rw [hN, e1, e2, ej]
    refine WG.callV (c_X6_becomes hG hj) m_X6_129 b_X6_becomes rfl rfl rfl (zrk_of rfl) rfl (Nat.le_of_ble_eq_true rfl) dX6_isDone_167 (pc' := 170) rfl (fun r_ h_ q_ => ?_)
    obtain ⟨rfl, hG2, hF2⟩ := q_
    refine WG.iconst (v := 1) (pc' := 171) dX6_isDone_170 rfl rfl ?_
    refine WG.ireturn dX6_isDone_171 rfl (by first | rfl | decide) ?_
    exact ⟨1, rfl, hF2.mo (fun _ z => Or.inl z), Or.inr ⟨rfl, _, by rw [ed, if_pos c_148], by rw [ej, nI_clamp (show j < 2 ^ 31 by omega)]; exact hG2⟩⟩
  · refine WG.iconst (v := 0) (pc' := 152) dX6_isDone_151 rfl rfl ?_
    refine WG.ireturn dX6_isDone_152 rfl (by first | rfl | decide) ?_
    exact ⟨0, rfl, zFr.rf, Or.inl ⟨rfl, by rw [ed, if_neg c_148], hG⟩⟩
set_option maxHeartbeats 4000000 in
set_option maxRecDepth 100000 in
theorem m_doD {n : Nat} {f : zf} {M N : Nat → Int32} {h : zH} (hG : RG 88 0 n f h) (hN : h.1 92 = M) (e0 : M 0 = N 0) (v2 : Option Value) : W_X6_isDone (zMd 100 N n f h) 0 [some (.ref 86), some (.int 100), v2] [] h := by
  have hn := hG.1
  have ed : zdo 100 N (n, f) = @ite _ (zsd n (N 0)) (Classical.propDecidable _) (some (n - 1, zdel f (N 0).toNatClampNeg)) none := (if_neg (by decide)).trans ((if_neg (by decide)).trans ((if_neg (by decide)).trans (if_pos rfl)))
  refine WG.aload_n (pc' := 1) dX6_isDone_0 rfl rfl ?_
  refine WG.getR (r := 92) f_X6_35 (pc' := 4) dX6_isDone_1 rfl rfl rfl rfl ?_
  refine WG.iconst (v := 0) (pc' := 5) dX6_isDone_4 rfl rfl ?_
  refine WG.ialoadN (j := 0) (pc' := 6) dX6_isDone_5 rfl rfl rfl (by decide) (by first | decide | omega) ?_
  rw [hN, e0]
  refine WG.istore_n (L' := [_, _, _]) (pc' := 7) dX6_isDone_6 rfl (by decide) rfl ?_
  refine WG.iload_n (pc' := 8) dX6_isDone_7 rfl rfl ?_
  refine WG.lookupE (v := 100) (tgt := 172) rfl dX6_isDone_8 (by decide) rfl (by decide) ?_
  refine WG.aload_n (pc' := 173) dX6_isDone_172 rfl rfl ?_
  refine WG.iload_n (pc' := 174) dX6_isDone_173 rfl rfl ?_
  refine WG.callVd (c_X6_isSide hG _) m_X6_106 b_X6_isSide rfl rfl rfl (zrk_of rfl) rfl (Nat.le_of_ble_eq_true rfl) dX6_isDone_174 (pc' := 177) rfl ?_
  refine WG.if_ne (tgt := 182) (pc' := 180) dX6_isDone_177 rfl (by decide) (fun c_177 => ?_) (fun c_177 => ?_)
  · rw [zb_ne] at c_177
    obtain ⟨j, hj, ej⟩ := zsd_of (by omega) c_177
    obtain ⟨n0, rfl⟩ : ∃ n0, n = n0 + 1 := ⟨n - 1, by omega⟩
    refine WG.aload_n (pc' := 183) dX6_isDone_182 rfl rfl ?_
    refine WG.iload_n (pc' := 184) dX6_isDone_183 rfl rfl ?_
    rw [ej]
    refine WG.callV (c_X6_goneAt hG hj) m_X6_133 b_X6_goneAt rfl rfl rfl (zrk_of rfl) rfl (Nat.le_of_ble_eq_true rfl) dX6_isDone_184 (pc' := 187) rfl (fun r_ h_ q_ => ?_)
    obtain ⟨rfl, hG2, hF2⟩ := q_
    refine WG.iconst (v := 1) (pc' := 188) dX6_isDone_187 rfl rfl ?_
    refine WG.ireturn dX6_isDone_188 rfl (by first | rfl | decide) ?_
    exact ⟨1, rfl, hF2.mo (fun _ z => Or.inl z), Or.inr ⟨rfl, _, by rw [ed, if_pos c_177], by rw [ej, nI_clamp (show j < 2 ^ 31 by omega)]; exact hG2⟩⟩
  · rw [zb_eq] at c_177
    refine WG.iconst (v := 0) (pc' := 181) dX6_isDone_180 rfl rfl ?_
    refine WG.ireturn dX6_isDone_181 rfl (by first | rfl | decide) ?_
    exact ⟨0, rfl, zFr.rf, Or.inl ⟨rfl, by rw [ed, if_neg c_177], hG⟩⟩
set_option maxHeartbeats 4000000 in
set_option maxRecDepth 100000 in
theorem m_doR {n : Nat} {f : zf} {N : Nat → Int32} {h : zH} (hG : RG 88 0 n f h) (v2 : Option Value) : W_X6_isDone (zMd 114 N n f h) 0 [some (.ref 86), some (.int 114), v2] [] h := by
  have hn := hG.1
  have ed : zdo 114 N (n, f) = some (n, zrev f n) := (if_neg (by decide)).trans ((if_neg (by decide)).trans ((if_neg (by decide)).trans (if_neg (by decide))))
  refine WG.aload_n (pc' := 1) dX6_isDone_0 rfl rfl ?_
  refine WG.getR (r := 92) f_X6_35 (pc' := 4) dX6_isDone_1 rfl rfl rfl rfl ?_
  refine WG.iconst (v := 0) (pc' := 5) dX6_isDone_4 rfl rfl ?_
  refine WG.ialoadN (j := 0) (pc' := 6) dX6_isDone_5 rfl rfl rfl (by decide) (by first | decide | omega) ?_
  refine WG.istore_n (L' := [_, _, _]) (pc' := 7) dX6_isDone_6 rfl (by decide) rfl ?_
  refine WG.iload_n (pc' := 8) dX6_isDone_7 rfl rfl ?_
  refine WG.lookupE (v := 114) (tgt := 189) rfl dX6_isDone_8 (by decide) rfl (by decide) ?_
  refine WG.aload_n (pc' := 190) dX6_isDone_189 rfl rfl ?_
  refine WG.getR (r := 88) f_X6_23 (pc' := 193) dX6_isDone_190 rfl rfl rfl rfl ?_
  refine WG.iconst (v := 0) (pc' := 194) dX6_isDone_193 rfl rfl ?_
  refine WG.aload_n (pc' := 195) dX6_isDone_194 rfl rfl ?_
  refine WG.getR (r := 90) f_X6_29 (pc' := 198) dX6_isDone_195 rfl rfl rfl rfl ?_
  refine WG.iconst (v := 0) (pc' := 199) dX6_isDone_198 rfl rfl ?_
  refine WG.callS (c_X6_copies (b1 := 0) (b2 := 0) (o1 := 88) (o2 := 90) rfl rfl (by decide) (by decide) (by decide) (by decide) (by decide)) m_X6_99 b_X6_copies rfl (zrk_of rfl) rfl (Nat.le_of_ble_eq_true rfl) dX6_isDone_199 (pc' := 202) rfl (fun r_ h_ q_ => ?_)
  obtain ⟨rfl, q1, q2⟩ := q_
  have hA := hG.cp q1
  have hG1 := hG.fo q2 (by decide)
  generalize h_ = h1 at *
  refine WG.aload_n (pc' := 203) dX6_isDone_202 rfl rfl ?_
  refine WG.callV (c_X6_turns hG1 hA) m_X6_137 b_X6_turns rfl rfl rfl (zrk_of rfl) rfl (Nat.le_of_ble_eq_true rfl) dX6_isDone_203 (pc' := 206) rfl (fun r_ h_ q_ => ?_)
  obtain ⟨rfl, hG2, hF2⟩ := q_
  refine WG.iconst (v := 1) (pc' := 207) dX6_isDone_206 rfl rfl ?_
  refine WG.ireturn dX6_isDone_207 rfl (by first | rfl | decide) ?_
  exact ⟨1, rfl, (q2.mo (fun _ z => Or.inr z)).tr (hF2.mo (fun _ z => Or.inl z)), Or.inr ⟨rfl, _, ed, hG2⟩⟩
theorem zsc_n {T : zac} {fm : Nat} : ∀ (m p : Nat) (acc : zac), (zsc T fm m p acc).1 = true → (zsc T fm m p acc).2.2.1 = acc.1 + zdc fm m := by
  intro m
  induction m with
  | zero => intro p acc _; rfl
  | succ m ih =>
    intro p acc
    have e2 : zsc T fm (m + 1) p acc = (match zit T (zchr fm (zlen.getD fm 0 - (m + 1))) p with
      | (none, q) => (false, q, acc)
      | (some none, q) => zsc T fm m q acc
      | (some (some v), q) => zsc T fm m q (zap acc v)) := rfl
    have e3 : zdc fm (m + 1) = zdc fm m + (if zchr fm (zlen.getD fm 0 - (m + 1)) = 126 ∨ zchr fm (zlen.getD fm 0 - (m + 1)) = 35 then 1 else 0) := rfl
    rw [e2, e3]
    generalize zchr fm (zlen.getD fm 0 - (m + 1)) = a
    have kind : ((a = 126 ∨ a = 35) → ∀ q, zit T a p ≠ (some none, q)) ∧ (¬ (a = 126 ∨ a = 35) → ∀ q v, zit T a p ≠ (some (some v), q)) := by
      unfold zit
      refine ⟨fun c q w => ?_, fun c q v w => ?_⟩
      · rcases c with rfl | rfl
        · rw [if_pos rfl] at w
          split at w
          · split at w <;> cases w
          · split at w <;> cases w
        · rw [if_neg (by decide), if_pos rfl] at w
          split at w <;> cases w
      · rw [if_neg (fun z => c (Or.inl z)), if_neg (fun z => c (Or.inr z))] at w
        split at w <;> cases w
    generalize zit T a p = w at kind ⊢
    obtain ⟨o, q⟩ := w
    match o, kind with
    | none, _ => exact fun z => absurd z (show ¬ false = true by decide)
    | some none, kind =>
      intro z
      rw [if_neg (fun c => kind.1 c q rfl)]
      exact ih q acc z
    | some (some v), kind =>
      intro z
      rw [if_pos (Classical.byContradiction (fun c => kind.2 c q v rfl))]
      have := ih q (zap acc v) z
      show (zsc T fm m q (zap acc v)).2.2.1 = _
      rw [this]
      show acc.1 + 1 + zdc fm m = _
      omega
theorem zst_n {T : zac} {p : Nat} (h : (zst_ T p).1 = true) : zfo (zlt T p) ≠ 0 ∧ (zst_ T p).2.2.1 = [0, 3, 4, 3, 1, 0].getD (zfo (zlt T p)) 0 := by
  unfold zst_ at h ⊢
  by_cases c : zfo (zlt T p) = 0
  · rw [if_pos c] at h; exact absurd h (show ¬ false = true by decide)
  · rw [if_neg c] at h ⊢
    exact ⟨c, by rw [zsc_n _ _ _ h, zdc4 _ (zfo_lt _)]; exact Nat.zero_add _⟩
set_option maxHeartbeats 4000000 in
set_option maxRecDepth 100000 in
theorem c_X6_isDone {T : zac} {s : zss} {p n : Nat} {f : zf} {h : zH} (hG : RG 88 0 n f h) (hs : RSt T s h) (he : yen T p s) (hok : (zst_ T p).1 = true) : K_X6_isDone [.ref 86, .int (zlt T p)] h (zMd (zlt T p) (zst_ T p).2.2.2 n f h) := by
  obtain ⟨h0, hna⟩ := zst_n hok
  have hN := hs.2.2.2.1
  obtain ⟨-, -, hv⟩ := he.2 hok
  rw [hna] at hv
  refine CT.of rfl rfl (Nat.le_of_ble_eq_true rfl) rfl ?_
  generalize (zst_ T p).2.2.2 = N at hv ⊢
  generalize zlt T p = c at h0 hv ⊢
  by_cases c1 : c = 115
  · subst c1
    exact m_doS hG hN (hv 0 (by decide)) (hv 1 (by decide)) (hv 2 (by decide)) _
  · by_cases c2 : c = 105
    · subst c2
      have z := fun i hi => hv i hi
      exact m_doI hG hN (by have := hv 0 (by decide); rw [show yof 105 + 0 = 0 from rfl] at this; exact this) (by have := hv 1 (by decide); rw [show yof 105 + 1 = 1 from rfl] at this; exact this) (by have := hv 2 (by decide); rw [show yof 105 + 2 = 2 from rfl] at this; exact this) (by have := hv 3 (by decide); rw [show yof 105 + 3 = 3 from rfl] at this; exact this) _
    · by_cases c3 : c = 107
      · subst c3
        exact m_doK hG hN (by have := hv 0 (by decide); rw [show yof 107 + 0 = 0 from rfl] at this; exact this) (by have := hv 1 (by decide); rw [show yof 107 + 1 = 1 from rfl] at this; exact this) (by have := hv 2 (by decide); rw [show yof 107 + 2 = 2 from rfl] at this; exact this) _
      · by_cases c4 : c = 100
        · subst c4
          exact m_doD hG hN (by have := hv 0 (by decide); rw [show yof 100 + 0 = 0 from rfl] at this; exact this) _
        · by_cases c5 : c = 114
          · subst c5
            exact m_doR hG _
          · exfalso
            apply h0
            unfold zfo
            rw [if_neg c1, if_neg c2, if_neg c3, if_neg c4, if_neg c5]
