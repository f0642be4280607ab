/-! the calls, the class's and the reference's, by one reading -/
/-- a change: what was is kept -/
def zch (σ : zA) (S : Nat × zf) : zA := (S, ((if σ.2.1.1 < 8 then σ.2.1.1 + 1 else 8), zpush σ.2.1.2 σ.1.1 σ.1.2), σ.2.2)
theorem zwS_i {n : Nat} {e nn t : Int32} (h : ¬ zwS n e nn t = 0) : ∃ i, (1 ≤ i ∧ i ≤ 6) ∧ zwS n e nn t = -nI i := by
  unfold zwS at h ⊢
  split
  · exact ⟨4, by decide, rfl⟩
  · split
    · exact ⟨6, by decide, rfl⟩
    · split
      · exact ⟨3, by decide, rfl⟩
      · rename_i h1 h2 h3
        rw [if_neg h1, if_neg h2, if_neg h3] at h
        exact absurd rfl h
theorem zwA_i {n : Nat} {a e nn t : Int32} (h : ¬ zwA n a e nn t = 0) : ∃ i, (1 ≤ i ∧ i ≤ 6) ∧ zwA n a e nn t = -nI i := by
  unfold zwA at h ⊢
  split
  · rename_i h1
    rw [if_pos h1] at h
    exact zwS_i h
  · exact ⟨1, by decide, rfl⟩
theorem zwK_i {n : Nat} {a e t : Int32} (h : ¬ zwK n a e t = 0) : ∃ i, (1 ≤ i ∧ i ≤ 6) ∧ zwK n a e t = -nI i := by
  unfold zwK at h ⊢
  split
  · exact ⟨1, by decide, rfl⟩
  · split
    · exact ⟨2, by decide, rfl⟩
    · split
      · exact ⟨4, by decide, rfl⟩
      · split
        · exact ⟨6, by decide, rfl⟩
        · rename_i h1 h2 h3 h4
          rw [if_neg h1, if_neg h2, if_neg h3, if_neg h4] at h
          exact absurd rfl h
theorem zwS_n {n : Nat} {e nn t : Int32} (hn : n ≤ 8) (h : zwS n e nn t = 0) : n < 8 := by
  unfold zwS at h
  rcases (show n < 8 ∨ n = 8 by omega) with q | q
  · exact q
  · subst q
    split at h
    · exact absurd h (by decide)
    · rw [if_pos (by omega)] at h; exact absurd h (by decide)
/-- behind a change of the sides, with what was kept: the class's -/
theorem RX.ch {σ : zA} {h h1 h2 : zH} {c' nx' n' : Nat} {pl' : Nat → Nat × zf} {f' : zf} (hX : RX σ h) (hP : RPa c' nx' pl' h1) (hF1 : zFr (zRg 19 50) h h1) (hS : RS 1 n' f' h2) (hF2 : zFr (zRg 1 6) h1 h2) : RX ((n', f'), (c', pl'), σ.2.2) h2 := by
  obtain ⟨a, -, c, d, e, g, k⟩ := hX
  have hF : zFr (fun o => zRg 19 50 o ∨ zRg 1 6 o) h h2 := (hF1.mo (fun _ => Or.inl)).tr (hF2.mo (fun _ => Or.inr))
  have q : ∀ o, (zRg 19 50 o ∨ zRg 1 6 o) → (19 ≤ o ∧ o < 69) ∨ (1 ≤ o ∧ o < 7) := fun o z => z
  have np : ∀ o, ¬ ((19 ≤ o ∧ o < 69) ∨ (1 ≤ o ∧ o < 7)) → ¬ (zRg 19 50 o ∨ zRg 1 6 o) := fun o z w => z (q o w)
  exact ⟨hS, ⟨nx', hP.fo hF2 (fun o z => by obtain ⟨z1, z2⟩ := z; omega)⟩, c.fo hF (np 0 (by omega)) (fun o z => by have := q o z; omega), d.fo hF (np 0 (by omega)) (np 76 (by omega)), e.fo hF (np 0 (by omega)) (np 77 (by omega)), fun l hl => (g l hl).fo hF (fun o z => by have := q o z; omega), fun j h1 h2 => by rw [hF.1 85 (np 85 (by omega))]; exact k j h1 h2⟩
theorem zB_ch {h h1 h2 : zH} (hF1 : zFr (zRg 19 50) h h1) (hF2 : zFr (zRg 1 6) h1 h2) : zFr zB1 h h2 := (hF1.mo (fun o z => by obtain ⟨z1, z2⟩ := z; show o < 86; omega)).tr (hF2.mo (fun o z => by obtain ⟨z1, z2⟩ := z; show o < 86; omega))
set_option maxHeartbeats 4000000 in
set_option maxRecDepth 100000 in
theorem x_side {σ : zA} {h : zH} (hX : RX σ h) (e nn t : Int32) : K_X5_side [.ref 0, .int e, .int nn, .int t] h (zPi RX zB1 h σ (zwS σ.1.1 e nn t) (nI σ.1.1) (zch σ (σ.1.1 + 1, zins σ.1.2 σ.1.1 (znew e nn t)))) := by
  have hS := hX.1
  obtain ⟨nx, hP⟩ := hX.2.1
  refine CT.of rfl rfl (Nat.le_of_ble_eq_true rfl) rfl ?_
  refine WG.aload_n (pc' := 1) dX5_side_0 rfl rfl ?_
  refine WG.getR (r := 1) f_X5_10 (pc' := 4) dX5_side_1 rfl rfl rfl rfl ?_
  refine WG.iload_n (pc' := 5) dX5_side_4 rfl rfl ?_
  refine WG.iload_n (pc' := 6) dX5_side_5 rfl rfl ?_
  refine WG.iload_n (pc' := 7) dX5_side_6 rfl rfl ?_
  refine WG.callVd (c_X4_refusalOfMore hS) m_X5_86 b_X4_refusalOfMore rfl rfl rfl (zrk_of rfl) rfl (Nat.le_of_ble_eq_true rfl) dX5_side_7 (pc' := 10) rfl ?_
  refine WG.istore (L' := [_, _, _, _, _]) (pc' := 12) dX5_side_10 rfl (by decide) rfl ?_
  refine WG.iload (pc' := 14) dX5_side_12 rfl rfl ?_
  refine WG.if_eq (tgt := 24) (pc' := 17) dX5_side_14 rfl (by decide) (fun c_14 => ?_) (fun c_14 => ?_)
  · have h8 := zwS_n hS.2.1 c_14
    refine WG.aload_n (pc' := 25) dX5_side_24 rfl rfl ?_
    refine WG.getR (r := 19) f_X5_29 (pc' := 28) dX5_side_25 rfl rfl rfl rfl ?_
    refine WG.aload_n (pc' := 29) dX5_side_28 rfl rfl ?_
    refine WG.getR (r := 1) f_X5_10 (pc' := 32) dX5_side_29 rfl rfl rfl rfl ?_
    refine WG.callV (c_X1_keep hP hS (by decide)) m_X5_83 b_X1_keep rfl rfl rfl (zrk_of rfl) rfl (Nat.le_of_ble_eq_true rfl) dX5_side_32 (pc' := 35) rfl (fun r_ h_ q_ => ?_)
    obtain ⟨rfl, hP1, hF1⟩ := q_
    have hS1 : RS 1 σ.1.1 σ.1.2 h_ := hS.fo hF1 (fun o z => by obtain ⟨z1, z2⟩ := z; omega)
    refine WG.aload_n (pc' := 36) dX5_side_35 rfl rfl ?_
    refine WG.getR (r := 1) f_X5_10 (pc' := 39) dX5_side_36 rfl rfl rfl rfl ?_
    refine WG.aload_n (pc' := 40) dX5_side_39 rfl rfl ?_
    refine WG.getR (r := 1) f_X5_10 (pc' := 43) dX5_side_40 rfl rfl rfl rfl ?_
    refine WG.getI f_X5_90 (pc' := 46) dX5_side_43 rfl rfl rfl ?_
    rw [hS1.2.2.1]
    refine WG.iload_n (pc' := 47) dX5_side_46 rfl rfl ?_
    refine WG.iload_n (pc' := 48) dX5_side_47 rfl rfl ?_
    refine WG.iload_n (pc' := 49) dX5_side_48 rfl rfl ?_
    refine WG.callV (c_X4_open hS1 h8 (Nat.le_refl _)) m_X5_93 b_X4_open rfl rfl rfl (zrk_of rfl) rfl (Nat.le_of_ble_eq_true rfl) dX5_side_49 (pc' := 52) rfl (fun r_ h_ q_ => ?_)
    obtain ⟨rfl, hS2, hF2⟩ := q_
    refine WG.ireturn dX5_side_52 rfl (by first | rfl | decide) ?_
    exact zok (hX.ch hP1 hF1 hS2 hF2) (zB_ch hF1 hF2) c_14 rfl
  · obtain ⟨i, hi, he⟩ := zwS_i c_14
    refine WG.aload_n (pc' := 18) dX5_side_17 rfl rfl ?_
    refine WG.iload (pc' := 20) dX5_side_18 rfl rfl ?_
    rw [he]
    refine WG.callVd (c_X5_refuse i hi) m_X5_71 b_X5_refuse rfl rfl rfl (zrk_of rfl) rfl (Nat.le_of_ble_eq_true rfl) dX5_side_20 (pc' := 23) rfl ?_
    refine WG.ireturn dX5_side_23 rfl (by first | rfl | decide) ?_
    exact zrX hX zFr.rf hi rfl
theorem RM.ch {σ : zA} {h h1 h2 h3 : zH} {c' n' : Nat} {pl' : Nat → Nat × zf} {f' : zf} (hX : RM σ h) (hF0 : zFr (fun o => o = 90 ∨ o = 93 ∨ o = 92) h h1) (hP : RPm c' pl' h2) (h86 : ∀ i, i ≠ 4 → h2.1 86 i = h1.1 86 i) (hF1 : zFr (fun o => o = 86 ∨ o = 89) h1 h2) (hS : RG 88 0 n' f' h3) (hF2 : zFr (fun o => o = 88) h2 h3) : RM ((n', f'), (c', pl'), σ.2.2) h3 ∧ zFr zB2 h h3 := by
  obtain ⟨a, -, c, d, e, g, k⟩ := hX
  have hF : zFr (fun o => (o = 90 ∨ o = 93 ∨ o = 92) ∨ (o = 86 ∨ o = 89) ∨ o = 88) h h3 := ((hF0.mo (fun _ => Or.inl)).tr (hF1.mo (fun _ z => Or.inr (Or.inl z)))).tr (hF2.mo (fun _ z => Or.inr (Or.inr z)))
  have e86 : ∀ i, i ≠ 4 → h3.1 86 i = h.1 86 i := fun i hi => by rw [hF2.1 86 (by decide), h86 i hi, hF0.1 86 (by decide)]
  refine ⟨⟨hS, hP.fo hF2 (by decide) (by decide), ?_, ⟨d.1, by rw [e86 7 (by decide)]; exact d.2.1, by rw [hF.1 91 (by decide)]; exact d.2.2⟩, ⟨e.1, by rw [e86 16 (by decide)]; exact e.2.1, by rw [hF.1 96 (by decide)]; exact e.2.2⟩, fun l hl => (g l hl).fo hF (by decide) (by decide) (by decide), by rw [hF.1 87 (by decide)]; exact k⟩, hF.mo (fun o z => by show 86 ≤ o; omega)⟩
  revert c
  show RKm σ.2.2.1 h → RKm σ.2.2.1 h3
  generalize σ.2.2.1 = K
  intro c
  match K, c with
  | none, c => show h3.1 86 22 = 0; rw [e86 22 (by decide)]; exact c
  | some (n, f), c => exact ⟨by rw [e86 22 (by decide)]; exact c.1, c.2.fo hF (by decide)⟩
set_option maxHeartbeats 4000000 in
set_option maxRecDepth 100000 in
theorem m_side {σ : zA} {h : zH} (hX : RM σ h) (e nn t : Int32) : K_X6_side [.ref 86, .int e, .int nn, .int t] h (zPi RM zB2 h σ (zwS σ.1.1 e nn t) (nI σ.1.1) (zch σ (σ.1.1 + 1, zins σ.1.2 σ.1.1 (znew e nn t)))) := by
  have hS := hX.1
  refine CT.of rfl rfl (Nat.le_of_ble_eq_true rfl) rfl ?_
  refine WG.aload_n (pc' := 1) dX6_side_0 rfl rfl ?_
  refine WG.iload_n (pc' := 2) dX6_side_1 rfl rfl ?_
  refine WG.iload_n (pc' := 3) dX6_side_2 rfl rfl ?_
  refine WG.iload_n (pc' := 4) dX6_side_3 rfl rfl ?_
  refine WG.callVd (c_X6_wrongSide hS) m_X6_112 b_X6_wrongSide rfl rfl rfl (zrk_of rfl) rfl (Nat.le_of_ble_eq_true rfl) dX6_side_4 (pc' := 7) rfl ?_
  refine WG.istore (L' := [_, _, _, _, _]) (pc' := 9) dX6_side_7 rfl (by decide) rfl ?_
  refine WG.iload (pc' := 11) dX6_side_9 rfl rfl ?_
  refine WG.if_eq (tgt := 21) (pc' := 14) dX6_side_11 rfl (by decide) (fun c_11 => ?_) (fun c_11 => ?_)
  · have h8 := zwS_n hS.1 c_11
    refine WG.aload_n (pc' := 22) dX6_side_21 rfl rfl ?_
    refine WG.callV (c_X6_keepsAside hS) m_X6_116 b_X6_keepsAside rfl rfl rfl (zrk_of rfl) rfl (Nat.le_of_ble_eq_true rfl) dX6_side_22 (pc' := 25) rfl (fun r_ h_ q_ => ?_)
    obtain ⟨rfl, hA, hF0⟩ := q_
    have hP0 := hX.2.1.fo hF0 (by decide) (by decide)
    have hS0 := hS.fo hF0 (by decide)
    generalize h_ = h1 at *
    refine WG.aload_n (pc' := 26) dX6_side_25 rfl rfl ?_
    refine WG.callV (c_X6_changed hA hP0) m_X6_119 b_X6_changed rfl rfl rfl (zrk_of rfl) rfl (Nat.le_of_ble_eq_true rfl) dX6_side_26 (pc' := 29) rfl (fun r_ h_ q_ => ?_)
    obtain ⟨rfl, hP1, h86, hF1⟩ := q_
    have hS1 := hS0.fo hF1 (by decide)
    generalize h_ = h2 at *
    refine WG.aload_n (pc' := 30) dX6_side_29 rfl rfl ?_
    refine WG.aload_n (pc' := 31) dX6_side_30 rfl rfl ?_
    refine WG.callVd (c_X6_many hS1) m_X6_63 b_X6_many rfl rfl rfl (zrk_of rfl) rfl (Nat.le_of_ble_eq_true rfl) dX6_side_31 (pc' := 34) rfl ?_
    refine WG.iload_n (pc' := 35) dX6_side_34 rfl rfl ?_
    refine WG.iload_n (pc' := 36) dX6_side_35 rfl rfl ?_
    refine WG.iload_n (pc' := 37) dX6_side_36 rfl rfl ?_
    refine WG.callV (c_X6_insertAt hS1 h8 (Nat.le_refl _)) m_X6_122 b_X6_insertAt rfl rfl rfl (zrk_of rfl) rfl (Nat.le_of_ble_eq_true rfl) dX6_side_37 (pc' := 40) rfl (fun r_ h_ q_ => ?_)
    obtain ⟨rfl, hS2, hF2⟩ := q_
    have hq := hX.ch (hF0.mo (fun _ z => Or.inl z)) hP1 h86 hF1 hS2 hF2
    refine WG.aload_n (pc' := 41) dX6_side_40 rfl rfl ?_
    refine WG.callVd (c_X6_many hS2) m_X6_63 b_X6_many rfl rfl rfl (zrk_of rfl) rfl (Nat.le_of_ble_eq_true rfl) dX6_side_41 (pc' := 44) rfl ?_
    refine WG.iconst (v := 1) (pc' := 45) dX6_side_44 rfl rfl ?_
    refine WG.isub (pc' := 46) dX6_side_45 rfl ?_
    refine WG.ireturn dX6_side_46 rfl (by first | rfl | decide) ?_
    exact zok hq.1 hq.2 c_11 (nI_pred _)
  · obtain ⟨i, hi, he⟩ := zwS_i c_11
    refine WG.aload_n (pc' := 15) dX6_side_14 rfl rfl ?_
    refine WG.iload (pc' := 17) dX6_side_15 rfl rfl ?_
    rw [he]
    refine WG.callVd (c_X6_no i (by omega)) m_X6_13 b_X6_no rfl rfl rfl (zrk_of rfl) rfl (Nat.le_of_ble_eq_true rfl) dX6_side_17 (pc' := 20) rfl ?_
    refine WG.ireturn dX6_side_20 rfl (by first | rfl | decide) ?_
    exact zrM hX zFr.rf hi rfl
set_option maxHeartbeats 4000000 in
set_option maxRecDepth 100000 in
theorem x_insert {σ : zA} {h : zH} (hX : RX σ h) (a e nn t : Int32) : K_X5_insert [.ref 0, .int a, .int e, .int nn, .int t] h (zPi RX zB1 h σ (zwA σ.1.1 a e nn t) a (zch σ (σ.1.1 + 1, zins σ.1.2 a.toNatClampNeg (znew e nn t)))) := by
  have hS := hX.1
  obtain ⟨nx, hP⟩ := hX.2.1
  have hn := hS.2.1
  refine CT.of rfl rfl (Nat.le_of_ble_eq_true rfl) rfl ?_
  refine WG.aload_n (pc' := 1) dX5_insert_0 rfl rfl ?_
  refine WG.getR (r := 1) f_X5_10 (pc' := 4) dX5_insert_1 rfl rfl rfl rfl ?_
  refine WG.iload_n (pc' := 5) dX5_insert_4 rfl rfl ?_
  refine WG.iload_n (pc' := 6) dX5_insert_5 rfl rfl ?_
  refine WG.iload_n (pc' := 7) dX5_insert_6 rfl rfl ?_
  refine WG.iload (pc' := 9) dX5_insert_7 rfl rfl ?_
  refine WG.callVd (c_X4_refusalOfAhead hS) m_X5_97 b_X4_refusalOfAhead rfl rfl rfl (zrk_of rfl) rfl (Nat.le_of_ble_eq_true rfl) dX5_insert_9 (pc' := 12) rfl ?_
  refine WG.istore (L' := [_, _, _, _, _, _]) (pc' := 14) dX5_insert_12 rfl (by decide) rfl ?_
  refine WG.iload (pc' := 16) dX5_insert_14 rfl rfl ?_
  refine WG.if_eq (tgt := 26) (pc' := 19) dX5_insert_16 rfl (by decide) (fun c_16 => ?_) (fun c_16 => ?_)
  · have hsd : zsd σ.1.1 a := by
      unfold zwA at c_16
      by_cases z : ¬ a < 0 ∧ a < nI σ.1.1
      · exact z
      · rw [if_neg z] at c_16; exact absurd c_16 (by decide)
    have hw : zwS σ.1.1 e nn t = 0 := by
      have z := c_16
      unfold zwA at z
      rw [if_pos (show ¬ a < 0 ∧ a < nI σ.1.1 from hsd)] at z; exact z
    have h8 := zwS_n hn hw
    obtain ⟨j, hj, rfl⟩ := zsd_of (by omega) hsd
    rw [nI_clamp (by omega)]
    refine WG.aload_n (pc' := 27) dX5_insert_26 rfl rfl ?_
    refine WG.getR (r := 19) f_X5_29 (pc' := 30) dX5_insert_27 rfl rfl rfl rfl ?_
    refine WG.aload_n (pc' := 31) dX5_insert_30 rfl rfl ?_
    refine WG.getR (r := 1) f_X5_10 (pc' := 34) dX5_insert_31 rfl rfl rfl rfl ?_
    refine WG.callV (c_X1_keep hP hS (by decide)) m_X5_83 b_X1_keep rfl rfl rfl (zrk_of rfl) rfl (Nat.le_of_ble_eq_true rfl) dX5_insert_34 (pc' := 37) rfl (fun r_ h_ q_ => ?_)
    obtain ⟨rfl, hP1, hF1⟩ := q_
    have hS1 : RS 1 σ.1.1 σ.1.2 h_ := hS.fo hF1 (fun o z => by obtain ⟨z1, z2⟩ := z; omega)
    refine WG.aload_n (pc' := 38) dX5_insert_37 rfl rfl ?_
    refine WG.getR (r := 1) f_X5_10 (pc' := 41) dX5_insert_38 rfl rfl rfl rfl ?_
    refine WG.iload_n (pc' := 42) dX5_insert_41 rfl rfl ?_
    refine WG.iload_n (pc' := 43) dX5_insert_42 rfl rfl ?_
    refine WG.iload_n (pc' := 44) dX5_insert_43 rfl rfl ?_
    refine WG.iload (pc' := 46) dX5_insert_44 rfl rfl ?_
    refine WG.callV (c_X4_open hS1 h8 (show j ≤ σ.1.1 by omega)) m_X5_93 b_X4_open rfl rfl rfl (zrk_of rfl) rfl (Nat.le_of_ble_eq_true rfl) dX5_insert_46 (pc' := 49) rfl (fun r_ h_ q_ => ?_)
    obtain ⟨rfl, hS2, hF2⟩ := q_
    refine WG.ireturn dX5_insert_49 rfl (by first | rfl | decide) ?_
    exact zok (hX.ch hP1 hF1 hS2 hF2) (zB_ch hF1 hF2) c_16 rfl
  · obtain ⟨i, hi, he⟩ := zwA_i c_16
    refine WG.aload_n (pc' := 20) dX5_insert_19 rfl rfl ?_
    refine WG.iload (pc' := 22) dX5_insert_20 rfl rfl ?_
    rw [he]
    refine WG.callVd (c_X5_refuse i hi) m_X5_71 b_X5_refuse rfl rfl rfl (zrk_of rfl) rfl (Nat.le_of_ble_eq_true rfl) dX5_insert_22 (pc' := 25) rfl ?_
    refine WG.ireturn dX5_insert_25 rfl (by first | rfl | decide) ?_
    exact zrX hX zFr.rf hi rfl
set_option maxHeartbeats 4000000 in
set_option maxRecDepth 100000 in
theorem m_insert {σ : zA} {h : zH} (hX : RM σ h) (a e nn t : Int32) : K_X6_insert [.ref 86, .int a, .int e, .int nn, .int t] h (zPi RM zB2 h σ (zwA σ.1.1 a e nn t) a (zch σ (σ.1.1 + 1, zins σ.1.2 a.toNatClampNeg (znew e nn t)))) := by
  have hS := hX.1
  have hn := hS.1
  refine CT.of rfl rfl (Nat.le_of_ble_eq_true rfl) rfl ?_
  have J : ∀ v : Int32, v = zwA σ.1.1 a e nn t → W_X6_insert (zPi RM zB2 h σ (zwA σ.1.1 a e nn t) a (zch σ (σ.1.1 + 1, zins σ.1.2 a.toNatClampNeg (znew e nn t)))) 22 [some (.ref 86), some (.int a), some (.int e), some (.int nn), some (.int t), some (.int v)] [] h := by
    intro v hv
    subst hv
    refine WG.iload (pc' := 24) dX6_insert_22 rfl rfl ?_
    refine WG.if_eq (tgt := 34) (pc' := 27) dX6_insert_24 rfl (by decide) (fun c_24 => ?_) (fun c_24 => ?_)
    · have hsd : zsd σ.1.1 a := by
        have c_16 := c_24
        unfold zwA at c_16
        by_cases z : ¬ a < 0 ∧ a < nI σ.1.1
        · exact z
        · rw [if_neg z] at c_16; exact absurd c_16 (by decide)
      have hw : zwS σ.1.1 e nn t = 0 := by
        have z := c_24
        unfold zwA at z
        rw [if_pos (show ¬ a < 0 ∧ a < nI σ.1.1 from hsd)] at z; exact z
      have h8 := zwS_n hn hw
      obtain ⟨j, hj, rfl⟩ := zsd_of (by omega) hsd
      rw [nI_clamp (by omega)]
      refine WG.aload_n (pc' := 35) dX6_insert_34 rfl rfl ?_
      refine WG.callV (c_X6_keepsAside hS) m_X6_116 b_X6_keepsAside rfl rfl rfl (zrk_of rfl) rfl (Nat.le_of_ble_eq_true rfl) dX6_insert_35 (pc' := 38) rfl (fun r_ h_ q_ => ?_)
      obtain ⟨rfl, hA, hF0⟩ := q_
      have hP0 := hX.2.1.fo hF0 (by decide) (by decide)
      have hS0 := hS.fo hF0 (by decide)
      generalize h_ = h1 at *
      refine WG.aload_n (pc' := 39) dX6_insert_38 rfl rfl ?_
      refine WG.callV (c_X6_changed hA hP0) m_X6_119 b_X6_changed rfl rfl rfl (zrk_of rfl) rfl (Nat.le_of_ble_eq_true rfl) dX6_insert_39 (pc' := 42) rfl (fun r_ h_ q_ => ?_)
      obtain ⟨rfl, hP1, h86, hF1⟩ := q_
      have hS1 := hS0.fo hF1 (by decide)
      generalize h_ = h2 at *
      refine WG.aload_n (pc' := 43) dX6_insert_42 rfl rfl ?_
      refine WG.iload_n (pc' := 44) dX6_insert_43 rfl rfl ?_
      refine WG.iload_n (pc' := 45) dX6_insert_44 rfl rfl ?_
      refine WG.iload_n (pc' := 46) dX6_insert_45 rfl rfl ?_
      refine WG.iload (pc' := 48) dX6_insert_46 rfl rfl ?_
      refine WG.callV (c_X6_insertAt hS1 h8 (show j ≤ σ.1.1 by omega)) m_X6_122 b_X6_insertAt rfl rfl rfl (zrk_of rfl) rfl (Nat.le_of_ble_eq_true rfl) dX6_insert_48 (pc' := 51) rfl (fun r_ h_ q_ => ?_)
      obtain ⟨rfl, hS2, hF2⟩ := q_
      have hq := hX.ch (hF0.mo (fun _ z => Or.inl z)) hP1 h86 hF1 hS2 hF2
      refine WG.iload_n (pc' := 52) dX6_insert_51 rfl rfl ?_
      refine WG.ireturn dX6_insert_52 rfl (by first | rfl | decide) ?_
      exact zok hq.1 hq.2 c_24 rfl
    · obtain ⟨i, hi, he⟩ := zwA_i c_24
      refine WG.aload_n (pc' := 28) dX6_insert_27 rfl rfl ?_
      refine WG.iload (pc' := 30) dX6_insert_28 rfl rfl ?_
      rw [he]
      refine WG.callVd (c_X6_no i (by omega)) m_X6_13 b_X6_no rfl rfl rfl (zrk_of rfl) rfl (Nat.le_of_ble_eq_true rfl) dX6_insert_30 (pc' := 33) rfl ?_
      refine WG.ireturn dX6_insert_33 rfl (by first | rfl | decide) ?_
      exact zrM hX zFr.rf hi rfl
  refine WG.aload_n (pc' := 1) dX6_insert_0 rfl rfl ?_
  refine WG.iload_n (pc' := 2) dX6_insert_1 rfl rfl ?_
  refine WG.callVd (c_X6_isSide hS a) m_X6_106 b_X6_isSide rfl rfl rfl (zrk_of rfl) rfl (Nat.le_of_ble_eq_true rfl) dX6_insert_2 (pc' := 5) rfl ?_
  refine WG.if_eq (tgt := 19) (pc' := 8) dX6_insert_5 rfl (by decide) (fun c_5 => ?_) (fun c_5 => ?_)
  · rw [zb_eq] at c_5
    refine WG.iconst (v := -1) (pc' := 20) dX6_insert_19 rfl rfl ?_
    refine WG.istore (L' := [_, _, _, _, _, _]) (pc' := 22) dX6_insert_20 rfl (by decide) rfl ?_
    exact J _ (by unfold zwA; first | rw [if_pos (show ¬ a < 0 ∧ a < nI σ.1.1 from c_5)] | rw [if_neg (show ¬ (¬ a < 0 ∧ a < nI σ.1.1) from c_5)])
  · rw [zb_nn] at c_5
    refine WG.aload_n (pc' := 9) dX6_insert_8 rfl rfl ?_
    refine WG.iload_n (pc' := 10) dX6_insert_9 rfl rfl ?_
    refine WG.iload_n (pc' := 11) dX6_insert_10 rfl rfl ?_
    refine WG.iload (pc' := 13) dX6_insert_11 rfl rfl ?_
    refine WG.callVd (c_X6_wrongSide hS) m_X6_112 b_X6_wrongSide rfl rfl rfl (zrk_of rfl) rfl (Nat.le_of_ble_eq_true rfl) dX6_insert_13 (pc' := 16) rfl ?_
    refine WG.goto (tgt := 20) dX6_insert_16 (by decide) ?_
    refine WG.istore (L' := [_, _, _, _, _, _]) (pc' := 22) dX6_insert_20 rfl (by decide) rfl ?_
    exact J _ (by unfold zwA; first | rw [if_pos (show ¬ a < 0 ∧ a < nI σ.1.1 from c_5)] | rw [if_neg (show ¬ (¬ a < 0 ∧ a < nI σ.1.1) from c_5)])
set_option maxHeartbeats 4000000 in
set_option maxRecDepth 100000 in
theorem x_kind {σ : zA} {h : zH} (hX : RX σ h) (a kd fg : Int32) : K_X5_kind [.ref 0, .int a, .int kd, .int fg] h (zPi RX zB1 h σ (zwK σ.1.1 a kd fg) (10 * σ.1.2 a.toNatClampNeg 0 + σ.1.2 a.toNatClampNeg 1) (zch σ (σ.1.1, zkin σ.1.2 a.toNatClampNeg kd fg))) := by
  have hS := hX.1
  obtain ⟨nx, hP⟩ := hX.2.1
  have hn := hS.2.1
  refine CT.of rfl rfl (Nat.le_of_ble_eq_true rfl) rfl ?_
  refine WG.aload_n (pc' := 1) dX5_kind_0 rfl rfl ?_
  refine WG.getR (r := 1) f_X5_10 (pc' := 4) dX5_kind_1 rfl rfl rfl rfl ?_
  refine WG.iload_n (pc' := 5) dX5_kind_4 rfl rfl ?_
  refine WG.iload_n (pc' := 6) dX5_kind_5 rfl rfl ?_
  refine WG.iload_n (pc' := 7) dX5_kind_6 rfl rfl ?_
  refine WG.callVd (c_X4_refusalOfKind hS) m_X5_100 b_X4_refusalOfKind rfl rfl rfl (zrk_of rfl) rfl (Nat.le_of_ble_eq_true rfl) dX5_kind_7 (pc' := 10) rfl ?_
  refine WG.istore (L' := [_, _, _, _, _]) (pc' := 12) dX5_kind_10 rfl (by decide) rfl ?_
  refine WG.iload (pc' := 14) dX5_kind_12 rfl rfl ?_
  refine WG.if_eq (tgt := 24) (pc' := 17) dX5_kind_14 rfl (by decide) (fun c_14 => ?_) (fun c_14 => ?_)
  · have hsd : zsd σ.1.1 a := by
      have c_16 := c_14
      unfold zwK at c_16
      by_cases z : ¬ a < 0 ∧ a < nI σ.1.1
      · exact z
      · rw [if_pos z] at c_16; exact absurd c_16 (by decide)
    obtain ⟨j, hj, rfl⟩ := zsd_of (by omega) hsd
    rw [nI_clamp (by omega)]
    refine WG.aload_n (pc' := 25) dX5_kind_24 rfl rfl ?_
    refine WG.getR (r := 19) f_X5_29 (pc' := 28) dX5_kind_25 rfl rfl rfl rfl ?_
    refine WG.aload_n (pc' := 29) dX5_kind_28 rfl rfl ?_
    refine WG.getR (r := 1) f_X5_10 (pc' := 32) dX5_kind_29 rfl rfl rfl rfl ?_
    refine WG.callV (c_X1_keep hP hS (by decide)) m_X5_83 b_X1_keep rfl rfl rfl (zrk_of rfl) rfl (Nat.le_of_ble_eq_true rfl) dX5_kind_32 (pc' := 35) rfl (fun r_ h_ q_ => ?_)
    obtain ⟨rfl, hP1, hF1⟩ := q_
    have hS1 : RS 1 σ.1.1 σ.1.2 h_ := hS.fo hF1 (fun o z => by obtain ⟨z1, z2⟩ := z; omega)
    refine WG.aload_n (pc' := 36) dX5_kind_35 rfl rfl ?_
    refine WG.getR (r := 1) f_X5_10 (pc' := 39) dX5_kind_36 rfl rfl rfl rfl ?_
    refine WG.iload_n (pc' := 40) dX5_kind_39 rfl rfl ?_
    refine WG.iload_n (pc' := 41) dX5_kind_40 rfl rfl ?_
    refine WG.iload_n (pc' := 42) dX5_kind_41 rfl rfl ?_
    refine WG.callV (c_X4_become_ hS1 hj) m_X5_103 b_X4_become_ rfl rfl rfl (zrk_of rfl) rfl (Nat.le_of_ble_eq_true rfl) dX5_kind_42 (pc' := 45) rfl (fun r_ h_ q_ => ?_)
    obtain ⟨rfl, hS2, hF2⟩ := q_
    refine WG.ireturn dX5_kind_45 rfl (by first | rfl | decide) ?_
    exact zok (hX.ch hP1 hF1 hS2 hF2) (zB_ch hF1 hF2) c_14 rfl
  · obtain ⟨i, hi, he⟩ := zwK_i c_14
    refine WG.aload_n (pc' := 18) dX5_kind_17 rfl rfl ?_
    refine WG.iload (pc' := 20) dX5_kind_18 rfl rfl ?_
    rw [he]
    refine WG.callVd (c_X5_refuse i hi) m_X5_71 b_X5_refuse rfl rfl rfl (zrk_of rfl) rfl (Nat.le_of_ble_eq_true rfl) dX5_kind_20 (pc' := 23) rfl ?_
    refine WG.ireturn dX5_kind_23 rfl (by first | rfl | decide) ?_
    exact zrX hX zFr.rf hi rfl
set_option maxHeartbeats 4000000 in
set_option maxRecDepth 100000 in
theorem m_kind {σ : zA} {h : zH} (hX : RM σ h) (a kd fg : Int32) : K_X6_kind [.ref 86, .int a, .int kd, .int fg] h (zPi RM zB2 h σ (zwK σ.1.1 a kd fg) (10 * σ.1.2 a.toNatClampNeg 0 + σ.1.2 a.toNatClampNeg 1) (zch σ (σ.1.1, zkin σ.1.2 a.toNatClampNeg kd fg))) := by
  have hS := hX.1
  have hn := hS.1
  refine CT.of rfl rfl (Nat.le_of_ble_eq_true rfl) rfl ?_
  refine WG.aload_n (pc' := 1) dX6_kind_0 rfl rfl ?_
  refine WG.iload_n (pc' := 2) dX6_kind_1 rfl rfl ?_
  refine WG.iload_n (pc' := 3) dX6_kind_2 rfl rfl ?_
  refine WG.iload_n (pc' := 4) dX6_kind_3 rfl rfl ?_
  refine WG.callVd (c_X6_wrongKind hS) m_X6_126 b_X6_wrongKind rfl rfl rfl (zrk_of rfl) rfl (Nat.le_of_ble_eq_true rfl) dX6_kind_4 (pc' := 7) rfl ?_
  refine WG.istore (L' := [_, _, _, _, _, _]) (pc' := 9) dX6_kind_7 rfl (by decide) rfl ?_
  refine WG.iload (pc' := 11) dX6_kind_9 rfl rfl ?_
  refine WG.if_eq (tgt := 21) (pc' := 14) dX6_kind_11 rfl (by decide) (fun c_11 => ?_) (fun c_11 => ?_)
  · have hsd : zsd σ.1.1 a := by
      have c_16 := c_11
      unfold zwK at c_16
      by_cases z : ¬ a < 0 ∧ a < nI σ.1.1
      · exact z
      · rw [if_pos z] at c_16; exact absurd c_16 (by decide)
    obtain ⟨j, hj, rfl⟩ := zsd_of (by omega) hsd
    rw [nI_clamp (by omega)]
    refine WG.aload_n (pc' := 22) dX6_kind_21 rfl rfl ?_
    refine WG.callV (c_X6_keepsAside hS) m_X6_116 b_X6_keepsAside rfl rfl rfl (zrk_of rfl) rfl (Nat.le_of_ble_eq_true rfl) dX6_kind_22 (pc' := 25) rfl (fun r_ h_ q_ => ?_)
    obtain ⟨rfl, hA, hF0⟩ := q_
    have hP0 := hX.2.1.fo hF0 (by decide) (by decide)
    have hS0 := hS.fo hF0 (by decide)
    generalize h_ = h1 at *
    refine WG.aload_n (pc' := 26) dX6_kind_25 rfl rfl ?_
    refine WG.callV (c_X6_changed hA hP0) m_X6_119 b_X6_changed rfl rfl rfl (zrk_of rfl) rfl (Nat.le_of_ble_eq_true rfl) dX6_kind_26 (pc' := 29) rfl (fun r_ h_ q_ => ?_)
    obtain ⟨rfl, hP1, h86, hF1⟩ := q_
    have hS1 := hS0.fo hF1 (by decide)
    generalize h_ = h2 at *
    refine WG.bipush (v := 10) (pc' := 31) dX6_kind_29 rfl rfl ?_
    refine WG.aload_n (pc' := 32) dX6_kind_31 rfl rfl ?_
    refine WG.iload_n (pc' := 33) dX6_kind_32 rfl rfl ?_
    refine WG.iconst (v := 0) (pc' := 34) dX6_kind_33 rfl rfl ?_
    refine WG.callVd (c_X6_at hS1 hj 0 (by decide)) m_X6_80 b_X6_at rfl rfl rfl (zrk_of rfl) rfl (Nat.le_of_ble_eq_true rfl) dX6_kind_34 (pc' := 37) rfl ?_
    refine WG.imul (pc' := 38) dX6_kind_37 rfl ?_
    refine WG.aload_n (pc' := 39) dX6_kind_38 rfl rfl ?_
    refine WG.iload_n (pc' := 40) dX6_kind_39 rfl rfl ?_
    refine WG.iconst (v := 1) (pc' := 41) dX6_kind_40 rfl rfl ?_
    refine WG.callVd (c_X6_at hS1 hj 1 (by decide)) m_X6_80 b_X6_at rfl rfl rfl (zrk_of rfl) rfl (Nat.le_of_ble_eq_true rfl) dX6_kind_41 (pc' := 44) rfl ?_
    refine WG.iadd (pc' := 45) dX6_kind_44 rfl ?_
    refine WG.istore (L' := [_, _, _, _, _, _]) (pc' := 47) dX6_kind_45 rfl (by decide) rfl ?_
    refine WG.aload_n (pc' := 48) dX6_kind_47 rfl rfl ?_
    refine WG.iload_n (pc' := 49) dX6_kind_48 rfl rfl ?_
    refine WG.iload_n (pc' := 50) dX6_kind_49 rfl rfl ?_
    refine WG.iload_n (pc' := 51) dX6_kind_50 rfl rfl ?_
    refine WG.callV (c_X6_becomes hS1 hj) m_X6_129 b_X6_becomes rfl rfl rfl (zrk_of rfl) rfl (Nat.le_of_ble_eq_true rfl) dX6_kind_51 (pc' := 54) rfl (fun r_ h_ q_ => ?_)
    obtain ⟨rfl, hS2, hF2⟩ := q_
    have hq := hX.ch (hF0.mo (fun _ z => Or.inl z)) hP1 h86 hF1 hS2 hF2
    refine WG.iload (pc' := 56) dX6_kind_54 rfl rfl ?_
    refine WG.ireturn dX6_kind_56 rfl (by first | rfl | decide) ?_
    exact zok hq.1 hq.2 c_11 rfl
  · obtain ⟨i, hi, he⟩ := zwK_i c_11
    refine WG.aload_n (pc' := 15) dX6_kind_14 rfl rfl ?_
    refine WG.iload (pc' := 17) dX6_kind_15 rfl rfl ?_
    rw [he]
    refine WG.callVd (c_X6_no i (by omega)) m_X6_13 b_X6_no rfl rfl rfl (zrk_of rfl) rfl (Nat.le_of_ble_eq_true rfl) dX6_kind_17 (pc' := 20) rfl ?_
    refine WG.ireturn dX6_kind_20 rfl (by first | rfl | decide) ?_
    exact zrM hX zFr.rf hi rfl
def ze1 (n : Nat) (a : Int32) : Int32 := if ¬ a < 0 ∧ a < nI n then 0 else -1
set_option maxHeartbeats 4000000 in
set_option maxRecDepth 100000 in
theorem x_gone {σ : zA} {h : zH} (hX : RX σ h) (a : Int32) : K_X5_gone [.ref 0, .int a] h (zPi RX zB1 h σ (ze1 σ.1.1 a) (nI (σ.1.1 - 1)) (zch σ (σ.1.1 - 1, zdel σ.1.2 a.toNatClampNeg))) := by
  have hS := hX.1
  obtain ⟨nx, hP⟩ := hX.2.1
  have hn := hS.2.1
  refine CT.of rfl rfl (Nat.le_of_ble_eq_true rfl) rfl ?_
  refine WG.aload_n (pc' := 1) dX5_gone_0 rfl rfl ?_
  refine WG.getR (r := 1) f_X5_10 (pc' := 4) dX5_gone_1 rfl rfl rfl rfl ?_
  refine WG.iload_n (pc' := 5) dX5_gone_4 rfl rfl ?_
  refine WG.callVd (c_X4_has hS a) m_X5_105 b_X4_has rfl rfl rfl (zrk_of rfl) rfl (Nat.le_of_ble_eq_true rfl) dX5_gone_5 (pc' := 8) rfl ?_
  refine WG.if_ne (tgt := 17) (pc' := 11) dX5_gone_8 rfl (by decide) (fun c_8 => ?_) (fun c_8 => ?_)
  · rw [zb_ne] at c_8
    have he : ze1 σ.1.1 a = 0 := if_pos c_8
    obtain ⟨j, hj, rfl⟩ := zsd_of (by omega) c_8
    rw [nI_clamp (by omega)]
    refine WG.aload_n (pc' := 18) dX5_gone_17 rfl rfl ?_
    refine WG.getR (r := 19) f_X5_29 (pc' := 21) dX5_gone_18 rfl rfl rfl rfl ?_
    refine WG.aload_n (pc' := 22) dX5_gone_21 rfl rfl ?_
    refine WG.getR (r := 1) f_X5_10 (pc' := 25) dX5_gone_22 rfl rfl rfl rfl ?_
    refine WG.callV (c_X1_keep hP hS (by decide)) m_X5_83 b_X1_keep rfl rfl rfl (zrk_of rfl) rfl (Nat.le_of_ble_eq_true rfl) dX5_gone_25 (pc' := 28) rfl (fun r_ h_ q_ => ?_)
    obtain ⟨rfl, hP1, hF1⟩ := q_
    have hS1 : RS 1 σ.1.1 σ.1.2 h_ := hS.fo hF1 (fun o z => by obtain ⟨z1, z2⟩ := z; omega)
    refine WG.aload_n (pc' := 29) dX5_gone_28 rfl rfl ?_
    refine WG.getR (r := 1) f_X5_10 (pc' := 32) dX5_gone_29 rfl rfl rfl rfl ?_
    refine WG.iload_n (pc' := 33) dX5_gone_32 rfl rfl ?_
    refine WG.callV (c_X4_close hS1 hj) m_X5_109 b_X4_close rfl rfl rfl (zrk_of rfl) rfl (Nat.le_of_ble_eq_true rfl) dX5_gone_33 (pc' := 36) rfl (fun r_ h_ q_ => ?_)
    obtain ⟨rfl, hS2, hF2⟩ := q_
    refine WG.ireturn dX5_gone_36 rfl (by first | rfl | decide) ?_
    exact zok (hX.ch hP1 hF1 hS2 hF2) (zB_ch hF1 hF2) he rfl
  · rw [zb_eq] at c_8
    refine WG.aload_n (pc' := 12) dX5_gone_11 rfl rfl ?_
    refine WG.iconst (v := -1) (pc' := 13) dX5_gone_12 rfl rfl ?_
    refine WG.callVd (c_X5_refuse 1 (by decide)) m_X5_71 b_X5_refuse rfl rfl rfl (zrk_of rfl) rfl (Nat.le_of_ble_eq_true rfl) dX5_gone_13 (pc' := 16) rfl ?_
    refine WG.ireturn dX5_gone_16 rfl (by first | rfl | decide) ?_
    exact zrX hX zFr.rf (by decide) (if_neg c_8)
set_option maxHeartbeats 4000000 in
set_option maxRecDepth 100000 in
theorem m_gone {σ : zA} {h : zH} (hX : RM σ h) (a : Int32) : K_X6_gone [.ref 86, .int a] h (zPi RM zB2 h σ (ze1 σ.1.1 a) (nI (σ.1.1 - 1)) (zch σ (σ.1.1 - 1, zdel σ.1.2 a.toNatClampNeg))) := by
  have hS := hX.1
  have hn := hS.1
  refine CT.of rfl rfl (Nat.le_of_ble_eq_true rfl) rfl ?_
  refine WG.aload_n (pc' := 1) dX6_gone_0 rfl rfl ?_
  refine WG.iload_n (pc' := 2) dX6_gone_1 rfl rfl ?_
  refine WG.callVd (c_X6_isSide hS a) m_X6_106 b_X6_isSide rfl rfl rfl (zrk_of rfl) rfl (Nat.le_of_ble_eq_true rfl) dX6_gone_2 (pc' := 5) rfl ?_
  refine WG.if_ne (tgt := 14) (pc' := 8) dX6_gone_5 rfl (by decide) (fun c_5 => ?_) (fun c_5 => ?_)
  · rw [zb_ne] at c_5
    have he : ze1 σ.1.1 a = 0 := if_pos c_5
    obtain ⟨j, hj, rfl⟩ := zsd_of (by omega) c_5
    rw [nI_clamp (by omega)]
    obtain ⟨n1, hn1⟩ : ∃ n1, σ.1.1 = n1 + 1 := ⟨σ.1.1 - 1, by omega⟩
    refine WG.aload_n (pc' := 15) dX6_gone_14 rfl rfl ?_
    refine WG.callV (c_X6_keepsAside hS) m_X6_116 b_X6_keepsAside rfl rfl rfl (zrk_of rfl) rfl (Nat.le_of_ble_eq_true rfl) dX6_gone_15 (pc' := 18) rfl (fun r_ h_ q_ => ?_)
    obtain ⟨rfl, hA, hF0⟩ := q_
    have hP0 := hX.2.1.fo hF0 (by decide) (by decide)
    have hS0 := hS.fo hF0 (by decide)
    generalize h_ = h1 at *
    refine WG.aload_n (pc' := 19) dX6_gone_18 rfl rfl ?_
    refine WG.callV (c_X6_changed hA hP0) m_X6_119 b_X6_changed rfl rfl rfl (zrk_of rfl) rfl (Nat.le_of_ble_eq_true rfl) dX6_gone_19 (pc' := 22) rfl (fun r_ h_ q_ => ?_)
    obtain ⟨rfl, hP1, h86, hF1⟩ := q_
    have hS1 := hS0.fo hF1 (by decide)
    generalize h_ = h2 at *
    rw [hn1] at hS1
    refine WG.aload_n (pc' := 23) dX6_gone_22 rfl rfl ?_
    refine WG.iload_n (pc' := 24) dX6_gone_23 rfl rfl ?_
    refine WG.callV (c_X6_goneAt hS1 (show j < n1 + 1 by omega)) m_X6_133 b_X6_goneAt rfl rfl rfl (zrk_of rfl) rfl (Nat.le_of_ble_eq_true rfl) dX6_gone_24 (pc' := 27) rfl (fun r_ h_ q_ => ?_)
    obtain ⟨rfl, hS2, hF2⟩ := q_
    have hq := hX.ch (hF0.mo (fun _ z => Or.inl z)) hP1 h86 hF1 hS2 hF2
    refine WG.aload_n (pc' := 28) dX6_gone_27 rfl rfl ?_
    refine WG.callVd (c_X6_many hS2) m_X6_63 b_X6_many rfl rfl rfl (zrk_of rfl) rfl (Nat.le_of_ble_eq_true rfl) dX6_gone_28 (pc' := 31) rfl ?_
    refine WG.ireturn dX6_gone_31 rfl (by first | rfl | decide) ?_
    exact zok (by unfold zch; rw [show σ.1.1 - 1 = n1 by omega]; exact hq.1) hq.2 he (by rw [show σ.1.1 - 1 = n1 by omega])
  · rw [zb_eq] at c_5
    refine WG.aload_n (pc' := 9) dX6_gone_8 rfl rfl ?_
    refine WG.iconst (v := -1) (pc' := 10) dX6_gone_9 rfl rfl ?_
    refine WG.callVd (c_X6_no 1 (by decide)) m_X6_13 b_X6_no rfl rfl rfl (zrk_of rfl) rfl (Nat.le_of_ble_eq_true rfl) dX6_gone_10 (pc' := 13) rfl ?_
    refine WG.ireturn dX6_gone_13 rfl (by first | rfl | decide) ?_
    exact zrM hX zFr.rf (by decide) (if_neg c_5)
set_option maxHeartbeats 4000000 in
set_option maxRecDepth 100000 in
theorem x_turned {σ : zA} {h : zH} (hX : RX σ h) : K_X5_turned [.ref 0] h (zPi RX zB1 h σ 0 (nI σ.1.1) (zch σ (σ.1.1, zrev σ.1.2 σ.1.1))) := by
  have hS := hX.1
  obtain ⟨nx, hP⟩ := hX.2.1
  refine CT.of rfl rfl (Nat.le_of_ble_eq_true rfl) rfl ?_
  refine WG.aload_n (pc' := 1) dX5_turned_0 rfl rfl ?_
  refine WG.getR (r := 19) f_X5_29 (pc' := 4) dX5_turned_1 rfl rfl rfl rfl ?_
  refine WG.aload_n (pc' := 5) dX5_turned_4 rfl rfl ?_
  refine WG.getR (r := 1) f_X5_10 (pc' := 8) dX5_turned_5 rfl rfl rfl rfl ?_
  refine WG.callV (c_X1_keep hP hS (by decide)) m_X5_83 b_X1_keep rfl rfl rfl (zrk_of rfl) rfl (Nat.le_of_ble_eq_true rfl) dX5_turned_8 (pc' := 11) rfl (fun r_ h_ q_ => ?_)
  obtain ⟨rfl, hP1, hF1⟩ := q_
  have hS1 : RS 1 σ.1.1 σ.1.2 h_ := hS.fo hF1 (fun o z => by obtain ⟨z1, z2⟩ := z; omega)
  refine WG.aload_n (pc' := 12) dX5_turned_11 rfl rfl ?_
  refine WG.getR (r := 1) f_X5_10 (pc' := 15) dX5_turned_12 rfl rfl rfl rfl ?_
  refine WG.callV (c_X4_reverse hS1) m_X5_112 b_X4_reverse rfl rfl rfl (zrk_of rfl) rfl (Nat.le_of_ble_eq_true rfl) dX5_turned_15 (pc' := 18) rfl (fun r_ h_ q_ => ?_)
  obtain ⟨rfl, hS2, hF2⟩ := q_
  refine WG.ireturn dX5_turned_18 rfl (by first | rfl | decide) ?_
  exact zok (hX.ch hP1 hF1 hS2 hF2) (zB_ch hF1 hF2) rfl rfl
set_option maxHeartbeats 4000000 in
set_option maxRecDepth 100000 in
theorem m_turned {σ : zA} {h : zH} (hX : RM σ h) : K_X6_turned [.ref 86] h (zPi RM zB2 h σ 0 (nI σ.1.1) (zch σ (σ.1.1, zrev σ.1.2 σ.1.1))) := by
  have hS := hX.1
  refine CT.of rfl rfl (Nat.le_of_ble_eq_true rfl) rfl ?_
  refine WG.aload_n (pc' := 1) dX6_turned_0 rfl rfl ?_
  refine WG.callV (c_X6_keepsAside hS) m_X6_116 b_X6_keepsAside rfl rfl rfl (zrk_of rfl) rfl (Nat.le_of_ble_eq_true rfl) dX6_turned_1 (pc' := 4) rfl (fun r_ h_ q_ => ?_)
  obtain ⟨rfl, hA, hF0⟩ := q_
  have hP0 := hX.2.1.fo hF0 (by decide) (by decide)
  have hS0 := hS.fo hF0 (by decide)
  generalize h_ = h1 at *
  refine WG.aload_n (pc' := 5) dX6_turned_4 rfl rfl ?_
  refine WG.callV (c_X6_changed hA hP0) m_X6_119 b_X6_changed rfl rfl rfl (zrk_of rfl) rfl (Nat.le_of_ble_eq_true rfl) dX6_turned_5 (pc' := 8) rfl (fun r_ h_ q_ => ?_)
  obtain ⟨rfl, hP1, h86, hF1⟩ := q_
  have hS1 := hS0.fo hF1 (by decide)
  have hA1 := hA.fo hF1 (by decide)
  generalize h_ = h2 at *
  refine WG.aload_n (pc' := 9) dX6_turned_8 rfl rfl ?_
  refine WG.callV (c_X6_turns hS1 hA1) m_X6_137 b_X6_turns rfl rfl rfl (zrk_of rfl) rfl (Nat.le_of_ble_eq_true rfl) dX6_turned_9 (pc' := 12) rfl (fun r_ h_ q_ => ?_)
  obtain ⟨rfl, hS2, hF2⟩ := q_
  have hq := hX.ch (hF0.mo (fun _ z => Or.inl z)) hP1 h86 hF1 hS2 hF2
  refine WG.aload_n (pc' := 13) dX6_turned_12 rfl rfl ?_
  refine WG.callVd (c_X6_many hS2) m_X6_63 b_X6_many rfl rfl rfl (zrk_of rfl) rfl (Nat.le_of_ble_eq_true rfl) dX6_turned_13 (pc' := 16) rfl ?_
  refine WG.ireturn dX6_turned_16 rfl (by first | rfl | decide) ?_
  exact zok hq.1 hq.2 rfl rfl
