theorem isS_1 : isS 1 := by unfold isS; decide
theorem isS_7 : isS 7 := by unfold isS; decide
theorem isS_13 : isS 13 := by unfold isS; decide
def zsK (σ : zA) : zA := (σ.1, σ.2.1, some σ.1, σ.2.2.2)
set_option maxHeartbeats 4000000 in
set_option maxRecDepth 100000 in
theorem x_image {σ : zA} {h : zH} (hX : RX σ h) : K_X5_image [.ref 0] h (zPi RX zB1 h σ 0 (nI σ.1.1) (zsK σ)) := by
  have hS := hX.1
  refine CT.of rfl rfl (Nat.le_of_ble_eq_true rfl) rfl ?_
  refine WG.aload_n (pc' := 1) dX5_image_0 rfl rfl ?_
  refine WG.getR (r := 13) f_X5_19 (pc' := 4) dX5_image_1 rfl rfl rfl rfl ?_
  refine WG.aload_n (pc' := 5) dX5_image_4 rfl rfl ?_
  refine WG.getR (r := 1) f_X5_10 (pc' := 8) dX5_image_5 rfl rfl rfl rfl ?_
  refine WG.callV (c_X4_become (k := 13) isS_13 hS (by decide)) m_X5_75 b_X4_become rfl rfl rfl (zrk_of rfl) rfl (Nat.le_of_ble_eq_true rfl) dX5_image_8 (pc' := 11) rfl (fun r_ h_ q_ => ?_)
  obtain ⟨rfl, q1, q2⟩ := q_
  have f0 : zFr (fun o => o = 0) h_ (zI h_ 0 3 1) := zFr.rf.I rfl
  have hF : zFr (fun o => o = 0 ∨ zRg 13 6 o) h (zI h_ 0 3 1) := (q2.mo (fun _ => Or.inr)).tr (f0.mo (fun _ => Or.inl))
  have hS2 : RS 13 σ.1.1 σ.1.2 (zI h_ 0 3 1) := q1.fo f0 (fun o z => by omega)
  have e0 : ∀ i, i ≠ 3 → (zI h_ 0 3 1).1 0 i = h.1 0 i := fun i hi => by rw [zI_1, if_neg (by omega), q2.1 0 (fun ⟨z1, z2⟩ => by omega)]
  refine WG.aload_n (pc' := 12) dX5_image_11 rfl rfl ?_
  refine WG.iconst (v := 1) (pc' := 13) dX5_image_12 rfl rfl ?_
  refine WG.putI p_X5_22 (pc' := 16) dX5_image_13 rfl rfl rfl rfl rfl ?_
  refine WG.aload_n (pc' := 17) dX5_image_16 rfl rfl ?_
  refine WG.getR (r := 13) f_X5_19 (pc' := 20) dX5_image_17 rfl rfl rfl rfl ?_
  refine WG.getI f_X5_90 (pc' := 23) dX5_image_20 rfl rfl rfl ?_
  refine WG.ireturn dX5_image_23 rfl (by first | rfl | decide) ?_
  refine zok (σ' := zsK σ) ?_ (hF.mo (fun o z => by rcases z with z | ⟨z1, z2⟩; (show o < 86; omega); (show o < 86; omega))) rfl hS2.2.2.1
  obtain ⟨a, ⟨nx, b⟩, c0, d, e, g, k⟩ := hX
  have w : ∀ o, (o = 0 ∨ zRg 13 6 o) → o = 0 ∨ (13 ≤ o ∧ o < 19) := fun o z => z
  have np : ∀ o, ¬ (o = 0 ∨ (13 ≤ o ∧ o < 19)) → ¬ (o = 0 ∨ zRg 13 6 o) := fun o z y => z (w o y)
  exact ⟨a.fo hF (fun o z => by have := w o z; omega), ⟨nx, b.fo hF (fun o z => by have := w o z; omega)⟩, ⟨by rw [zI_1, if_pos ⟨rfl, rfl⟩], hS2⟩, ⟨d.1, by rw [e0 8 (by decide)]; exact d.2.1, by rw [hF.1 76 (np 76 (by omega))]; exact d.2.2⟩, ⟨e.1, by rw [e0 10 (by decide)]; exact e.2.1, by rw [hF.1 77 (np 77 (by omega))]; exact e.2.2⟩, fun l hl => (g l hl).fo hF (fun o z => by have := w o z; omega), by rw [hF.1 85 (np 85 (by omega))]; exact k⟩
set_option maxHeartbeats 4000000 in
set_option maxRecDepth 100000 in
theorem m_image {σ : zA} {h : zH} (hX : RM σ h) : K_X6_image [.ref 86] h (zPi RM zB2 h σ 0 (nI σ.1.1) (zsK σ)) := by
  have hS := hX.1
  refine CT.of rfl rfl (Nat.le_of_ble_eq_true rfl) rfl ?_
  refine WG.aload_n (pc' := 1) dX6_image_0 rfl rfl ?_
  refine WG.getR (r := 88) f_X6_23 (pc' := 4) dX6_image_1 rfl rfl rfl rfl ?_
  refine WG.iconst (v := 0) (pc' := 5) dX6_image_4 rfl rfl ?_
  refine WG.aload_n (pc' := 6) dX6_image_5 rfl rfl ?_
  refine WG.getR (r := 100) f_X6_60 (pc' := 9) dX6_image_6 rfl rfl rfl rfl ?_
  refine WG.iconst (v := 0) (pc' := 10) dX6_image_9 rfl rfl ?_
  refine WG.callS (c_X6_copies (b1 := 0) (b2 := 0) (o1 := 88) (o2 := 100) rfl rfl (by decide) (by decide) (by decide) (by decide) (by decide)) m_X6_99 b_X6_copies rfl (zrk_of rfl) rfl (Nat.le_of_ble_eq_true rfl) dX6_image_10 (pc' := 13) rfl (fun r_ h_ q_ => ?_)
  obtain ⟨rfl, q1, q2⟩ := q_
  have f0 : zFr (fun o => o = 86) h_ (zI h_ 86 22 1) := zFr.rf.I rfl
  have hF : zFr (fun o => o = 86 ∨ o = 100) h (zI h_ 86 22 1) := (q2.mo (fun _ => Or.inr)).tr (f0.mo (fun _ => Or.inl))
  have hS2 : RG 100 0 σ.1.1 σ.1.2 (zI h_ 86 22 1) := (hS.cp q1).fo f0 (by decide)
  have e0 : ∀ i, i ≠ 22 → (zI h_ 86 22 1).1 86 i = h.1 86 i := fun i hi => by rw [zI_1, if_neg (by omega), q2.1 86 (by decide)]
  have hS3 := hS.fo hF (by decide)
  refine WG.aload_n (pc' := 14) dX6_image_13 rfl rfl ?_
  refine WG.iconst (v := 1) (pc' := 15) dX6_image_14 rfl rfl ?_
  refine WG.putI p_X6_319 (pc' := 18) dX6_image_15 rfl rfl rfl rfl rfl ?_
  refine WG.aload_n (pc' := 19) dX6_image_18 rfl rfl ?_
  refine WG.callVd (c_X6_many hS3) m_X6_63 b_X6_many rfl rfl rfl (zrk_of rfl) rfl (Nat.le_of_ble_eq_true rfl) dX6_image_19 (pc' := 22) rfl ?_
  refine WG.ireturn dX6_image_22 rfl (by first | rfl | decide) ?_
  refine zok (σ' := zsK σ) ?_ (hF.mo (fun o z => by show 86 ≤ o; omega)) rfl rfl
  obtain ⟨a, b, c0, d, e, g, k⟩ := hX
  exact ⟨hS3, ⟨b.1, by rw [e0 4 (by decide)]; exact b.2.1, fun i hi => (b.2.2 i hi).fo hF (by decide)⟩, ⟨by rw [zI_1, if_pos ⟨rfl, rfl⟩], hS2⟩, ⟨d.1, by rw [e0 7 (by decide)]; exact d.2.1, by rw [hF.1 91 (by decide)]; exact d.2.2⟩, ⟨e.1, by rw [e0 16 (by decide)]; exact e.2.1, by rw [hF.1 96 (by decide)]; exact e.2.2⟩, fun l hl => (g l hl).fo hF (by decide) (by decide) (by decide), by rw [hF.1 87 (by decide)]; exact k⟩
noncomputable def zeN (K : Option (Nat × zf)) : Int32 := zes [(K = none, -3)]
def zon (σ : zA) : zA := match σ.2.2.1 with
  | none => σ
  | some S => (S, (0, σ.2.1.2), some S, σ.2.2.2)
def zvN (K : Option (Nat × zf)) : Int32 := match K with
  | none => 0
  | some S => nI S.1
set_option maxHeartbeats 4000000 in
set_option maxRecDepth 100000 in
theorem x_on {σ : zA} {h : zH} (hX : RX σ h) : K_X5_on [.ref 0] h (zPi RX zB1 h σ (zeN σ.2.2.1) (zvN σ.2.2.1) (zon σ)) := by
  have hX0 := hX
  have hS := hX.1
  obtain ⟨σ1, σ2, K, σ4⟩ := σ
  obtain ⟨a, ⟨nx, b⟩, c0, d, e, g, k⟩ := hX
  refine CT.of rfl rfl (Nat.le_of_ble_eq_true rfl) rfl ?_
  match K, c0, hX0 with
  | none, c0, hX0 =>
    have c0 : h.1 0 3 = 0 := c0
    refine WG.aload_n (pc' := 1) dX5_on_0 rfl rfl ?_
    refine WG.getI f_X5_22 (pc' := 4) dX5_on_1 rfl rfl rfl ?_
    rw [c0]
    refine WG.if_ne (tgt := 14) (pc' := 7) dX5_on_4 rfl (by decide) (fun c_4 => ?_) (fun c_4 => ?_)
    · exact absurd rfl c_4
    · refine WG.aload_n (pc' := 8) dX5_on_7 rfl rfl ?_
      refine WG.bipush (v := -3) (pc' := 10) dX5_on_8 rfl rfl ?_
      refine WG.callVd (c_X5_refuse 3 (by decide)) m_X5_71 b_X5_refuse rfl rfl rfl (zrk_of rfl) rfl (Nat.le_of_ble_eq_true rfl) dX5_on_10 (pc' := 13) rfl ?_
      refine WG.ireturn dX5_on_13 rfl (by first | rfl | decide) ?_
      exact zrX hX0 zFr.rf (by decide) (zes_t rfl)
  | some (n, f), c0, hX0 =>
    obtain ⟨c1, c2⟩ : h.1 0 3 = 1 ∧ RS 13 n f h := c0
    have hs1 := hS.1
    refine WG.aload_n (pc' := 1) dX5_on_0 rfl rfl ?_
    refine WG.getI f_X5_22 (pc' := 4) dX5_on_1 rfl rfl rfl ?_
    rw [c1]
    refine WG.if_ne (tgt := 14) (pc' := 7) dX5_on_4 rfl (by decide) (fun c_4 => ?_) (fun c_4 => ?_)
    · refine WG.aload_n (pc' := 15) dX5_on_14 rfl rfl ?_
      refine WG.getR (r := 1) f_X5_10 (pc' := 18) dX5_on_15 rfl rfl rfl rfl ?_
      refine WG.aload_n (pc' := 19) dX5_on_18 rfl rfl ?_
      refine WG.getR (r := 13) f_X5_19 (pc' := 22) dX5_on_19 rfl rfl rfl rfl ?_
      refine WG.callV (c_X4_become (k := 1) isS_1 c2 (by decide)) m_X5_75 b_X4_become rfl rfl rfl (zrk_of rfl) rfl (Nat.le_of_ble_eq_true rfl) dX5_on_22 (pc' := 25) rfl (fun r_ h_ q_ => ?_)
      obtain ⟨rfl, q1, q2⟩ := q_
      have f0 : zFr (fun o => o = 19) h_ (zI h_ 19 2 0) := zFr.rf.I rfl
      have hF : zFr (fun o => o = 19 ∨ zRg 1 6 o) h (zI h_ 19 2 0) := (q2.mo (fun _ => Or.inr)).tr (f0.mo (fun _ => Or.inl))
      have hS2 : RS 1 n f (zI h_ 19 2 0) := q1.fo f0 (fun o z => by omega)
      refine WG.aload_n (pc' := 26) dX5_on_25 rfl rfl ?_
      refine WG.getR (r := 19) f_X5_29 (pc' := 29) dX5_on_26 rfl rfl rfl rfl ?_
      refine WG.iconst (v := 0) (pc' := 30) dX5_on_29 rfl rfl ?_
      refine WG.putI p_X5_283 (pc' := 33) dX5_on_30 rfl rfl rfl rfl rfl ?_
      refine WG.aload_n (pc' := 34) dX5_on_33 rfl rfl ?_
      refine WG.getR (r := 1) f_X5_10 (pc' := 37) dX5_on_34 rfl rfl rfl rfl ?_
      refine WG.getI f_X5_90 (pc' := 40) dX5_on_37 rfl rfl rfl ?_
      refine WG.ireturn dX5_on_40 rfl (by first | rfl | decide) ?_
      refine zok (σ' := zon (σ1, σ2, some (n, f), σ4)) ?_ (hF.mo (fun o z => by rcases z with z | ⟨z1, z2⟩; (show o < 86; omega); (show o < 86; omega))) (zes_f (by simp)) hS2.2.2.1
      have w : ∀ o, (o = 19 ∨ zRg 1 6 o) → o = 19 ∨ (1 ≤ o ∧ o < 7) := fun o z => z
      have np : ∀ o, ¬ (o = 19 ∨ (1 ≤ o ∧ o < 7)) → ¬ (o = 19 ∨ zRg 1 6 o) := fun o z y => z (w o y)
      exact ⟨hS2, ⟨nx, ⟨Nat.zero_le _, b.2.1, by rw [zI_1, if_neg (by omega), q2.1 19 (fun ⟨z1, z2⟩ => by omega)]; exact b.2.2.1, by rw [zI_1, if_pos ⟨rfl, rfl⟩]; rfl, fun i hi => absurd hi (Nat.not_lt_zero _)⟩⟩, ⟨by rw [hF.1 0 (np 0 (by omega))]; exact c1, c2.fo hF (fun o z => by have := w o z; omega)⟩, d.fo hF (np 0 (by omega)) (np 76 (by omega)), e.fo hF (np 0 (by omega)) (np 77 (by omega)), fun l hl => (g l hl).fo hF (fun o z => by have := w o z; omega), by rw [hF.1 85 (np 85 (by omega))]; exact k⟩
    · exact absurd c_4 (by decide)
set_option maxHeartbeats 4000000 in
set_option maxRecDepth 100000 in
theorem m_on {σ : zA} {h : zH} (hX : RM σ h) : K_X6_on [.ref 86] h (zPi RM zB2 h σ (zeN σ.2.2.1) (zvN σ.2.2.1) (zon σ)) := by
  have hX0 := hX
  have hS := hX.1
  obtain ⟨σ1, σ2, K, σ4⟩ := σ
  obtain ⟨a, b, c0, d, e, g, k⟩ := hX
  refine CT.of rfl rfl (Nat.le_of_ble_eq_true rfl) rfl ?_
  match K, c0, hX0 with
  | none, c0, hX0 =>
    have c0 : h.1 86 22 = 0 := c0
    refine WG.aload_n (pc' := 1) dX6_on_0 rfl rfl ?_
    refine WG.getI f_X6_319 (pc' := 4) dX6_on_1 rfl rfl rfl ?_
    rw [c0]
    refine WG.if_ne (tgt := 14) (pc' := 7) dX6_on_4 rfl (by decide) (fun c_4 => ?_) (fun c_4 => ?_)
    · exact absurd rfl c_4
    · refine WG.aload_n (pc' := 8) dX6_on_7 rfl rfl ?_
      refine WG.bipush (v := -3) (pc' := 10) dX6_on_8 rfl rfl ?_
      refine WG.callVd (c_X6_no 3 (by decide)) m_X6_13 b_X6_no rfl rfl rfl (zrk_of rfl) rfl (Nat.le_of_ble_eq_true rfl) dX6_on_10 (pc' := 13) rfl ?_
      refine WG.ireturn dX6_on_13 rfl (by first | rfl | decide) ?_
      exact zrM hX0 zFr.rf (by decide) (zes_t rfl)
  | some (n, f), c0, hX0 =>
    obtain ⟨c1, c2⟩ : h.1 86 22 = 1 ∧ RG 100 0 n f h := c0
    refine WG.aload_n (pc' := 1) dX6_on_0 rfl rfl ?_
    refine WG.getI f_X6_319 (pc' := 4) dX6_on_1 rfl rfl rfl ?_
    rw [c1]
    refine WG.if_ne (tgt := 14) (pc' := 7) dX6_on_4 rfl (by decide) (fun c_4 => ?_) (fun c_4 => ?_)
    · refine WG.aload_n (pc' := 15) dX6_on_14 rfl rfl ?_
      refine WG.getR (r := 100) f_X6_60 (pc' := 18) dX6_on_15 rfl rfl rfl rfl ?_
      refine WG.iconst (v := 0) (pc' := 19) dX6_on_18 rfl rfl ?_
      refine WG.aload_n (pc' := 20) dX6_on_19 rfl rfl ?_
      refine WG.getR (r := 88) f_X6_23 (pc' := 23) dX6_on_20 rfl rfl rfl rfl ?_
      refine WG.iconst (v := 0) (pc' := 24) dX6_on_23 rfl rfl ?_
      refine WG.callS (c_X6_copies (b1 := 0) (b2 := 0) (o1 := 100) (o2 := 88) rfl rfl (by decide) (by decide) (by decide) (by decide) (by decide)) m_X6_99 b_X6_copies rfl (zrk_of rfl) rfl (Nat.le_of_ble_eq_true rfl) dX6_on_24 (pc' := 27) rfl (fun r_ h_ q_ => ?_)
      obtain ⟨rfl, q1, q2⟩ := q_
      have f0 : zFr (fun o => o = 86) h_ (zI h_ 86 4 0) := zFr.rf.I rfl
      have hF : zFr (fun o => o = 86 ∨ o = 88) h (zI h_ 86 4 0) := (q2.mo (fun _ => Or.inr)).tr (f0.mo (fun _ => Or.inl))
      have hS2 : RG 88 0 n f (zI h_ 86 4 0) := (c2.cp q1).fo f0 (by decide)
      have e0 : ∀ i, i ≠ 4 → (zI h_ 86 4 0).1 86 i = h.1 86 i := fun i hi => by rw [zI_1, if_neg (by omega), q2.1 86 (by decide)]
      refine WG.aload_n (pc' := 28) dX6_on_27 rfl rfl ?_
      refine WG.iconst (v := 0) (pc' := 29) dX6_on_28 rfl rfl ?_
      refine WG.putI p_X6_103 (pc' := 32) dX6_on_29 rfl rfl rfl rfl rfl ?_
      refine WG.aload_n (pc' := 33) dX6_on_32 rfl rfl ?_
      refine WG.callVd (c_X6_many hS2) m_X6_63 b_X6_many rfl rfl rfl (zrk_of rfl) rfl (Nat.le_of_ble_eq_true rfl) dX6_on_33 (pc' := 36) rfl ?_
      refine WG.ireturn dX6_on_36 rfl (by first | rfl | decide) ?_
      refine zok (σ' := zon (σ1, σ2, some (n, f), σ4)) ?_ (hF.mo (fun o z => by show 86 ≤ o; omega)) (zes_f (by simp)) rfl
      exact ⟨hS2, ⟨Nat.zero_le _, by rw [zI_1, if_pos ⟨rfl, rfl⟩]; rfl, fun i hi => absurd hi (Nat.not_lt_zero _)⟩, ⟨by rw [e0 22 (by decide)]; exact c1, c2.fo hF (by decide)⟩, ⟨d.1, by rw [e0 7 (by decide)]; exact d.2.1, by rw [hF.1 91 (by decide)]; exact d.2.2⟩, ⟨e.1, by rw [e0 16 (by decide)]; exact e.2.1, by rw [hF.1 96 (by decide)]; exact e.2.2⟩, fun l hl => (g l hl).fo hF (by decide) (by decide) (by decide), by rw [hF.1 87 (by decide)]; exact k⟩
    · exact absurd c_4 (by decide)
/-! worst -/
def zbt_ (f : zf) (n : Nat) (i : Nat) : Int32 := zabs (zmf f 0 n - zsp f i 0) + zabs (zmf f 1 n - zsp f i 1)
def zm0 (f : zf) (n : Nat) : Int32 := zabs (zmf f 0 n) + zabs (zmf f 1 n)
/-- the least so far, and where -/
def zws (f : zf) (n : Nat) : Nat → Int32 × Int32
  | 0 => (zm0 f n, -9)
  | i + 1 => if zbt_ f n i < (zws f n i).1 then (zbt_ f n i, nI i) else zws f n i
theorem zmg_all {f : zf} {n : Nat} (hn : n ≤ 8) : zmg f (zall n) n = zm0 f n := by unfold zmg zm0; rw [zms_all hn, zms_all hn]
theorem zmg_but {f : zf} {n s : Nat} (hn : n ≤ 8) (hs : s < n) : zmg f (zbut n s) n = zbt_ f n s := by unfold zmg zbt_; rw [zms_but hn hs, zms_but hn hs]
set_option maxHeartbeats 4000000 in
set_option maxRecDepth 100000 in
theorem x_worst {σ : zA} {h : zH} (hX : RX σ h) (w : Int32) : K_X5_worst [.ref 0, .int w] h (zPi RX zB1 h σ (zeW w) (if (zws σ.1.2 σ.1.1 σ.1.1).2 = -9 ∨ w = 0 then (zws σ.1.2 σ.1.1 σ.1.1).2 else (zws σ.1.2 σ.1.1 σ.1.1).1) σ) := by
  have hS := hX.1
  have hn := hS.2.1
  have h5 := hS.2.2.1
  refine CT.of rfl rfl (Nat.le_of_ble_eq_true rfl) rfl ?_
  have loop : (w = 0 ∨ w = 1) → ∀ (m i : Nat) (v : Option Value), i ≤ σ.1.1 → σ.1.1 - i < m → W_X5_worst (zPi RX zB1 h σ (zeW w) (if (zws σ.1.2 σ.1.1 σ.1.1).2 = -9 ∨ w = 0 then (zws σ.1.2 σ.1.1 σ.1.1).2 else (zws σ.1.2 σ.1.1 σ.1.1).1) σ) 35 [some (.ref 0), some (.int w), some (.int (zws σ.1.2 σ.1.1 i).1), some (.int (zws σ.1.2 σ.1.1 i).2), some (.int (nI i)), v] [] h := by
    intro hw m
    induction m with
    | zero => intro i v a b; omega
    | succ m ih =>
      intro i v hi hm
      refine WG.iload (pc' := 37) dX5_worst_35 rfl rfl ?_
      refine WG.aload_n (pc' := 38) dX5_worst_37 rfl rfl ?_
      refine WG.getR (r := 1) f_X5_10 (pc' := 41) dX5_worst_38 rfl rfl rfl rfl ?_
      refine WG.getI f_X5_90 (pc' := 44) dX5_worst_41 rfl rfl rfl ?_
      refine WG.icmp_ge (tgt := 83) (pc' := 47) dX5_worst_44 rfl (by decide) (fun c_44 => ?_) (fun c_44 => ?_)
      · have ei : i = σ.1.1 := by have := (zle h5 (by omega) (by omega)).mp c_44; omega
        rw [ei]
        refine WG.iload_n (pc' := 84) dX5_worst_83 rfl rfl ?_
        refine WG.if_eq (tgt := 93) (pc' := 87) dX5_worst_84 rfl (by decide) (fun c_84 => ?_) (fun c_84 => ?_)
        · refine WG.iload_n (pc' := 94) dX5_worst_93 rfl rfl ?_
          refine WG.goto (tgt := 98) dX5_worst_94 (by decide) ?_
          refine WG.ireturn dX5_worst_98 rfl (by first | rfl | decide) ?_
          exact zok hX zFr.rf (zes_n hw) (by clear ih; grind)
        · refine WG.iload_n (pc' := 88) dX5_worst_87 rfl rfl ?_
          refine WG.bipush (v := -9) (pc' := 90) dX5_worst_88 rfl rfl ?_
          refine WG.icmp_ne (tgt := 97) (pc' := 93) dX5_worst_90 rfl (by decide) (fun c_90 => ?_) (fun c_90 => ?_)
          · refine WG.iload_n (pc' := 98) dX5_worst_97 rfl rfl ?_
            refine WG.ireturn dX5_worst_98 rfl (by first | rfl | decide) ?_
            exact zok hX zFr.rf (zes_n hw) (by clear ih; grind)
          · refine WG.iload_n (pc' := 94) dX5_worst_93 rfl rfl ?_
            refine WG.goto (tgt := 98) dX5_worst_94 (by decide) ?_
            refine WG.ireturn dX5_worst_98 rfl (by first | rfl | decide) ?_
            exact zok hX zFr.rf (zes_n hw) (by clear ih; grind)
      · have hlt : i < σ.1.1 := by have := mt (zle (i := i) h5 (by omega) (by omega)).mpr c_44; omega
        have q := fun v => ih (i + 1) v hlt (by omega)
        rw [nI_succ] at q
        refine WG.aload_n (pc' := 48) dX5_worst_47 rfl rfl ?_
        refine WG.getR (r := 1) f_X5_10 (pc' := 51) dX5_worst_48 rfl rfl rfl rfl ?_
        refine WG.aload_n (pc' := 52) dX5_worst_51 rfl rfl ?_
        refine WG.getR (r := 1) f_X5_10 (pc' := 55) dX5_worst_52 rfl rfl rfl rfl ?_
        refine WG.iload (pc' := 57) dX5_worst_55 rfl rfl ?_
        refine WG.callVd (c_X4_allBut hS) m_X5_210 b_X4_allBut rfl rfl rfl (zrk_of rfl) rfl (Nat.le_of_ble_eq_true rfl) dX5_worst_57 (pc' := 60) rfl ?_
        refine WG.callVd (c_X4_missing hS _) m_X5_219 b_X4_missing rfl rfl rfl (zrk_of rfl) rfl (Nat.le_of_ble_eq_true rfl) dX5_worst_60 (pc' := 63) rfl ?_
        rw [zmg_but hn hlt]
        refine WG.istore (L' := [_, _, _, _, _, _]) (pc' := 65) dX5_worst_63 rfl (by decide) rfl ?_
        refine WG.iload (pc' := 67) dX5_worst_65 rfl rfl ?_
        refine WG.iload_n (pc' := 68) dX5_worst_67 rfl rfl ?_
        refine WG.icmp_ge (tgt := 77) (pc' := 71) dX5_worst_68 rfl (by decide) (fun c_68 => ?_) (fun c_68 => ?_)
        · rw [show zws σ.1.2 σ.1.1 (i + 1) = zws σ.1.2 σ.1.1 i from if_neg (by grind)] at q
          refine WG.iinc1 (L' := [_, _, _, _, _, _]) (pc' := 80) dX5_worst_77 rfl rfl (by decide) rfl ?_
          refine WG.goto (tgt := 35) dX5_worst_80 (by decide) ?_
          exact q _
        · rw [show zws σ.1.2 σ.1.1 (i + 1) = (zbt_ σ.1.2 σ.1.1 i, nI i) from if_pos (by grind)] at q
          refine WG.iload (pc' := 73) dX5_worst_71 rfl rfl ?_
          refine WG.istore_n (L' := [_, _, _, _, _, _]) (pc' := 74) dX5_worst_73 rfl (by decide) rfl ?_
          refine WG.iload (pc' := 76) dX5_worst_74 rfl rfl ?_
          refine WG.istore_n (L' := [_, _, _, _, _, _]) (pc' := 77) dX5_worst_76 rfl (by decide) rfl ?_
          refine WG.iinc1 (L' := [_, _, _, _, _, _]) (pc' := 80) dX5_worst_77 rfl rfl (by decide) rfl ?_
          refine WG.goto (tgt := 35) dX5_worst_80 (by decide) ?_
          exact q _
  refine WG.iload_n (pc' := 1) dX5_worst_0 rfl rfl ?_
  refine WG.callSd (c_X5_isOneOfTwo h w) m_X5_144 b_X5_isOneOfTwo rfl (zrk_of rfl) rfl (Nat.le_of_ble_eq_true rfl) dX5_worst_1 (pc' := 4) rfl ?_
  refine WG.if_ne (tgt := 14) (pc' := 7) dX5_worst_4 rfl (by decide) (fun c_4 => ?_) (fun c_4 => ?_)
  · rw [zb_ne] at c_4
    refine WG.aload_n (pc' := 15) dX5_worst_14 rfl rfl ?_
    refine WG.getR (r := 1) f_X5_10 (pc' := 18) dX5_worst_15 rfl rfl rfl rfl ?_
    refine WG.aload_n (pc' := 19) dX5_worst_18 rfl rfl ?_
    refine WG.getR (r := 1) f_X5_10 (pc' := 22) dX5_worst_19 rfl rfl rfl rfl ?_
    refine WG.callVd (c_X4_all hS) m_X5_147 b_X4_all rfl rfl rfl (zrk_of rfl) rfl (Nat.le_of_ble_eq_true rfl) dX5_worst_22 (pc' := 25) rfl ?_
    refine WG.callVd (c_X4_missing hS _) m_X5_219 b_X4_missing rfl rfl rfl (zrk_of rfl) rfl (Nat.le_of_ble_eq_true rfl) dX5_worst_25 (pc' := 28) rfl ?_
    rw [zmg_all hn]
    refine WG.istore_n (L' := [_, _, _, _, _, _]) (pc' := 29) dX5_worst_28 rfl (by decide) rfl ?_
    refine WG.bipush (v := -9) (pc' := 31) dX5_worst_29 rfl rfl ?_
    refine WG.istore_n (L' := [_, _, _, _, _, _]) (pc' := 32) dX5_worst_31 rfl (by decide) rfl ?_
    refine WG.iconst (v := 0) (pc' := 33) dX5_worst_32 rfl rfl ?_
    refine WG.istore (L' := [_, _, _, _, _, _]) (pc' := 35) dX5_worst_33 rfl (by decide) rfl ?_
    exact loop c_4 (σ.1.1 + 1) 0 _ (by omega) (by omega)
  · rw [zb_eq] at c_4
    refine WG.aload_n (pc' := 8) dX5_worst_7 rfl rfl ?_
    refine WG.bipush (v := -2) (pc' := 10) dX5_worst_8 rfl rfl ?_
    refine WG.callVd (c_X5_refuse 2 (by decide)) m_X5_71 b_X5_refuse rfl rfl rfl (zrk_of rfl) rfl (Nat.le_of_ble_eq_true rfl) dX5_worst_10 (pc' := 13) rfl ?_
    refine WG.ireturn dX5_worst_13 rfl (by first | rfl | decide) ?_
    exact zrX hX zFr.rf (by decide) (zes_t c_4)
set_option maxHeartbeats 4000000 in
set_option maxRecDepth 100000 in
theorem c_X6_missWithout9 {h : zH} {n : Nat} {f : zf} (hG : RG 88 0 n f h) : K_X6_missWithout [.ref 86, .int (-9)] h (zD (some (.int (zm0 f n))) h) := by
  refine CT.of rfl rfl (Nat.le_of_ble_eq_true rfl) rfl ?_
  have J2 : W_X6_missWithout (zD (some (.int (zm0 f n))) h) 4 [some (.ref 86), some (.int (-9)), some (.int (0 + zabs (zmf f 0 n - 0) + zabs (zmf f 1 n - 0))), some (.int (0 + 1 + 1))] [] h := by
    refine WG.iload_n (pc' := 5) dX6_missWithout_4 rfl rfl ?_
    refine WG.iconst (v := 2) (pc' := 6) dX6_missWithout_5 rfl rfl ?_
    refine WG.icmp_ge (tgt := 43) (pc' := 9) dX6_missWithout_6 rfl (by decide) (fun c_6 => ?_) (fun c_6 => ?_)
    · refine WG.iload_n (pc' := 44) dX6_missWithout_43 rfl rfl ?_
      refine WG.ireturn dX6_missWithout_44 rfl (by first | rfl | decide) ?_
      exact ⟨by unfold zm0; simp, rfl⟩
    · exact absurd (by decide) c_6
  have J1 : W_X6_missWithout (zD (some (.int (zm0 f n))) h) 4 [some (.ref 86), some (.int (-9)), some (.int (0 + zabs (zmf f 0 n - 0))), some (.int (0 + 1))] [] h := by
    refine WG.iload_n (pc' := 5) dX6_missWithout_4 rfl rfl ?_
    refine WG.iconst (v := 2) (pc' := 6) dX6_missWithout_5 rfl rfl ?_
    refine WG.icmp_ge (tgt := 43) (pc' := 9) dX6_missWithout_6 rfl (by decide) (fun c_6 => ?_) (fun c_6 => ?_)
    · exact absurd c_6 (by decide)
    · refine WG.iload_n (pc' := 10) dX6_missWithout_9 rfl rfl ?_
      refine WG.aload_n (pc' := 11) dX6_missWithout_10 rfl rfl ?_
      refine WG.iload_n (pc' := 12) dX6_missWithout_11 rfl rfl ?_
      refine WG.callVd (c_X6_missOf (a := 1) hG (by decide)) m_X6_181 b_X6_missOf rfl rfl rfl (zrk_of rfl) rfl (Nat.le_of_ble_eq_true rfl) dX6_missWithout_12 (pc' := 15) rfl ?_
      refine WG.iload_n (pc' := 16) dX6_missWithout_15 rfl rfl ?_
      refine WG.bipush (v := -9) (pc' := 18) dX6_missWithout_16 rfl rfl ?_
      refine WG.icmp_ne (tgt := 25) (pc' := 21) dX6_missWithout_18 rfl (by decide) (fun c_18 => ?_) (fun c_18 => ?_)
      · exact absurd rfl c_18
      · refine WG.iconst (v := 0) (pc' := 22) dX6_missWithout_21 rfl rfl ?_
        refine WG.goto (tgt := 31) dX6_missWithout_22 (by decide) ?_
        refine WG.isub (pc' := 32) dX6_missWithout_31 rfl ?_
        refine WG.callSd (c_X6_size h _) m_X6_71 b_X6_size rfl (zrk_of rfl) rfl (Nat.le_of_ble_eq_true rfl) dX6_missWithout_32 (pc' := 35) rfl ?_
        refine WG.iadd (pc' := 36) dX6_missWithout_35 rfl ?_
        refine WG.istore_n (L' := [_, _, _, _]) (pc' := 37) dX6_missWithout_36 rfl (by decide) rfl ?_
        refine WG.iinc1 (L' := [_, _, _, _]) (pc' := 40) dX6_missWithout_37 rfl rfl (by decide) rfl ?_
        refine WG.goto (tgt := 4) dX6_missWithout_40 (by decide) ?_
        exact J2
  refine WG.iconst (v := 0) (pc' := 1) dX6_missWithout_0 rfl rfl ?_
  refine WG.istore_n (L' := [_, _, _, _]) (pc' := 2) dX6_missWithout_1 rfl (by decide) rfl ?_
  refine WG.iconst (v := 0) (pc' := 3) dX6_missWithout_2 rfl rfl ?_
  refine WG.istore_n (L' := [_, _, _, _]) (pc' := 4) dX6_missWithout_3 rfl (by decide) rfl ?_
  skip
  refine WG.iload_n (pc' := 5) dX6_missWithout_4 rfl rfl ?_
  refine WG.iconst (v := 2) (pc' := 6) dX6_missWithout_5 rfl rfl ?_
  refine WG.icmp_ge (tgt := 43) (pc' := 9) dX6_missWithout_6 rfl (by decide) (fun c_6 => ?_) (fun c_6 => ?_)
  · exact absurd c_6 (by decide)
  · refine WG.iload_n (pc' := 10) dX6_missWithout_9 rfl rfl ?_
    refine WG.aload_n (pc' := 11) dX6_missWithout_10 rfl rfl ?_
    refine WG.iload_n (pc' := 12) dX6_missWithout_11 rfl rfl ?_
    refine WG.callVd (c_X6_missOf (a := 0) hG (by decide)) m_X6_181 b_X6_missOf rfl rfl rfl (zrk_of rfl) rfl (Nat.le_of_ble_eq_true rfl) dX6_missWithout_12 (pc' := 15) rfl ?_
    refine WG.iload_n (pc' := 16) dX6_missWithout_15 rfl rfl ?_
    refine WG.bipush (v := -9) (pc' := 18) dX6_missWithout_16 rfl rfl ?_
    refine WG.icmp_ne (tgt := 25) (pc' := 21) dX6_missWithout_18 rfl (by decide) (fun c_18 => ?_) (fun c_18 => ?_)
    · exact absurd rfl c_18
    · refine WG.iconst (v := 0) (pc' := 22) dX6_missWithout_21 rfl rfl ?_
      refine WG.goto (tgt := 31) dX6_missWithout_22 (by decide) ?_
      refine WG.isub (pc' := 32) dX6_missWithout_31 rfl ?_
      refine WG.callSd (c_X6_size h _) m_X6_71 b_X6_size rfl (zrk_of rfl) rfl (Nat.le_of_ble_eq_true rfl) dX6_missWithout_32 (pc' := 35) rfl ?_
      refine WG.iadd (pc' := 36) dX6_missWithout_35 rfl ?_
      refine WG.istore_n (L' := [_, _, _, _]) (pc' := 37) dX6_missWithout_36 rfl (by decide) rfl ?_
      refine WG.iinc1 (L' := [_, _, _, _]) (pc' := 40) dX6_missWithout_37 rfl rfl (by decide) rfl ?_
      refine WG.goto (tgt := 4) dX6_missWithout_40 (by decide) ?_
      exact J1
set_option maxHeartbeats 4000000 in
set_option maxRecDepth 100000 in
theorem c_X6_missWithout {h : zH} {n i : Nat} {f : zf} (hG : RG 88 0 n f h) (hi : i < n) : K_X6_missWithout [.ref 86, .int (nI i)] h (zD (some (.int (zbt_ f n i))) h) := by
  have hn := hG.1
  have h9 : ¬ nI i = -9 := fun q => by
    have := nI_pos' (n := i) (by omega)
    rw [q] at this
    exact absurd this (by decide)
  refine CT.of rfl rfl (Nat.le_of_ble_eq_true rfl) rfl ?_
  have J2 : W_X6_missWithout (zD (some (.int (zbt_ f n i))) h) 4 [some (.ref 86), some (.int (nI i)), some (.int (0 + zabs (zmf f 0 n - zsp f i 0) + zabs (zmf f 1 n - zsp f i 1))), some (.int (0 + 1 + 1))] [] h := by
    refine WG.iload_n (pc' := 5) dX6_missWithout_4 rfl rfl ?_
    refine WG.iconst (v := 2) (pc' := 6) dX6_missWithout_5 rfl rfl ?_
    refine WG.icmp_ge (tgt := 43) (pc' := 9) dX6_missWithout_6 rfl (by decide) (fun c_6 => ?_) (fun c_6 => ?_)
    · refine WG.iload_n (pc' := 44) dX6_missWithout_43 rfl rfl ?_
      refine WG.ireturn dX6_missWithout_44 rfl (by first | rfl | decide) ?_
      exact ⟨by unfold zbt_; simp, rfl⟩
    · exact absurd (by decide) c_6
  have J1 : W_X6_missWithout (zD (some (.int (zbt_ f n i))) h) 4 [some (.ref 86), some (.int (nI i)), some (.int (0 + zabs (zmf f 0 n - zsp f i 0))), some (.int (0 + 1))] [] h := by
    refine WG.iload_n (pc' := 5) dX6_missWithout_4 rfl rfl ?_
    refine WG.iconst (v := 2) (pc' := 6) dX6_missWithout_5 rfl rfl ?_
    refine WG.icmp_ge (tgt := 43) (pc' := 9) dX6_missWithout_6 rfl (by decide) (fun c_6 => ?_) (fun c_6 => ?_)
    · exact absurd c_6 (by decide)
    · refine WG.iload_n (pc' := 10) dX6_missWithout_9 rfl rfl ?_
      refine WG.aload_n (pc' := 11) dX6_missWithout_10 rfl rfl ?_
      refine WG.iload_n (pc' := 12) dX6_missWithout_11 rfl rfl ?_
      refine WG.callVd (c_X6_missOf (a := 1) hG (by decide)) m_X6_181 b_X6_missOf rfl rfl rfl (zrk_of rfl) rfl (Nat.le_of_ble_eq_true rfl) dX6_missWithout_12 (pc' := 15) rfl ?_
      refine WG.iload_n (pc' := 16) dX6_missWithout_15 rfl rfl ?_
      refine WG.bipush (v := -9) (pc' := 18) dX6_missWithout_16 rfl rfl ?_
      refine WG.icmp_ne (tgt := 25) (pc' := 21) dX6_missWithout_18 rfl (by decide) (fun c_18 => ?_) (fun c_18 => ?_)
      · refine WG.aload_n (pc' := 26) dX6_missWithout_25 rfl rfl ?_
        refine WG.iload_n (pc' := 27) dX6_missWithout_26 rfl rfl ?_
        refine WG.iload_n (pc' := 28) dX6_missWithout_27 rfl rfl ?_
        refine WG.callVd (c_X6_step (a := 1) hG hi (by decide)) m_X6_93 b_X6_step rfl rfl rfl (zrk_of rfl) rfl (Nat.le_of_ble_eq_true rfl) dX6_missWithout_28 (pc' := 31) rfl ?_
        refine WG.isub (pc' := 32) dX6_missWithout_31 rfl ?_
        refine WG.callSd (c_X6_size h _) m_X6_71 b_X6_size rfl (zrk_of rfl) rfl (Nat.le_of_ble_eq_true rfl) dX6_missWithout_32 (pc' := 35) rfl ?_
        refine WG.iadd (pc' := 36) dX6_missWithout_35 rfl ?_
        refine WG.istore_n (L' := [_, _, _, _]) (pc' := 37) dX6_missWithout_36 rfl (by decide) rfl ?_
        refine WG.iinc1 (L' := [_, _, _, _]) (pc' := 40) dX6_missWithout_37 rfl rfl (by decide) rfl ?_
        refine WG.goto (tgt := 4) dX6_missWithout_40 (by decide) ?_
        exact J2
      · exact absurd c_18 h9
  refine WG.iconst (v := 0) (pc' := 1) dX6_missWithout_0 rfl rfl ?_
  refine WG.istore_n (L' := [_, _, _, _]) (pc' := 2) dX6_missWithout_1 rfl (by decide) rfl ?_
  refine WG.iconst (v := 0) (pc' := 3) dX6_missWithout_2 rfl rfl ?_
  refine WG.istore_n (L' := [_, _, _, _]) (pc' := 4) dX6_missWithout_3 rfl (by decide) rfl ?_
  skip
  refine WG.iload_n (pc' := 5) dX6_missWithout_4 rfl rfl ?_
  refine WG.iconst (v := 2) (pc' := 6) dX6_missWithout_5 rfl rfl ?_
  refine WG.icmp_ge (tgt := 43) (pc' := 9) dX6_missWithout_6 rfl (by decide) (fun c_6 => ?_) (fun c_6 => ?_)
  · exact absurd c_6 (by decide)
  · refine WG.iload_n (pc' := 10) dX6_missWithout_9 rfl rfl ?_
    refine WG.aload_n (pc' := 11) dX6_missWithout_10 rfl rfl ?_
    refine WG.iload_n (pc' := 12) dX6_missWithout_11 rfl rfl ?_
    refine WG.callVd (c_X6_missOf (a := 0) hG (by decide)) m_X6_181 b_X6_missOf rfl rfl rfl (zrk_of rfl) rfl (Nat.le_of_ble_eq_true rfl) dX6_missWithout_12 (pc' := 15) rfl ?_
    refine WG.iload_n (pc' := 16) dX6_missWithout_15 rfl rfl ?_
    refine WG.bipush (v := -9) (pc' := 18) dX6_missWithout_16 rfl rfl ?_
    refine WG.icmp_ne (tgt := 25) (pc' := 21) dX6_missWithout_18 rfl (by decide) (fun c_18 => ?_) (fun c_18 => ?_)
    · refine WG.aload_n (pc' := 26) dX6_missWithout_25 rfl rfl ?_
      refine WG.iload_n (pc' := 27) dX6_missWithout_26 rfl rfl ?_
      refine WG.iload_n (pc' := 28) dX6_missWithout_27 rfl rfl ?_
      refine WG.callVd (c_X6_step (a := 0) hG hi (by decide)) m_X6_93 b_X6_step rfl rfl rfl (zrk_of rfl) rfl (Nat.le_of_ble_eq_true rfl) dX6_missWithout_28 (pc' := 31) rfl ?_
      refine WG.isub (pc' := 32) dX6_missWithout_31 rfl ?_
      refine WG.callSd (c_X6_size h _) m_X6_71 b_X6_size rfl (zrk_of rfl) rfl (Nat.le_of_ble_eq_true rfl) dX6_missWithout_32 (pc' := 35) rfl ?_
      refine WG.iadd (pc' := 36) dX6_missWithout_35 rfl ?_
      refine WG.istore_n (L' := [_, _, _, _]) (pc' := 37) dX6_missWithout_36 rfl (by decide) rfl ?_
      refine WG.iinc1 (L' := [_, _, _, _]) (pc' := 40) dX6_missWithout_37 rfl rfl (by decide) rfl ?_
      refine WG.goto (tgt := 4) dX6_missWithout_40 (by decide) ?_
      exact J1
    · exact absurd c_18 h9
set_option maxHeartbeats 4000000 in
set_option maxRecDepth 100000 in
theorem m_worst {σ : zA} {h : zH} (hX : RM σ h) (w : Int32) : K_X6_worst [.ref 86, .int w] h (zPi RM zB2 h σ (zeW w) (if (zws σ.1.2 σ.1.1 σ.1.1).2 = -9 ∨ w = 0 then (zws σ.1.2 σ.1.1 σ.1.1).2 else (zws σ.1.2 σ.1.1 σ.1.1).1) σ) := by
  have hS := hX.1
  have hn := hS.1
  refine CT.of rfl rfl (Nat.le_of_ble_eq_true rfl) rfl ?_
  have loop : (w = 0 ∨ w = 1) → ∀ (m i : Nat) (v : Option Value), i ≤ σ.1.1 → σ.1.1 - i < m → W_X6_worst (zPi RM zB2 h σ (zeW w) (if (zws σ.1.2 σ.1.1 σ.1.1).2 = -9 ∨ w = 0 then (zws σ.1.2 σ.1.1 σ.1.1).2 else (zws σ.1.2 σ.1.1 σ.1.1).1) σ) 30 [some (.ref 86), some (.int w), some (.int (zws σ.1.2 σ.1.1 i).2), some (.int (zws σ.1.2 σ.1.1 i).1), some (.int (nI i)), v] [] h := by
    intro hw m
    induction m with
    | zero => intro i v a b; omega
    | succ m ih =>
      intro i v hi hm
      refine WG.iload (pc' := 32) dX6_worst_30 rfl rfl ?_
      refine WG.aload_n (pc' := 33) dX6_worst_32 rfl rfl ?_
      refine WG.callVd (c_X6_many hS) m_X6_63 b_X6_many rfl rfl rfl (zrk_of rfl) rfl (Nat.le_of_ble_eq_true rfl) dX6_worst_33 (pc' := 36) rfl ?_
      refine WG.icmp_ge (tgt := 68) (pc' := 39) dX6_worst_36 rfl (by decide) (fun c_36 => ?_) (fun c_36 => ?_)
      · have ei : i = σ.1.1 := by have := (nI_leI (by omega) (by omega)).mp c_36; omega
        rw [ei]
        refine WG.iload_n (pc' := 69) dX6_worst_68 rfl rfl ?_
        refine WG.bipush (v := -9) (pc' := 71) dX6_worst_69 rfl rfl ?_
        refine WG.icmp_eq (tgt := 78) (pc' := 74) dX6_worst_71 rfl (by decide) (fun c_71 => ?_) (fun c_71 => ?_)
        · refine WG.iload_n (pc' := 79) dX6_worst_78 rfl rfl ?_
          refine WG.goto (tgt := 83) dX6_worst_79 (by decide) ?_
          refine WG.ireturn dX6_worst_83 rfl (by first | rfl | decide) ?_
          exact zok hX zFr.rf (zes_n hw) (by clear ih; grind)
        · refine WG.iload_n (pc' := 75) dX6_worst_74 rfl rfl ?_
          refine WG.if_ne (tgt := 82) (pc' := 78) dX6_worst_75 rfl (by decide) (fun c_75 => ?_) (fun c_75 => ?_)
          · refine WG.iload_n (pc' := 83) dX6_worst_82 rfl rfl ?_
            refine WG.ireturn dX6_worst_83 rfl (by first | rfl | decide) ?_
            exact zok hX zFr.rf (zes_n hw) (by clear ih; grind)
          · refine WG.iload_n (pc' := 79) dX6_worst_78 rfl rfl ?_
            refine WG.goto (tgt := 83) dX6_worst_79 (by decide) ?_
            refine WG.ireturn dX6_worst_83 rfl (by first | rfl | decide) ?_
            exact zok hX zFr.rf (zes_n hw) (by clear ih; grind)
      · have hlt : i < σ.1.1 := by have := mt (nI_leI (a := σ.1.1) (b := i) (by omega) (by omega)).mpr c_36; omega
        have q := fun v => ih (i + 1) v hlt (by omega)
        rw [nI_succ] at q
        refine WG.aload_n (pc' := 40) dX6_worst_39 rfl rfl ?_
        refine WG.iload (pc' := 42) dX6_worst_40 rfl rfl ?_
        refine WG.callVd (c_X6_missWithout hS hlt) m_X6_279 b_X6_missWithout rfl rfl rfl (zrk_of rfl) rfl (Nat.le_of_ble_eq_true rfl) dX6_worst_42 (pc' := 45) rfl ?_
        refine WG.istore (L' := [_, _, _, _, _, _]) (pc' := 47) dX6_worst_45 rfl (by decide) rfl ?_
        refine WG.iload (pc' := 49) dX6_worst_47 rfl rfl ?_
        refine WG.iload_n (pc' := 50) dX6_worst_49 rfl rfl ?_
        refine WG.icmp_lt (tgt := 56) (pc' := 53) dX6_worst_50 rfl (by decide) (fun c_50 => ?_) (fun c_50 => ?_)
        · rw [show zws σ.1.2 σ.1.1 (i + 1) = (zbt_ σ.1.2 σ.1.1 i, nI i) from if_pos (by grind)] at q
          refine WG.iload (pc' := 58) dX6_worst_56 rfl rfl ?_
          refine WG.istore_n (L' := [_, _, _, _, _, _]) (pc' := 59) dX6_worst_58 rfl (by decide) rfl ?_
          refine WG.iload (pc' := 61) dX6_worst_59 rfl rfl ?_
          refine WG.istore_n (L' := [_, _, _, _, _, _]) (pc' := 62) dX6_worst_61 rfl (by decide) rfl ?_
          refine WG.iinc1 (L' := [_, _, _, _, _, _]) (pc' := 65) dX6_worst_62 rfl rfl (by decide) rfl ?_
          refine WG.goto (tgt := 30) dX6_worst_65 (by decide) ?_
          exact q _
        · rw [show zws σ.1.2 σ.1.1 (i + 1) = zws σ.1.2 σ.1.1 i from if_neg (by grind)] at q
          refine WG.goto (tgt := 62) dX6_worst_53 (by decide) ?_
          refine WG.iinc1 (L' := [_, _, _, _, _, _]) (pc' := 65) dX6_worst_62 rfl rfl (by decide) rfl ?_
          refine WG.goto (tgt := 30) dX6_worst_65 (by decide) ?_
          exact q _
  refine WG.iload_n (pc' := 1) dX6_worst_0 rfl rfl ?_
  refine WG.i2l (pc' := 2) dX6_worst_1 rfl ?_
  refine WG.lconst (v := 0) (pc' := 3) dX6_worst_2 rfl rfl ?_
  refine WG.lconst (v := 1) (pc' := 4) dX6_worst_3 rfl rfl ?_
  refine WG.callSd (c_X6_in _ _ _ _) m_X6_67 b_X6_in rfl (zrk_of rfl) rfl (Nat.le_of_ble_eq_true rfl) dX6_worst_4 (pc' := 7) rfl ?_
  refine WG.if_ne (tgt := 17) (pc' := 10) dX6_worst_7 rfl (by decide) (fun c_7 => ?_) (fun c_7 => ?_)
  · rw [zb_ne, zin01] at c_7
    refine WG.bipush (v := -9) (pc' := 19) dX6_worst_17 rfl rfl ?_
    refine WG.istore_n (L' := [_, _, _, _, _, _]) (pc' := 20) dX6_worst_19 rfl (by decide) rfl ?_
    refine WG.aload_n (pc' := 21) dX6_worst_20 rfl rfl ?_
    refine WG.bipush (v := -9) (pc' := 23) dX6_worst_21 rfl rfl ?_
    refine WG.callVd (c_X6_missWithout9 hS) m_X6_279 b_X6_missWithout rfl rfl rfl (zrk_of rfl) rfl (Nat.le_of_ble_eq_true rfl) dX6_worst_23 (pc' := 26) rfl ?_
    refine WG.istore_n (L' := [_, _, _, _, _, _]) (pc' := 27) dX6_worst_26 rfl (by decide) rfl ?_
    refine WG.iconst (v := 0) (pc' := 28) dX6_worst_27 rfl rfl ?_
    refine WG.istore (L' := [_, _, _, _, _, _]) (pc' := 30) dX6_worst_28 rfl (by decide) rfl ?_
    exact loop c_7 (σ.1.1 + 1) 0 _ (by omega) (by omega)
  · rw [zb_eq, zin01] at c_7
    refine WG.aload_n (pc' := 11) dX6_worst_10 rfl rfl ?_
    refine WG.bipush (v := -2) (pc' := 13) dX6_worst_11 rfl rfl ?_
    refine WG.callVd (c_X6_no 2 (by decide)) m_X6_13 b_X6_no rfl rfl rfl (zrk_of rfl) rfl (Nat.le_of_ble_eq_true rfl) dX6_worst_13 (pc' := 16) rfl ?_
    refine WG.ireturn dX6_worst_16 rfl (by first | rfl | decide) ?_
    exact zrM hX zFr.rf (by decide) (zes_t c_7)
