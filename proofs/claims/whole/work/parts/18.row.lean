/-! a list (Row object k): missing, or its sort, size, numbers -/
abbrev zls : Type := Option (Int32 × Nat × (Nat → Int64))
def RR (k : Nat) (l : zls) (h : zH) : Prop := isR k ∧ match l with
  | none => h.1 k 1 = -1
  | some (s, m, g) => m ≤ 20 ∧ (s = 0 ∨ s = 1) ∧ h.1 k 1 = nI m ∧ h.1 k 2 = s ∧ ∀ i, i < m → h.2 (k + 1) i = g i
theorem isR_c {k : Nat} (h : isR k) : k = 79 ∨ k = 81 ∨ k = 83 := by simpa [isR] using h
theorem RR.fo {k : Nat} {l : zls} {P : Nat → Prop} {h h' : zH} (hR : RR k l h) (hf : zFr P h h') (hP : ∀ o, P o → o < k ∨ k + 2 ≤ o) : RR k l h' := by
  obtain ⟨a, b⟩ := hR
  have e : ∀ o, k ≤ o → o < k + 2 → h'.1 o = h.1 o ∧ h'.2 o = h.2 o := fun o h1 h2 => ⟨hf.1 o (fun q => by have := hP o q; omega), hf.2 o (fun q => by have := hP o q; omega)⟩
  refine ⟨a, ?_⟩
  match l, b with
  | none, b => show h'.1 k 1 = -1; rw [(e k (by omega) (by omega)).1]; exact b
  | some (s, m, g), b =>
    obtain ⟨b1, b2, b3, b4, b5⟩ := b
    exact ⟨b1, b2, by rw [(e k (by omega) (by omega)).1]; exact b3, by rw [(e k (by omega) (by omega)).1]; exact b4, by rw [(e (k + 1) (by omega) (by omega)).2]; exact b5⟩
def zcut (s : Int32) (v : Int64) : Int64 := if s = 1 then v.toInt32.toInt64 else v
def zup (g : Nat → Int64) (j : Nat) (v : Int64) : Nat → Int64 := fun i => if i = j then v else g i
set_option maxHeartbeats 4000000 in
set_option maxRecDepth 100000 in
theorem c_X3_isMissing {k : Nat} {l : zls} {h : zH} (hR : RR k l h) : K_X3_isMissing [.ref k] h (zD (some (.int (zb (l = none)))) h) := by
  obtain ⟨hk, hb⟩ := hR
  refine CT.of rfl rfl (Nat.le_of_ble_eq_true rfl) rfl ?_
  match l, hb with
  | none, hb =>
    have hb : h.1 k 1 = -1 := hb
    refine WG.aload_n (pc' := 1) dX3_isMissing_0 rfl rfl ?_
    refine WG.getI f_X3_15 (pc' := 4) dX3_isMissing_1 rfl (zRo (by assumption)) rfl ?_
    rw [hb]
    refine WG.if_ge (tgt := 11) (pc' := 7) dX3_isMissing_4 rfl (by decide) (fun c_4 => ?_) (fun c_4 => ?_)
    · exact absurd c_4 (by decide)
    · refine WG.iconst (v := 1) (pc' := 8) dX3_isMissing_7 rfl rfl ?_
      refine WG.goto (tgt := 12) dX3_isMissing_8 (by decide) ?_
      refine WG.ireturn dX3_isMissing_12 rfl (by first | rfl | decide) ?_
      exact ⟨by rw [zb_t rfl], rfl⟩
  | some (s, m, g), hb =>
    have hb : h.1 k 1 = nI m := hb.2.2.1
    refine WG.aload_n (pc' := 1) dX3_isMissing_0 rfl rfl ?_
    refine WG.getI f_X3_15 (pc' := 4) dX3_isMissing_1 rfl (zRo (by assumption)) rfl ?_
    rw [hb]
    refine WG.if_ge (tgt := 11) (pc' := 7) dX3_isMissing_4 rfl (by decide) (fun c_4 => ?_) (fun c_4 => ?_)
    · refine WG.iconst (v := 0) (pc' := 12) dX3_isMissing_11 rfl rfl ?_
      refine WG.ireturn dX3_isMissing_12 rfl (by first | rfl | decide) ?_
      exact ⟨by rw [zb_f (by simp)], rfl⟩
    · exact absurd (nI_pos' (by omega)) c_4
set_option maxHeartbeats 4000000 in
set_option maxRecDepth 100000 in
theorem c_X3_has {k m : Nat} {s x : Int32} {g : Nat → Int64} {h : zH} (hR : RR k (some (s, m, g)) h) : K_X3_has [.ref k, .int x] h (zD (some (.int (zb (zsd m x)))) h) := by
  obtain ⟨hk, hm, hs, h1, h2, hg⟩ := hR
  refine CT.of rfl rfl (Nat.le_of_ble_eq_true rfl) rfl ?_
  refine WG.iload_n (pc' := 1) dX3_has_0 rfl rfl ?_
  refine WG.if_lt (tgt := 16) (pc' := 4) dX3_has_1 rfl (by decide) (fun c_1 => ?_) (fun c_1 => ?_)
  · refine WG.iconst (v := 0) (pc' := 17) dX3_has_16 rfl rfl ?_
    refine WG.ireturn dX3_has_17 rfl (by first | rfl | decide) ?_
    exact ⟨by first | (rw [zb_t (by unfold zsd; grind)]; done) | (rw [zb_f (by unfold zsd; grind)]; done), rfl⟩
  · refine WG.iload_n (pc' := 5) dX3_has_4 rfl rfl ?_
    refine WG.aload_n (pc' := 6) dX3_has_5 rfl rfl ?_
    refine WG.getI f_X3_15 (pc' := 9) dX3_has_6 rfl (zRo (by assumption)) rfl ?_
    refine WG.icmp_ge (tgt := 16) (pc' := 12) dX3_has_9 rfl (by decide) (fun c_9 => ?_) (fun c_9 => ?_)
    · rw [h1] at c_9
      refine WG.iconst (v := 0) (pc' := 17) dX3_has_16 rfl rfl ?_
      refine WG.ireturn dX3_has_17 rfl (by first | rfl | decide) ?_
      exact ⟨by first | (rw [zb_t (by unfold zsd; grind)]; done) | (rw [zb_f (by unfold zsd; grind)]; done), rfl⟩
    · rw [h1] at c_9
      refine WG.iconst (v := 1) (pc' := 13) dX3_has_12 rfl rfl ?_
      refine WG.goto (tgt := 17) dX3_has_13 (by decide) ?_
      refine WG.ireturn dX3_has_17 rfl (by first | rfl | decide) ?_
      exact ⟨by first | (rw [zb_t (by unfold zsd; grind)]; done) | (rw [zb_f (by unfold zsd; grind)]; done), rfl⟩
def zha (m : Nat) (i n : Int32) : Prop := ¬ i < 0 ∧ ¬ n < 0 ∧ ¬ nI m < n ∧ ¬ nI m - n < i
set_option maxHeartbeats 4000000 in
set_option maxRecDepth 100000 in
theorem c_X3_hasAll {k m : Nat} {s x y : Int32} {g : Nat → Int64} {h : zH} (hR : RR k (some (s, m, g)) h) : K_X3_hasAll [.ref k, .int x, .int y] h (zD (some (.int (zb (zha m x y)))) h) := by
  obtain ⟨hk, hm, hs, h1, h2, hg⟩ := hR
  refine CT.of rfl rfl (Nat.le_of_ble_eq_true rfl) rfl ?_
  refine WG.iload_n (pc' := 1) dX3_hasAll_0 rfl rfl ?_
  refine WG.if_lt (tgt := 30) (pc' := 4) dX3_hasAll_1 rfl (by decide) (fun c_1 => ?_) (fun c_1 => ?_)
  · refine WG.iconst (v := 0) (pc' := 31) dX3_hasAll_30 rfl rfl ?_
    refine WG.ireturn dX3_hasAll_31 rfl (by first | rfl | decide) ?_
    exact ⟨by first | (rw [zb_t (by unfold zha; grind)]; done) | (rw [zb_f (by unfold zha; grind)]; done), rfl⟩
  · refine WG.iload_n (pc' := 5) dX3_hasAll_4 rfl rfl ?_
    refine WG.if_lt (tgt := 30) (pc' := 8) dX3_hasAll_5 rfl (by decide) (fun c_5 => ?_) (fun c_5 => ?_)
    · refine WG.iconst (v := 0) (pc' := 31) dX3_hasAll_30 rfl rfl ?_
      refine WG.ireturn dX3_hasAll_31 rfl (by first | rfl | decide) ?_
      exact ⟨by first | (rw [zb_t (by unfold zha; grind)]; done) | (rw [zb_f (by unfold zha; grind)]; done), rfl⟩
    · refine WG.iload_n (pc' := 9) dX3_hasAll_8 rfl rfl ?_
      refine WG.aload_n (pc' := 10) dX3_hasAll_9 rfl rfl ?_
      refine WG.getI f_X3_15 (pc' := 13) dX3_hasAll_10 rfl (zRo (by assumption)) rfl ?_
      rw [h1]
      refine WG.icmp_gt (tgt := 30) (pc' := 16) dX3_hasAll_13 rfl (by decide) (fun c_13 => ?_) (fun c_13 => ?_)
      · refine WG.iconst (v := 0) (pc' := 31) dX3_hasAll_30 rfl rfl ?_
        refine WG.ireturn dX3_hasAll_31 rfl (by first | rfl | decide) ?_
        exact ⟨by first | (rw [zb_t (by unfold zha; grind)]; done) | (rw [zb_f (by unfold zha; grind)]; done), rfl⟩
      · refine WG.iload_n (pc' := 17) dX3_hasAll_16 rfl rfl ?_
        refine WG.aload_n (pc' := 18) dX3_hasAll_17 rfl rfl ?_
        refine WG.getI f_X3_15 (pc' := 21) dX3_hasAll_18 rfl (zRo (by assumption)) rfl ?_
        rw [h1]
        refine WG.iload_n (pc' := 22) dX3_hasAll_21 rfl rfl ?_
        refine WG.isub (pc' := 23) dX3_hasAll_22 rfl ?_
        refine WG.icmp_gt (tgt := 30) (pc' := 26) dX3_hasAll_23 rfl (by decide) (fun c_23 => ?_) (fun c_23 => ?_)
        · refine WG.iconst (v := 0) (pc' := 31) dX3_hasAll_30 rfl rfl ?_
          refine WG.ireturn dX3_hasAll_31 rfl (by first | rfl | decide) ?_
          exact ⟨by first | (rw [zb_t (by unfold zha; grind)]; done) | (rw [zb_f (by unfold zha; grind)]; done), rfl⟩
        · refine WG.iconst (v := 1) (pc' := 27) dX3_hasAll_26 rfl rfl ?_
          refine WG.goto (tgt := 31) dX3_hasAll_27 (by decide) ?_
          refine WG.ireturn dX3_hasAll_31 rfl (by first | rfl | decide) ?_
          exact ⟨by first | (rw [zb_t (by unfold zha; grind)]; done) | (rw [zb_f (by unfold zha; grind)]; done), rfl⟩
theorem zsd_of {m : Nat} {x : Int32} (hm : m < 2 ^ 31) (h : zsd m x) : ∃ j, j < m ∧ x = nI j := by
  obtain ⟨j, h1, h2⟩ := nI_of h.1
  exact ⟨j, by have := h.2; rw [h2, nI_ltI h1 hm] at this; exact this, h2⟩
theorem zsd_nI {m j : Nat} (hm : m < 2 ^ 31) (h : j < m) : zsd m (nI j) := ⟨nI_pos (by omega), nI_lt h hm⟩
set_option maxHeartbeats 4000000 in
set_option maxRecDepth 100000 in
theorem c_X3_set {k m j : Nat} {s : Int32} {v : Int64} {g : Nat → Int64} {h : zH} (hR : RR k (some (s, m, g)) h) (hj : j < m) : K_X3_set [.ref k, .int (nI j), .long v] h (zD (some (.int 1)) (zL h (k + 1) j (zcut s v))) := by
  have hR' := hR
  obtain ⟨hk, hm, hs, h1, h2, hg⟩ := hR
  refine CT.of rfl rfl (Nat.le_of_ble_eq_true rfl) rfl ?_
  refine WG.aload_n (pc' := 1) dX3_set_0 rfl rfl ?_
  refine WG.iload_n (pc' := 2) dX3_set_1 rfl rfl ?_
  refine WG.callVd (c_X3_has hR') m_X3_23 b_X3_has (zRo (by assumption)) rfl rfl (zrk_of rfl) rfl (Nat.le_of_ble_eq_true rfl) dX3_set_2 (pc' := 5) rfl ?_
  refine WG.if_ne (tgt := 10) (pc' := 8) dX3_set_5 rfl (by decide) (fun c_5 => ?_) (fun c_5 => ?_)
  · refine WG.aload_n (pc' := 11) dX3_set_10 rfl rfl ?_
    refine WG.getR f_X3_9 (pc' := 14) dX3_set_11 rfl (zRo (by assumption)) rfl (zRr (by assumption)) ?_
    refine WG.iload_n (pc' := 15) dX3_set_14 rfl rfl ?_
    refine WG.aload_n (pc' := 16) dX3_set_15 rfl rfl ?_
    refine WG.getI f_X3_19 (pc' := 19) dX3_set_16 rfl (zRo (by assumption)) rfl ?_
    rw [h2]
    refine WG.if_eq (tgt := 28) (pc' := 22) dX3_set_19 rfl (by decide) (fun c_19 => ?_) (fun c_19 => ?_)
    · refine WG.lload_n (pc' := 29) dX3_set_28 rfl rfl ?_
      refine WG.lastoreN  (pc' := 30) dX3_set_29 rfl (zRa (by assumption)) (by first | rfl | assumption) (by first | assumption | omega) (by first | decide | omega) ?_
      refine WG.iconst (v := 1) (pc' := 31) dX3_set_30 rfl rfl ?_
      refine WG.ireturn dX3_set_31 rfl (by first | rfl | decide) ?_
      exact ⟨rfl, by unfold zcut; first | rw [if_pos (by grind)] | rw [if_neg (by grind)]⟩
    · refine WG.lload_n (pc' := 23) dX3_set_22 rfl rfl ?_
      refine WG.l2i (pc' := 24) dX3_set_23 rfl ?_
      refine WG.i2l (pc' := 25) dX3_set_24 rfl ?_
      refine WG.goto (tgt := 29) dX3_set_25 (by decide) ?_
      refine WG.lastoreN  (pc' := 30) dX3_set_29 rfl (zRa (by assumption)) (by first | rfl | assumption) (by first | assumption | omega) (by first | decide | omega) ?_
      refine WG.iconst (v := 1) (pc' := 31) dX3_set_30 rfl rfl ?_
      refine WG.ireturn dX3_set_31 rfl (by first | rfl | decide) ?_
      exact ⟨rfl, by unfold zcut; first | rw [if_pos (by grind)] | rw [if_neg (by grind)]⟩
  · exact absurd (zsd_nI (by omega) hj) (zb_eq.mp c_5)
set_option maxHeartbeats 4000000 in
set_option maxRecDepth 100000 in
theorem c_X3_setNot {k m : Nat} {s x : Int32} {v : Int64} {g : Nat → Int64} {h : zH} (hR : RR k (some (s, m, g)) h) (hx : ¬ zsd m x) : K_X3_set [.ref k, .int x, .long v] h (zD (some (.int 0)) h) := by
  have hk := hR.1
  refine CT.of rfl rfl (Nat.le_of_ble_eq_true rfl) rfl ?_
  refine WG.aload_n (pc' := 1) dX3_set_0 rfl rfl ?_
  refine WG.iload_n (pc' := 2) dX3_set_1 rfl rfl ?_
  refine WG.callVd (c_X3_has hR) m_X3_23 b_X3_has (zRo (by assumption)) rfl rfl (zrk_of rfl) rfl (Nat.le_of_ble_eq_true rfl) dX3_set_2 (pc' := 5) rfl ?_
  refine WG.if_ne (tgt := 10) (pc' := 8) dX3_set_5 rfl (by decide) (fun c_5 => ?_) (fun c_5 => ?_)
  · exact absurd (zb_ne.mp c_5) hx
  · refine WG.iconst (v := 0) (pc' := 9) dX3_set_8 rfl rfl ?_
    refine WG.ireturn dX3_set_9 rfl (by first | rfl | decide) ?_
    exact ⟨rfl, rfl⟩
theorem RR.set {k m j : Nat} {s : Int32} {v : Int64} {g : Nat → Int64} {h : zH} (hR : RR k (some (s, m, g)) h) : RR k (some (s, m, zup g j v)) (zL h (k + 1) j v) := by
  obtain ⟨hk, hm, hs, h1, h2, hg⟩ := hR
  refine ⟨hk, hm, hs, by rw [zL_1]; exact h1, by rw [zL_1]; exact h2, fun i hi => ?_⟩
  rw [zL_2]
  unfold zup
  by_cases c : i = j
  · rw [if_pos ⟨rfl, c⟩, if_pos c]
  · rw [if_neg (fun q => c q.2), if_neg c]; exact hg i hi
set_option maxHeartbeats 4000000 in
set_option maxRecDepth 100000 in
theorem c_X3_become {k m : Nat} {b : Int32} {h : zH} (hk : isR k) (hm : m ≤ 20) (hb : b = 0 ∨ b = 1) : K_X3_become [.ref k, .int b, .int (nI m)] h (fun r h' => r = none ∧ RR k (some (b, m, fun _ => 0)) h' ∧ zFr (zRg k 2) h h') := by
  refine CT.of rfl rfl (Nat.le_of_ble_eq_true rfl) rfl ?_
  have loop : ∀ (n i : Nat) (h1 : zH), i ≤ m → m - i < n → h1.1 k 1 = nI m → h1.1 k 2 = b → (∀ p, p < i → h1.2 (k + 1) p = 0) → zFr (zRg k 2) h h1 →
      W_X3_become (fun r h' => r = none ∧ RR k (some (b, m, fun _ => 0)) h' ∧ zFr (zRg k 2) h h') 12 [some (.ref k), some (.int b), some (.int (nI m)), some (.int (nI i))] [] h1 := by
    intro n
    induction n with
    | zero => intro i h1 a b; omega
    | succ n ih =>
      intro i h1 hi hn g1 g2 g3 gf
      refine WG.iload_n (pc' := 13) dX3_become_12 rfl rfl ?_
      refine WG.iload_n (pc' := 14) dX3_become_13 rfl rfl ?_
      refine WG.icmp_ge (tgt := 30) (pc' := 17) dX3_become_14 rfl (by decide) (fun c_14 => ?_) (fun c_14 => ?_)
      · obtain rfl : i = m := by have := (nI_leI (by omega) (by omega)).mp c_14; omega
        refine WG.vreturn dX3_become_30 rfl ?_
        exact ⟨rfl, ⟨hk, hm, hb, g1, g2, g3⟩, gf⟩
      · have hlt : i < m := by have := mt (nI_leI (a := m) (b := i) (by omega) (by omega)).mpr c_14; omega
        refine WG.aload_n (pc' := 18) dX3_become_17 rfl rfl ?_
        refine WG.getR f_X3_9 (pc' := 21) dX3_become_18 rfl (zRo (by assumption)) rfl (zRr (by assumption)) ?_
        refine WG.iload_n (pc' := 22) dX3_become_21 rfl rfl ?_
        refine WG.lconst (v := 0) (pc' := 23) dX3_become_22 rfl rfl ?_
        refine WG.lastoreN (j := i) (pc' := 24) dX3_become_23 rfl (zRa (by assumption)) rfl (by omega) (by first | decide | omega) ?_
        refine WG.iinc1 (L' := [_, _, _, _]) (pc' := 27) dX3_become_24 rfl rfl (by decide) rfl ?_
        refine WG.goto (tgt := 12) dX3_become_27 (by decide) ?_
        rw [nI_1]
        refine ih (i + 1) _ hlt (by omega) (by rw [zL_1]; exact g1) (by rw [zL_1]; exact g2) (fun p hp => ?_) (gf.L ⟨by omega, by omega⟩)
        rw [zL_2]
        by_cases c : p = i
        · rw [if_pos ⟨rfl, c⟩]
        · rw [if_neg (fun q => c q.2)]; exact g3 p (by omega)
  refine WG.aload_n (pc' := 1) dX3_become_0 rfl rfl ?_
  refine WG.iload_n (pc' := 2) dX3_become_1 rfl rfl ?_
  refine WG.putI p_X3_19 (pc' := 5) dX3_become_2 rfl (zRo (by assumption)) rfl (by rcases hb with rfl | rfl <;> rfl) (by rcases hb with rfl | rfl <;> rfl) ?_
  refine WG.aload_n (pc' := 6) dX3_become_5 rfl rfl ?_
  refine WG.iload_n (pc' := 7) dX3_become_6 rfl rfl ?_
  refine WG.putI p_X3_15 (pc' := 10) dX3_become_7 rfl (zRo (by assumption)) rfl rfl rfl ?_
  refine WG.iconst (v := 0) (pc' := 11) dX3_become_10 rfl rfl ?_
  refine WG.istore_n (L' := [_, _, _, _]) (pc' := 12) dX3_become_11 rfl (by decide) rfl ?_
  refine loop (m + 1) 0 _ (by omega) (by omega) ?_ ?_ (fun p hp => by omega) ((zFr.rf.I ⟨by omega, by omega⟩).I ⟨by omega, by omega⟩)
  · rw [zI_1, if_pos ⟨rfl, rfl⟩]
  · rw [zI_1, if_neg (by omega), zI_1, if_pos ⟨rfl, rfl⟩]
/-! what was ahead of the latest changes (Past, cell 19): pl 0 the latest -/
def RPa (c nx : Nat) (pl : Nat → Nat × zf) (h : zH) : Prop := c ≤ 8 ∧ nx < 8 ∧ h.1 19 1 = nI nx ∧ h.1 19 2 = nI c ∧ ∀ i, i < c → RS (21 + 6 * ((nx + 7 - i) % 8)) (pl i).1 (pl i).2 h
def zpush (pl : Nat → Nat × zf) (n : Nat) (f : zf) : Nat → Nat × zf := fun i => match i with
  | 0 => (n, f)
  | i + 1 => pl i
theorem isS_e {j : Nat} (hj : j < 8) : isS (21 + 6 * j) := by
  simp only [isS, List.mem_cons, List.not_mem_nil, or_false]; omega
theorem znI8 {n : Nat} (h : n < 2 ^ 31) : nI n - nI n / 8 * 8 = nI (n % 8) := pk_rem h (by decide) (by decide)
theorem RPa.fo {c nx : Nat} {pl : Nat → Nat × zf} {P : Nat → Prop} {h h' : zH} (hR : RPa c nx pl h) (hf : zFr P h h') (hP : ∀ o, P o → o < 19 ∨ 69 ≤ o) : RPa c nx pl h' := by
  obtain ⟨a, b, d, e, g⟩ := hR
  have q : h'.1 19 = h.1 19 := hf.1 19 (fun z => by have := hP _ z; omega)
  exact ⟨a, b, by rw [q]; exact d, by rw [q]; exact e, fun i hi => (g i hi).fo hf (fun o z => by have := hP o z; have := Nat.mod_lt (nx + 7 - i) (show 0 < 8 by decide); omega)⟩
set_option maxHeartbeats 4000000 in
set_option maxRecDepth 100000 in
theorem c_X1_keep {c nx q n : Nat} {pl : Nat → Nat × zf} {f : zf} {h : zH} (hP : RPa c nx pl h) (hS : RS q n f h) (hq : q + 6 ≤ 19) : K_X1_keep [.ref 19, .ref q] h (fun r h' => r = none ∧ RPa (if c < 8 then c + 1 else 8) ((nx + 1) % 8) (zpush pl n f) h' ∧ zFr (zRg 19 50) h h') := by
  obtain ⟨hc, hnx, h1, h2, hpl⟩ := hP
  have hk := isS_e hnx
  have hqs := hS.1
  refine CT.of rfl rfl (Nat.le_of_ble_eq_true rfl) rfl ?_
  refine WG.aload_n (pc' := 1) dX1_keep_0 rfl rfl ?_
  refine WG.getR (r := 20) f_X1_11 (pc' := 4) dX1_keep_1 rfl rfl rfl rfl ?_
  refine WG.aload_n (pc' := 5) dX1_keep_4 rfl rfl ?_
  refine WG.getI f_X1_17 (pc' := 8) dX1_keep_5 rfl rfl rfl ?_
  rw [h1]
  refine WG.aaloadN (j := nx) (r := 21 + 6 * (nx)) (pc' := 9) dX1_keep_8 rfl (t := 0) (Or.inl rfl) rfl rfl hnx (by decide) rfl ?_
  refine WG.aload_n (pc' := 10) dX1_keep_9 rfl rfl ?_
  refine WG.callV (c_X4_become hk hS (by omega)) m_X1_25 b_X4_become (zSo (by assumption)) rfl rfl (zrk_of rfl) rfl (Nat.le_of_ble_eq_true rfl) dX1_keep_10 (pc' := 13) rfl (fun r_ h_ q_ => ?_)
  obtain ⟨rfl, hS2, hF⟩ := q_
  have g1 : h_.1 19 1 = nI nx := by rw [hF.1 19 (fun z => by obtain ⟨z1, z2⟩ := z; omega)]; exact h1
  have g2 : h_.1 19 2 = nI c := by rw [hF.1 19 (fun z => by obtain ⟨z1, z2⟩ := z; omega)]; exact h2
  refine WG.aload_n (pc' := 14) dX1_keep_13 rfl rfl ?_
  refine WG.aload_n (pc' := 15) dX1_keep_14 rfl rfl ?_
  refine WG.getI f_X1_17 (pc' := 18) dX1_keep_15 rfl rfl rfl ?_
  refine WG.iconst (v := 1) (pc' := 19) dX1_keep_18 rfl rfl ?_
  refine WG.iadd (pc' := 20) dX1_keep_19 rfl ?_
  refine WG.bipush (v := 8) (pc' := 22) dX1_keep_20 rfl rfl ?_
  rw [g1, nI_1]
  refine WG.irem (pc' := 23) dX1_keep_22 rfl (by decide) ?_
  rw [znI8 (by omega)]
  refine WG.putI p_X1_17 (pc' := 26) dX1_keep_23 rfl rfl rfl rfl rfl ?_
  refine WG.aload_n (pc' := 27) dX1_keep_26 rfl rfl ?_
  refine WG.aload_n (pc' := 28) dX1_keep_27 rfl rfl ?_
  refine WG.getI f_X1_21 (pc' := 31) dX1_keep_28 rfl rfl rfl ?_
  refine WG.iconst (v := 1) (pc' := 32) dX1_keep_31 rfl rfl ?_
  refine WG.iadd (pc' := 33) dX1_keep_32 rfl ?_
  refine WG.bipush (v := 8) (pc' := 35) dX1_keep_33 rfl rfl ?_
  refine WG.mmin m_X1_29 (pc' := 38) dX1_keep_35 rfl (Nat.le_of_ble_eq_true rfl) (Nat.le_of_ble_eq_true rfl) (Nat.le_of_ble_eq_true rfl) (Nat.le_of_ble_eq_true rfl) ?_
  rw [show (if (8 : Int32) < (zI h_ 19 1 (nI ((nx + 1) % 8))).1 19 2 + 1 then (8 : Int32) else (zI h_ 19 1 (nI ((nx + 1) % 8))).1 19 2 + 1) = nI (if c < 8 then c + 1 else 8) by
    rw [show (zI h_ 19 1 (nI ((nx + 1) % 8))).1 19 2 = nI c by rw [zI_1, if_neg (by omega)]; exact g2]
    rw [nI_1, show (8 : Int32) = nI 8 from rfl]
    by_cases z : c < 8
    · rw [if_pos z, if_neg (by rw [nI_ltI (by omega) (by omega)]; omega)]
    · rw [if_neg z, if_pos (by rw [nI_ltI (by omega) (by omega)]; omega)]]
  refine WG.putI p_X1_21 (pc' := 41) dX1_keep_38 rfl rfl rfl rfl rfl ?_
  refine WG.vreturn dX1_keep_41 rfl ?_
  refine ⟨rfl, ⟨by split <;> omega, Nat.mod_lt _ (by decide), ?_, ?_, fun i hi => ?_⟩, ((hF.mo (fun o z => by obtain ⟨z1, z2⟩ := z; exact ⟨by omega, by omega⟩)).I ⟨by omega, by omega⟩).I ⟨by omega, by omega⟩⟩
  · rw [zI_1, if_neg (by omega), zI_1, if_pos ⟨rfl, rfl⟩]
  · rw [zI_1, if_pos ⟨rfl, rfl⟩]
  · have out : ∀ j, j < 8 → ∀ {n f}, RS (21 + 6 * j) n f h_ → RS (21 + 6 * j) n f (zI (zI h_ 19 1 (nI ((nx + 1) % 8))) 19 2 (nI (if c < 8 then c + 1 else 8))) := fun j hj n f z => z.fo (P := zRg 19 1) ((zFr.rf.I ⟨by omega, by omega⟩).I ⟨by omega, by omega⟩) (fun o w => by obtain ⟨w1, w2⟩ := w; omega)
    match i, hi with
    | 0, hi =>
      rw [show ((nx + 1) % 8 + 7 - 0) % 8 = nx by omega]
      exact out nx hnx hS2
    | i + 1, hi =>
      have hic : i < c ∧ i < 7 := by split at hi <;> omega
      rw [show ((nx + 1) % 8 + 7 - (i + 1)) % 8 = (nx + 7 - i) % 8 by omega]
      exact out _ (Nat.mod_lt _ (by decide)) ((hpl i hic.1).fr hk hF (by omega))
set_option maxHeartbeats 4000000 in
set_option maxRecDepth 100000 in
theorem c_X1_bringBack {c nx k : Nat} {pl : Nat → Nat × zf} {h : zH} (hP : RPa (c + 1) nx pl h) (hk : isS k) (hk2 : k + 6 ≤ 19) : K_X1_bringBack [.ref 19, .ref k] h (fun r h' => r = some (.int (nI c)) ∧ RPa c ((nx + 7) % 8) (fun i => pl (i + 1)) h' ∧ RS k (pl 0).1 (pl 0).2 h' ∧ zFr (fun o => o = 19 ∨ zRg k 6 o) h h') := by
  obtain ⟨hc, hnx, h1, h2, hpl⟩ := hP
  have hm : (nx + 7) % 8 < 8 := Nat.mod_lt _ (by decide)
  refine CT.of rfl rfl (Nat.le_of_ble_eq_true rfl) rfl ?_
  have hF1 : zFr (fun o => o = 19 ∨ zRg k 6 o) h (zI h 19 1 (nI ((nx + 7) % 8))) := zFr.rf.I (Or.inl rfl)
  have hS0 : RS (21 + 6 * ((nx + 7) % 8)) (pl 0).1 (pl 0).2 (zI h 19 1 (nI ((nx + 7) % 8))) := (hpl 0 (by omega)).fo (P := zRg 19 1) (zFr.rf.I ⟨by omega, by omega⟩) (fun o w => by obtain ⟨w1, w2⟩ := w; omega)
  refine WG.aload_n (pc' := 1) dX1_bringBack_0 rfl rfl ?_
  refine WG.aload_n (pc' := 2) dX1_bringBack_1 rfl rfl ?_
  refine WG.getI f_X1_17 (pc' := 5) dX1_bringBack_2 rfl rfl rfl ?_
  rw [h1]
  refine WG.bipush (v := 8) (pc' := 7) dX1_bringBack_5 rfl rfl ?_
  refine WG.iadd (pc' := 8) dX1_bringBack_7 rfl ?_
  refine WG.iconst (v := 1) (pc' := 9) dX1_bringBack_8 rfl rfl ?_
  refine WG.isub (pc' := 10) dX1_bringBack_9 rfl ?_
  refine WG.bipush (v := 8) (pc' := 12) dX1_bringBack_10 rfl rfl ?_
  rw [show nI nx + 8 - 1 = nI (nx + 7) by rw [show (8 : Int32) = nI 8 from rfl, nI_add]; exact pk_sub (b := 1) (by omega)]
  refine WG.irem (pc' := 13) dX1_bringBack_12 rfl (by decide) ?_
  rw [znI8 (by omega)]
  refine WG.putI p_X1_17 (pc' := 16) dX1_bringBack_13 rfl rfl rfl rfl rfl ?_
  refine WG.aload_n (pc' := 17) dX1_bringBack_16 rfl rfl ?_
  refine WG.aload_n (pc' := 18) dX1_bringBack_17 rfl rfl ?_
  refine WG.getR (r := 20) f_X1_11 (pc' := 21) dX1_bringBack_18 rfl rfl rfl rfl ?_
  refine WG.aload_n (pc' := 22) dX1_bringBack_21 rfl rfl ?_
  refine WG.getI f_X1_17 (pc' := 25) dX1_bringBack_22 rfl rfl rfl ?_
  refine WG.aaloadN (j := (nx + 7) % 8) (r := 21 + 6 * ((nx + 7) % 8)) (pc' := 26) dX1_bringBack_25 rfl (t := 0) (Or.inl rfl) rfl (by rw [zI_1, if_pos ⟨rfl, rfl⟩]) hm (by decide) rfl ?_
  refine WG.callV (c_X4_become hk hS0 (by omega)) m_X1_25 b_X4_become (zSo (by assumption)) rfl rfl (zrk_of rfl) rfl (Nat.le_of_ble_eq_true rfl) dX1_bringBack_26 (pc' := 29) rfl (fun r_ h_ q_ => ?_)
  obtain ⟨rfl, hS2, hF⟩ := q_
  have g1 : h_.1 19 1 = nI ((nx + 7) % 8) := by rw [hF.1 19 (fun z => by obtain ⟨z1, z2⟩ := z; omega), zI_1, if_pos ⟨rfl, rfl⟩]
  have g2 : h_.1 19 2 = nI (c + 1) := by rw [hF.1 19 (fun z => by obtain ⟨z1, z2⟩ := z; omega), zI_1, if_neg (by omega)]; exact h2
  refine WG.aload_n (pc' := 30) dX1_bringBack_29 rfl rfl ?_
  refine WG.dup (pc' := 31) dX1_bringBack_30 rfl rfl ?_
  refine WG.getI f_X1_21 (pc' := 34) dX1_bringBack_31 rfl rfl rfl ?_
  refine WG.iconst (v := 1) (pc' := 35) dX1_bringBack_34 rfl rfl ?_
  refine WG.isub (pc' := 36) dX1_bringBack_35 rfl ?_
  rw [g2, nI_pred]
  refine WG.putI p_X1_21 (pc' := 39) dX1_bringBack_36 rfl rfl rfl rfl rfl ?_
  refine WG.aload_n (pc' := 40) dX1_bringBack_39 rfl rfl ?_
  refine WG.getI f_X1_21 (pc' := 43) dX1_bringBack_40 rfl rfl rfl ?_
  refine WG.ireturn dX1_bringBack_43 rfl (by first | rfl | decide) ?_
  refine ⟨by rw [zI_1, if_pos ⟨rfl, rfl⟩], ⟨by omega, hm, ?_, ?_, fun i hi => ?_⟩, hS2.fo (P := zRg 19 1) (zFr.rf.I ⟨by omega, by omega⟩) (fun o w => by obtain ⟨w1, w2⟩ := w; omega), (hF1.tr (hF.mo (fun o z => Or.inr z))).I (Or.inl rfl)⟩
  · rw [zI_1, if_neg (by omega)]; exact g1
  · rw [zI_1, if_pos ⟨rfl, rfl⟩]
  · rw [show ((nx + 7) % 8 + 7 - i) % 8 = (nx + 7 - (i + 1)) % 8 by omega]
    have hj : (nx + 7 - (i + 1)) % 8 < 8 := Nat.mod_lt _ (by decide)
    exact ((((hpl (i + 1) (by omega)).fo (P := zRg 19 1) (zFr.rf.I ⟨by omega, by omega⟩) (fun o w => by obtain ⟨w1, w2⟩ := w; omega)).fo hF (fun o w => by obtain ⟨w1, w2⟩ := w; omega)).fo (P := zRg 19 1) (zFr.rf.I ⟨by omega, by omega⟩) (fun o w => by obtain ⟨w1, w2⟩ := w; omega))
