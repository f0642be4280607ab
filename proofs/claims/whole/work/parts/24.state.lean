/-! what an object stands for: sides, changes, image, letters, told row, lists, refusals -/
abbrev zA : Type := (Nat × zf) × (Nat × (Nat → Nat × zf)) × Option (Nat × zf) × (Nat × (Nat → Int32)) × (Nat × (Nat → Int32)) × (Nat → zls) × (Nat → Int32)
def RKx (K : Option (Nat × zf)) (h : zH) : Prop := match K with
  | none => h.1 0 3 = 0
  | some (n, f) => h.1 0 3 = 1 ∧ RS 13 n f h
def RV (o k m c : Nat) (T : Nat × (Nat → Int32)) (h : zH) : Prop := T.1 ≤ m ∧ h.1 o k = nI T.1 ∧ ∀ i, i < T.1 → h.1 c i = T.2 i
def RX (σ : zA) (h : zH) : Prop := RS 1 σ.1.1 σ.1.2 h ∧ (∃ nx, RPa σ.2.1.1 nx σ.2.1.2 h) ∧ RKx σ.2.2.1 h ∧ RV 0 8 120 76 σ.2.2.2.1 h ∧ RV 0 10 9 77 σ.2.2.2.2.1 h ∧ (∀ l, l < 3 → RR (79 + 2 * l) (σ.2.2.2.2.2.1 l) h) ∧ ∀ i, i < 7 → 0 < i → h.1 85 i = σ.2.2.2.2.2.2 i
def RKm (K : Option (Nat × zf)) (h : zH) : Prop := match K with
  | none => h.1 86 22 = 0
  | some (n, f) => h.1 86 22 = 1 ∧ RG 100 0 n f h
def RQ (l : Nat) (z : zls) (h : zH) : Prop := match z with
  | none => h.1 97 l = -1
  | some (s, m, g) => m ≤ 20 ∧ (s = 0 ∨ s = 1) ∧ h.1 97 l = s ∧ h.1 98 l = nI m ∧ ∀ i, i < m → h.2 99 (20 * l + i) = g i
def RM (σ : zA) (h : zH) : Prop := RG 88 0 σ.1.1 σ.1.2 h ∧ RPm σ.2.1.1 σ.2.1.2 h ∧ RKm σ.2.2.1 h ∧ RV 86 7 120 91 σ.2.2.2.1 h ∧ RV 86 16 9 96 σ.2.2.2.2.1 h ∧ (∀ l, l < 3 → RQ l (σ.2.2.2.2.2.1 l) h) ∧ ∀ i, i < 7 → 0 < i → h.1 87 i = σ.2.2.2.2.2.2 i
def zbu (F : Nat → Int32) (i : Nat) : Nat → Int32 := fun j => if j = i then F j + 1 else F j
def zbp (σ : zA) (i : Nat) : zA := (σ.1, σ.2.1, σ.2.2.1, σ.2.2.2.1, σ.2.2.2.2.1, σ.2.2.2.2.2.1, zbu σ.2.2.2.2.2.2 i)
def zno (σ : zA) (e : Int32) : zA := if e = 0 then σ else zbp σ (-e).toNatClampNeg
theorem zno_0 (σ : zA) : zno σ 0 = σ := rfl
theorem zno_i (σ : zA) {i : Nat} (hi : 1 ≤ i ∧ i ≤ 6) : zno σ (-nI i) = zbp σ i := by
  rcases (show i = 1 ∨ i = 2 ∨ i = 3 ∨ i = 4 ∨ i = 5 ∨ i = 6 by omega) with rfl | rfl | rfl | rfl | rfl | rfl <;> rfl
theorem RV.fo {o k m c : Nat} {T : Nat × (Nat → Int32)} {P : Nat → Prop} {h h' : zH} (hR : RV o k m c T h) (hf : zFr P h h') (h1 : ¬ P o) (h2 : ¬ P c) : RV o k m c T h' := ⟨hR.1, by rw [hf.1 o h1]; exact hR.2.1, by rw [hf.1 c h2]; exact hR.2.2⟩
theorem RKx.fo {K : Option (Nat × zf)} {P : Nat → Prop} {h h' : zH} (hR : RKx K h) (hf : zFr P h h') (h1 : ¬ P 0) (h2 : ∀ o, P o → o < 13 ∨ 19 ≤ o) : RKx K h' := by
  match K, hR with
  | none, hR => show h'.1 0 3 = 0; rw [hf.1 0 h1]; exact hR
  | some (n, f), hR => exact ⟨by rw [hf.1 0 h1]; exact hR.1, hR.2.fo hf (fun o q => by have := h2 o q; omega)⟩
theorem RKm.fo {K : Option (Nat × zf)} {P : Nat → Prop} {h h' : zH} (hR : RKm K h) (hf : zFr P h h') (h1 : ¬ P 86) (h2 : ¬ P 100) : RKm K h' := by
  match K, hR with
  | none, hR => show h'.1 86 22 = 0; rw [hf.1 86 h1]; exact hR
  | some (n, f), hR => exact ⟨by rw [hf.1 86 h1]; exact hR.1, hR.2.fo hf h2⟩
theorem RQ.fo {l : Nat} {z : zls} {P : Nat → Prop} {h h' : zH} (hR : RQ l z h) (hf : zFr P h h') (h1 : ¬ P 97) (h2 : ¬ P 98) (h3 : ¬ P 99) : RQ l z h' := by
  match z, hR with
  | none, hR => show h'.1 97 l = -1; rw [hf.1 97 h1]; exact hR
  | some (s, m, g), hR => exact ⟨hR.1, hR.2.1, by rw [hf.1 97 h1]; exact hR.2.2.1, by rw [hf.1 98 h2]; exact hR.2.2.2.1, by rw [hf.2 99 h3]; exact hR.2.2.2.2⟩
/-- draft, corners and reader may become what they like -/
def zFree (o : Nat) : Prop := (7 ≤ o ∧ o < 13) ∨ (69 ≤ o ∧ o < 76) ∨ 86 ≤ o
theorem RX.fo {σ : zA} {P : Nat → Prop} {h h' : zH} (hX : RX σ h) (hf : zFr P h h') (hP : ∀ o, P o → zFree o) : RX σ h' := by
  obtain ⟨a, ⟨nx, b⟩, c, d, e, g, i⟩ := hX
  have q : ∀ o, P o → (7 ≤ o ∧ o < 13) ∨ (69 ≤ o ∧ o < 76) ∨ 86 ≤ o := hP
  have nP : ∀ o, ¬ ((7 ≤ o ∧ o < 13) ∨ (69 ≤ o ∧ o < 76) ∨ 86 ≤ o) → ¬ P o := fun o z w => z (q o w)
  exact ⟨a.fo hf (fun o z => by have := q o z; omega), ⟨nx, b.fo hf (fun o z => by have := q o z; omega)⟩, c.fo hf (nP 0 (by omega)) (fun o z => by have := q o z; omega), d.fo hf (nP 0 (by omega)) (nP 76 (by omega)), e.fo hf (nP 0 (by omega)) (nP 77 (by omega)), fun l hl => (g l hl).fo hf (fun o z => by have := q o z; omega), fun j h1 h2 => by rw [hf.1 85 (nP 85 (by omega))]; exact i j h1 h2⟩
theorem RX.bump {σ : zA} {h : zH} (hX : RX σ h) {i : Nat} (hi : 1 ≤ i ∧ i ≤ 6) : RX (zbp σ i) (zI h 85 i (h.1 85 i + 1)) := by
  obtain ⟨a, ⟨nx, b⟩, c, d, e, g, k⟩ := hX
  have hf : zFr (fun o => o = 85) h (zI h 85 i (h.1 85 i + 1)) := zFr.rf.I rfl
  refine ⟨a.fo hf (fun o z => by omega), ⟨nx, b.fo hf (fun o z => by omega)⟩, c.fo hf (by omega) (fun o z => by omega), d.fo hf (by omega) (by omega), e.fo hf (by omega) (by omega), fun l hl => (g l hl).fo hf (fun o z => by omega), fun j h1 h2 => ?_⟩
  rw [zI_1]
  show _ = zbu σ.2.2.2.2.2.2 i j
  unfold zbu
  by_cases q : j = i
  · rw [if_pos ⟨rfl, q⟩, if_pos q, q, k i (by omega) (by omega)]
  · rw [if_neg (fun z => q z.2), if_neg q]; exact k j h1 h2
/-- the reference's scratch rows: aside 90, numbers 92, before 93, spreads 94, corners 95 -/
def zFreeM (o : Nat) : Prop := o < 86 ∨ o = 90 ∨ o = 92 ∨ o = 93 ∨ o = 94 ∨ o = 95
theorem RM.fo {σ : zA} {P : Nat → Prop} {h h' : zH} (hX : RM σ h) (hf : zFr P h h') (hP : ∀ o, P o → zFreeM o) : RM σ h' := by
  obtain ⟨a, b, c, d, e, g, i⟩ := hX
  have q : ∀ o, P o → (o < 86 ∨ o = 90 ∨ o = 92 ∨ o = 93 ∨ o = 94 ∨ o = 95) := hP
  have nP : ∀ o, ¬ (o < 86 ∨ o = 90 ∨ o = 92 ∨ o = 93 ∨ o = 94 ∨ o = 95) → ¬ P o := fun o z w => z (q o w)
  exact ⟨a.fo hf (nP 88 (by omega)), b.fo hf (nP 86 (by omega)) (nP 89 (by omega)), c.fo hf (nP 86 (by omega)) (nP 100 (by omega)), d.fo hf (nP 86 (by omega)) (nP 91 (by omega)), e.fo hf (nP 86 (by omega)) (nP 96 (by omega)), fun l hl => (g l hl).fo hf (nP 97 (by omega)) (nP 98 (by omega)) (nP 99 (by omega)), fun j h1 h2 => by rw [hf.1 87 (nP 87 (by omega))]; exact i j h1 h2⟩
theorem RM.eq1 {σ : zA} {h h' : zH} (hX : RM σ h) (e1 : h'.1 = h.1) (e2 : h'.2 99 = h.2 99) : RM σ h' := by
  obtain ⟨a, b, c, d, e, g, i⟩ := hX
  have rg : ∀ {o b n f}, RG o b n f h → RG o b n f h' := fun z => ⟨z.1, by rw [e1]; exact z.2.1, by rw [e1]; exact z.2.2⟩
  refine ⟨rg a, ⟨b.1, by rw [e1]; exact b.2.1, fun i hi => rg (b.2.2 i hi)⟩, ?_, ⟨d.1, by rw [e1]; exact d.2.1, by rw [e1]; exact d.2.2⟩, ⟨e.1, by rw [e1]; exact e.2.1, by rw [e1]; exact e.2.2⟩, fun l hl => ?_, by rw [e1]; exact i⟩
  · revert c
    generalize σ.2.2.1 = K
    intro c
    match K, c with
    | none, c => show h'.1 86 22 = 0; rw [e1]; exact c
    | some (n, f), c => exact ⟨by rw [e1]; exact c.1, rg c.2⟩
  · have := g l hl
    revert this
    generalize σ.2.2.2.2.2.1 l = z
    intro hR
    match z, hR with
    | none, hR => show h'.1 97 l = -1; rw [e1]; exact hR
    | some (s, m, g), hR => exact ⟨hR.1, hR.2.1, by rw [e1]; exact hR.2.2.1, by rw [e1]; exact hR.2.2.2.1, by rw [e2]; exact hR.2.2.2.2⟩
theorem RM.bump {σ : zA} {h : zH} (hX : RM σ h) {i : Nat} (hi : 1 ≤ i ∧ i ≤ 6) : RM (zbp σ i) (zI h 87 i (h.1 87 i + 1)) := by
  obtain ⟨a, b, c, d, e, g, k⟩ := hX
  have hf : zFr (fun o => o = 87) h (zI h 87 i (h.1 87 i + 1)) := zFr.rf.I rfl
  refine ⟨a.fo hf (by omega), b.fo hf (by omega) (by omega), c.fo hf (by omega) (by omega), d.fo hf (by omega) (by omega), e.fo hf (by omega) (by omega), fun l hl => (g l hl).fo hf (by omega) (by omega) (by omega), fun j h1 h2 => ?_⟩
  rw [zI_1]
  show _ = zbu σ.2.2.2.2.2.2 i j
  unfold zbu
  by_cases q : j = i
  · rw [if_pos ⟨rfl, q⟩, if_pos q, q, k i (by omega) (by omega)]
  · rw [if_neg (fun z => q z.2), if_neg q]; exact k j h1 h2
/-- the first refusal that fits -/
noncomputable def zes : List (Prop × Int32) → Int32
  | [] => 0
  | (P, c) :: t => @ite Int32 P (Classical.propDecidable P) c (zes t)
theorem zes_t {P : Prop} {c : Int32} {t : List (Prop × Int32)} (h : P) : zes ((P, c) :: t) = c := if_pos h
theorem zes_f {P : Prop} {c : Int32} {t : List (Prop × Int32)} (h : ¬ P) : zes ((P, c) :: t) = zes t := if_neg h
theorem zes_n {P : Prop} {c : Int32} {t : List (Prop × Int32)} (h : P) : zes ((¬ P, c) :: t) = zes t := if_neg (fun q => q h)
/-- the ends of calls: refused by e, or v -/
def zB1 : Nat → Prop := fun o => o < 86
def zB2 : Nat → Prop := fun o => 86 ≤ o
def zPi (R : zA → zH → Prop) (B : Nat → Prop) (h : zH) (σ : zA) (e v : Int32) (σ' : zA) : Option Value → zH → Prop := fun r h' => r = some (.int (if e = 0 then v else e)) ∧ R (if e = 0 then σ' else zno σ e) h' ∧ zFr B h h'
def zPl (R : zA → zH → Prop) (B : Nat → Prop) (h : zH) (σ : zA) (e : Int32) (v : Int64) : Option Value → zH → Prop := fun r h' => r = some (.long (if e = 0 then v else 4000000000000000000 - e.toInt64)) ∧ R (zno σ e) h' ∧ zFr B h h'
theorem zni {i : Nat} (hi : 1 ≤ i ∧ i ≤ 6) : ¬ -nI i = 0 := by
  rcases (show i = 1 ∨ i = 2 ∨ i = 3 ∨ i = 4 ∨ i = 5 ∨ i = 6 by omega) with rfl | rfl | rfl | rfl | rfl | rfl <;> decide
theorem zrX {h h2 : zH} {σ σ' : zA} {e v : Int32} {i : Nat} (hX : RX σ h2) (hf : zFr zB1 h h2) (hi : 1 ≤ i ∧ i ≤ 6) (he : e = -nI i) : zPi RX zB1 h σ e v σ' (some (.int (-nI i))) (zI h2 85 i (h2.1 85 i + 1)) := by
  subst he
  refine ⟨by rw [if_neg (zni hi)], by rw [if_neg (zni hi), zno_i σ hi]; exact hX.bump hi, hf.I (by show 85 < 86; decide)⟩
theorem zrXl {h h2 : zH} {σ : zA} {e : Int32} {v : Int64} {i : Nat} (hX : RX σ h2) (hf : zFr zB1 h h2) (hi : 1 ≤ i ∧ i ≤ 6) (he : e = -nI i) : zPl RX zB1 h σ e v (some (.long (4000000000000000000 - (-nI i).toInt64))) (zI h2 85 i (h2.1 85 i + 1)) := by
  subst he
  refine ⟨by rw [if_neg (zni hi)], by rw [zno_i σ hi]; exact hX.bump hi, hf.I (by show 85 < 86; decide)⟩
theorem zrM {h h2 : zH} {σ σ' : zA} {e v : Int32} {i : Nat} (hX : RM σ h2) (hf : zFr zB2 h h2) (hi : 1 ≤ i ∧ i ≤ 6) (he : e = -nI i) : zPi RM zB2 h σ e v σ' (some (.int (-nI i))) (zI h2 87 i (h2.1 87 i + 1)) := by
  subst he
  refine ⟨by rw [if_neg (zni hi)], by rw [if_neg (zni hi), zno_i σ hi]; exact hX.bump hi, hf.I (by show 86 ≤ 87; decide)⟩
theorem zrMl {h h2 : zH} {σ : zA} {e : Int32} {v : Int64} {i : Nat} (hX : RM σ h2) (hf : zFr zB2 h h2) (hi : 1 ≤ i ∧ i ≤ 6) (he : e = -nI i) : zPl RM zB2 h σ e v (some (.long (4000000000000000000 - (-nI i).toInt64))) (zI h2 87 i (h2.1 87 i + 1)) := by
  subst he
  refine ⟨by rw [if_neg (zni hi)], by rw [zno_i σ hi]; exact hX.bump hi, hf.I (by show 86 ≤ 87; decide)⟩
theorem zok {R : zA → zH → Prop} {B : Nat → Prop} {h h2 : zH} {σ σ' : zA} {e v v' : Int32} (hX : R σ' h2) (hf : zFr B h h2) (he : e = 0) (hv : v' = v) : zPi R B h σ e v σ' (some (.int v')) h2 := by
  subst he; subst hv
  exact ⟨by rw [if_pos rfl], by rw [if_pos rfl]; exact hX, hf⟩
theorem zokl {R : zA → zH → Prop} {B : Nat → Prop} {h h2 : zH} {σ : zA} {e : Int32} {v v' : Int64} (hX : R σ h2) (hf : zFr B h h2) (he : e = 0) (hv : v' = v) : zPl R B h σ e v (some (.long v')) h2 := by
  subst he; subst hv
  exact ⟨by rw [if_pos rfl], hX, hf⟩
set_option maxHeartbeats 4000000 in
set_option maxRecDepth 100000 in
theorem c_X5_refuse {h : zH} (i : Nat) (hi : 1 ≤ i ∧ i ≤ 6) : K_X5_refuse [.ref 0, .int (-nI i)] h (zD (some (.int (-nI i))) (zI h 85 i (h.1 85 i + 1))) := by
  refine CT.of rfl rfl (Nat.le_of_ble_eq_true rfl) rfl ?_
  have h1 : ¬ (-1 : Int32) < -nI i ∧ -6 ≤ -nI i := by
    rcases (show i = 1 ∨ i = 2 ∨ i = 3 ∨ i = 4 ∨ i = 5 ∨ i = 6 by omega) with rfl | rfl | rfl | rfl | rfl | rfl <;> decide
  refine WG.iload_n (pc' := 1) dX5_refuse_0 rfl rfl ?_
  refine WG.iconst (v := -1) (pc' := 2) dX5_refuse_1 rfl rfl ?_
  refine WG.icmp_gt (tgt := 22) (pc' := 5) dX5_refuse_2 rfl (by decide) (fun c_2 => ?_) (fun c_2 => ?_)
  · exact absurd c_2 h1.1
  · refine WG.iload_n (pc' := 6) dX5_refuse_5 rfl rfl ?_
    refine WG.bipush (v := -6) (pc' := 8) dX5_refuse_6 rfl rfl ?_
    refine WG.icmp_lt (tgt := 22) (pc' := 11) dX5_refuse_8 rfl (by decide) (fun c_8 => ?_) (fun c_8 => ?_)
    · exact absurd h1.2 (by grind)
    · refine WG.aload_n (pc' := 12) dX5_refuse_11 rfl rfl ?_
      refine WG.getR (r := 85) f_X5_67 (pc' := 15) dX5_refuse_12 rfl rfl rfl rfl ?_
      refine WG.iload_n (pc' := 16) dX5_refuse_15 rfl rfl ?_
      refine WG.ineg (pc' := 17) dX5_refuse_16 rfl ?_
      refine WG.dup2 (pc' := 18) dX5_refuse_17 rfl rfl rfl ?_
      refine WG.ialoadN (j := i) (pc' := 19) dX5_refuse_18 rfl rfl (by rw [Int32.neg_neg]) (by omega) (by first | decide | omega) ?_
      refine WG.iconst (v := 1) (pc' := 20) dX5_refuse_19 rfl rfl ?_
      refine WG.iadd (pc' := 21) dX5_refuse_20 rfl ?_
      refine WG.iastoreN (j := i) (pc' := 22) dX5_refuse_21 rfl rfl (by rw [Int32.neg_neg]) (by omega) (by first | decide | omega) ?_
      refine WG.iload_n (pc' := 23) dX5_refuse_22 rfl rfl ?_
      refine WG.ireturn dX5_refuse_23 rfl (by first | rfl | decide) ?_
      exact ⟨rfl, rfl⟩
set_option maxHeartbeats 4000000 in
set_option maxRecDepth 100000 in
theorem c_X5_refuseLong {h : zH} (i : Nat) (hi : 1 ≤ i ∧ i ≤ 6) : K_X5_refuseLong [.ref 0, .int (-nI i)] h (zD (some (.long (4000000000000000000 - (-nI i).toInt64))) (zI h 85 i (h.1 85 i + 1))) := by
  refine CT.of rfl rfl (Nat.le_of_ble_eq_true rfl) rfl ?_
  refine WG.ldc2 (pc' := 3) dX5_refuseLong_0 rfl k_X5_291 ?_
  refine WG.aload_n (pc' := 4) dX5_refuseLong_3 rfl rfl ?_
  refine WG.iload_n (pc' := 5) dX5_refuseLong_4 rfl rfl ?_
  refine WG.callVd (c_X5_refuse i hi) m_X5_71 b_X5_refuse rfl rfl rfl (zrk_of rfl) rfl (Nat.le_of_ble_eq_true rfl) dX5_refuseLong_5 (pc' := 8) rfl ?_
  refine WG.i2l (pc' := 9) dX5_refuseLong_8 rfl ?_
  refine WG.lsub (pc' := 10) dX5_refuseLong_9 rfl ?_
  refine WG.lreturn dX5_refuseLong_10 rfl ?_
  exact ⟨rfl, rfl⟩
set_option maxHeartbeats 4000000 in
set_option maxRecDepth 100000 in
theorem c_X5_isOneOfTwo (h : zH) (x : Int32) : K_X5_isOneOfTwo [.int x] h (zD (some (.int (zb (x = 0 ∨ x = 1)))) h) := by
  refine CT.of rfl rfl (Nat.le_of_ble_eq_true rfl) rfl ?_
  refine WG.iload_n (pc' := 1) dX5_isOneOfTwo_0 rfl rfl ?_
  refine WG.if_eq (tgt := 9) (pc' := 4) dX5_isOneOfTwo_1 rfl (by decide) (fun c_1 => ?_) (fun c_1 => ?_)
  · refine WG.iconst (v := 1) (pc' := 10) dX5_isOneOfTwo_9 rfl rfl ?_
    refine WG.goto (tgt := 14) dX5_isOneOfTwo_10 (by decide) ?_
    refine WG.ireturn dX5_isOneOfTwo_14 rfl (by first | rfl | decide) ?_
    exact ⟨by first | (rw [zb_t (by grind)]; done) | (rw [zb_f (by grind)]; done), rfl⟩
  · refine WG.iload_n (pc' := 5) dX5_isOneOfTwo_4 rfl rfl ?_
    refine WG.iconst (v := 1) (pc' := 6) dX5_isOneOfTwo_5 rfl rfl ?_
    refine WG.icmp_ne (tgt := 13) (pc' := 9) dX5_isOneOfTwo_6 rfl (by decide) (fun c_6 => ?_) (fun c_6 => ?_)
    · refine WG.iconst (v := 0) (pc' := 14) dX5_isOneOfTwo_13 rfl rfl ?_
      refine WG.ireturn dX5_isOneOfTwo_14 rfl (by first | rfl | decide) ?_
      exact ⟨by first | (rw [zb_t (by grind)]; done) | (rw [zb_f (by grind)]; done), rfl⟩
    · refine WG.iconst (v := 1) (pc' := 10) dX5_isOneOfTwo_9 rfl rfl ?_
      refine WG.goto (tgt := 14) dX5_isOneOfTwo_10 (by decide) ?_
      refine WG.ireturn dX5_isOneOfTwo_14 rfl (by first | rfl | decide) ?_
      exact ⟨by first | (rw [zb_t (by grind)]; done) | (rw [zb_f (by grind)]; done), rfl⟩
set_option maxHeartbeats 4000000 in
set_option maxRecDepth 100000 in
theorem c_X5_isList (h : zH) (x : Int32) : K_X5_isList [.int x] h (zD (some (.int (zb (zsd 3 x)))) h) := by
  refine CT.of rfl rfl (Nat.le_of_ble_eq_true rfl) rfl ?_
  have e3 : nI 3 = 3 := rfl
  refine WG.iload_n (pc' := 1) dX5_isList_0 rfl rfl ?_
  refine WG.if_lt (tgt := 13) (pc' := 4) dX5_isList_1 rfl (by decide) (fun c_1 => ?_) (fun c_1 => ?_)
  · refine WG.iconst (v := 0) (pc' := 14) dX5_isList_13 rfl rfl ?_
    refine WG.ireturn dX5_isList_14 rfl (by first | rfl | decide) ?_
    exact ⟨by first | (rw [zb_t (by unfold zsd; rw [e3]; grind)]; done) | (rw [zb_f (by unfold zsd; rw [e3]; grind)]; done), rfl⟩
  · refine WG.iload_n (pc' := 5) dX5_isList_4 rfl rfl ?_
    refine WG.iconst (v := 3) (pc' := 6) dX5_isList_5 rfl rfl ?_
    refine WG.icmp_ge (tgt := 13) (pc' := 9) dX5_isList_6 rfl (by decide) (fun c_6 => ?_) (fun c_6 => ?_)
    · refine WG.iconst (v := 0) (pc' := 14) dX5_isList_13 rfl rfl ?_
      refine WG.ireturn dX5_isList_14 rfl (by first | rfl | decide) ?_
      exact ⟨by first | (rw [zb_t (by unfold zsd; rw [e3]; grind)]; done) | (rw [zb_f (by unfold zsd; rw [e3]; grind)]; done), rfl⟩
    · refine WG.iconst (v := 1) (pc' := 10) dX5_isList_9 rfl rfl ?_
      refine WG.goto (tgt := 14) dX5_isList_10 (by decide) ?_
      refine WG.ireturn dX5_isList_14 rfl (by first | rfl | decide) ?_
      exact ⟨by first | (rw [zb_t (by unfold zsd; rw [e3]; grind)]; done) | (rw [zb_f (by unfold zsd; rw [e3]; grind)]; done), rfl⟩
set_option maxHeartbeats 4000000 in
set_option maxRecDepth 100000 in
theorem c_X6_isList (h : zH) (x : Int32) : K_X6_isList [.int x] h (zD (some (.int (zb (zsd 3 x)))) h) := by
  refine CT.of rfl rfl (Nat.le_of_ble_eq_true rfl) rfl ?_
  refine WG.iload_n (pc' := 1) dX6_isList_0 rfl rfl ?_
  refine WG.i2l (pc' := 2) dX6_isList_1 rfl ?_
  refine WG.lconst (v := 0) (pc' := 3) dX6_isList_2 rfl rfl ?_
  refine WG.ldc2 (pc' := 6) dX6_isList_3 rfl k_X6_218 ?_
  refine WG.callSd (c_X6_in _ _ _ _) m_X6_67 b_X6_in rfl (zrk_of rfl) rfl (Nat.le_of_ble_eq_true rfl) dX6_isList_6 (pc' := 9) rfl ?_
  refine WG.ireturn dX6_isList_9 rfl (zb_n _) ?_
  exact ⟨by rw [zb_i (show (0 ≤ x.toInt64 ∧ x.toInt64 ≤ 2) ↔ zsd 3 x from zin_iff (n := 3) (by decide) x)], rfl⟩
