/-! what changes a traverse -/
def zmj (h : zH) (k a b j : Nat) : zH := zI h (k + 1 + j) b (h.1 (k + 1 + j) a)
def zmv (h : zH) (k a b : Nat) : zH := zmj (zmj (zmj (zmj (zmj h k a b 0) k a b 1) k a b 2) k a b 3) k a b 4
theorem zmv_in (h : zH) (k a b : Nat) {j : Nat} (hj : j < 5) (p : Nat) : (zmv h k a b).1 (k + 1 + j) p = if p = b then h.1 (k + 1 + j) a else h.1 (k + 1 + j) p := by
  rcases (show j = 0 ∨ j = 1 ∨ j = 2 ∨ j = 3 ∨ j = 4 by omega) with rfl | rfl | rfl | rfl | rfl <;> simp [zmv, zmj, zI_1]
theorem zmv_fr (h : zH) (k a b : Nat) : zFr (zRg k 6) h (zmv h k a b) := by
  unfold zmv zmj
  exact ((((zFr.rf.I ⟨by omega, by omega⟩).I ⟨by omega, by omega⟩).I ⟨by omega, by omega⟩).I ⟨by omega, by omega⟩).I ⟨by omega, by omega⟩
theorem zmv_5 (h : zH) (k a b : Nat) : (zmv h k a b).1 k 5 = h.1 k 5 := by
  simp only [zmv, zmj, zI_1]
  repeat rw [if_neg (by omega)]
set_option maxHeartbeats 4000000 in
set_option maxRecDepth 100000 in
theorem c_X4_move {h : zH} {k a b : Nat} (hk : isS k) (ha : a < 8) (hb : b < 8) : K_X4_move [.ref k, .int (nI a), .int (nI b)] h (zD none (zmv h k a b)) := by
  refine CT.of rfl rfl (Nat.le_of_ble_eq_true rfl) rfl ?_
  refine WG.aload_n (pc' := 1) dX4_move_0 rfl rfl ?_
  refine WG.getR f_X4_9 (pc' := 4) dX4_move_1 rfl (zSo (by assumption)) rfl (zSr (by assumption) 0) ?_
  refine WG.iload_n (pc' := 5) dX4_move_4 rfl rfl ?_
  refine WG.aload_n (pc' := 6) dX4_move_5 rfl rfl ?_
  refine WG.getR f_X4_9 (pc' := 9) dX4_move_6 rfl (zSo (by assumption)) rfl (zSr (by assumption) 0) ?_
  refine WG.iload_n (pc' := 10) dX4_move_9 rfl rfl ?_
  refine WG.ialoadN  (pc' := 11) dX4_move_10 rfl (zSa (by assumption) (by decide)) (by first | rfl | assumption) (by first | assumption | omega) (by first | decide | omega) ?_
  refine WG.iastoreN  (pc' := 12) dX4_move_11 rfl (zSa (by assumption) (by decide)) (by first | rfl | assumption) (by first | assumption | omega) (by first | decide | omega) ?_
  refine WG.aload_n (pc' := 13) dX4_move_12 rfl rfl ?_
  refine WG.getR f_X4_15 (pc' := 16) dX4_move_13 rfl (zSo (by assumption)) rfl (zSr (by assumption) 1) ?_
  refine WG.iload_n (pc' := 17) dX4_move_16 rfl rfl ?_
  refine WG.aload_n (pc' := 18) dX4_move_17 rfl rfl ?_
  refine WG.getR f_X4_15 (pc' := 21) dX4_move_18 rfl (zSo (by assumption)) rfl (zSr (by assumption) 1) ?_
  refine WG.iload_n (pc' := 22) dX4_move_21 rfl rfl ?_
  refine WG.ialoadN  (pc' := 23) dX4_move_22 rfl (zSa (by assumption) (by decide)) (by first | rfl | assumption) (by first | assumption | omega) (by first | decide | omega) ?_
  refine WG.iastoreN  (pc' := 24) dX4_move_23 rfl (zSa (by assumption) (by decide)) (by first | rfl | assumption) (by first | assumption | omega) (by first | decide | omega) ?_
  refine WG.aload_n (pc' := 25) dX4_move_24 rfl rfl ?_
  refine WG.getR f_X4_18 (pc' := 28) dX4_move_25 rfl (zSo (by assumption)) rfl (zSr (by assumption) 2) ?_
  refine WG.iload_n (pc' := 29) dX4_move_28 rfl rfl ?_
  refine WG.aload_n (pc' := 30) dX4_move_29 rfl rfl ?_
  refine WG.getR f_X4_18 (pc' := 33) dX4_move_30 rfl (zSo (by assumption)) rfl (zSr (by assumption) 2) ?_
  refine WG.iload_n (pc' := 34) dX4_move_33 rfl rfl ?_
  refine WG.ialoadN  (pc' := 35) dX4_move_34 rfl (zSa (by assumption) (by decide)) (by first | rfl | assumption) (by first | assumption | omega) (by first | decide | omega) ?_
  refine WG.iastoreN  (pc' := 36) dX4_move_35 rfl (zSa (by assumption) (by decide)) (by first | rfl | assumption) (by first | assumption | omega) (by first | decide | omega) ?_
  refine WG.aload_n (pc' := 37) dX4_move_36 rfl rfl ?_
  refine WG.getR f_X4_21 (pc' := 40) dX4_move_37 rfl (zSo (by assumption)) rfl (zSr (by assumption) 3) ?_
  refine WG.iload_n (pc' := 41) dX4_move_40 rfl rfl ?_
  refine WG.aload_n (pc' := 42) dX4_move_41 rfl rfl ?_
  refine WG.getR f_X4_21 (pc' := 45) dX4_move_42 rfl (zSo (by assumption)) rfl (zSr (by assumption) 3) ?_
  refine WG.iload_n (pc' := 46) dX4_move_45 rfl rfl ?_
  refine WG.ialoadN  (pc' := 47) dX4_move_46 rfl (zSa (by assumption) (by decide)) (by first | rfl | assumption) (by first | assumption | omega) (by first | decide | omega) ?_
  refine WG.iastoreN  (pc' := 48) dX4_move_47 rfl (zSa (by assumption) (by decide)) (by first | rfl | assumption) (by first | assumption | omega) (by first | decide | omega) ?_
  refine WG.aload_n (pc' := 49) dX4_move_48 rfl rfl ?_
  refine WG.getR f_X4_24 (pc' := 52) dX4_move_49 rfl (zSo (by assumption)) rfl (zSr (by assumption) 4) ?_
  refine WG.iload_n (pc' := 53) dX4_move_52 rfl rfl ?_
  refine WG.aload_n (pc' := 54) dX4_move_53 rfl rfl ?_
  refine WG.getR f_X4_24 (pc' := 57) dX4_move_54 rfl (zSo (by assumption)) rfl (zSr (by assumption) 4) ?_
  refine WG.iload_n (pc' := 58) dX4_move_57 rfl rfl ?_
  refine WG.ialoadN  (pc' := 59) dX4_move_58 rfl (zSa (by assumption) (by decide)) (by first | rfl | assumption) (by first | assumption | omega) (by first | decide | omega) ?_
  refine WG.iastoreN  (pc' := 60) dX4_move_59 rfl (zSa (by assumption) (by decide)) (by first | rfl | assumption) (by first | assumption | omega) (by first | decide | omega) ?_
  refine WG.vreturn dX4_move_60 rfl ?_
  exact ⟨rfl, rfl⟩
def zins (f : zf) (at_ : Nat) (v : Nat → Int32) : zf := fun i j => if i < at_ then f i j else if i = at_ then v j else f (i - 1) j
def znew (e n t : Int32) : Nat → Int32 := fun j => match j with
  | 0 => 0
  | 1 => 0
  | 2 => e
  | 3 => n
  | _ => t
def zdel (f : zf) (s : Nat) : zf := fun i j => if i < s then f i j else f (i + 1) j
def zkin (f : zf) (s : Nat) (kd fg : Int32) : zf := fun i j => if i = s ∧ j = 0 then kd else if i = s ∧ j = 1 then fg else f i j
def zrev (f : zf) (n : Nat) : zf := fun i j => if j = 2 ∨ j = 3 then - f (n - 1 - i) j else f (n - 1 - i) j
set_option maxHeartbeats 4000000 in
set_option maxRecDepth 100000 in
theorem c_X4_open {h : zH} {k n at_ : Nat} {f : zf} {e nn t : Int32} (hS : RS k n f h) (hn8 : n < 8) (hat : at_ ≤ n) :
    K_X4_open [.ref k, .int (nI at_), .int e, .int nn, .int t] h (fun r h' => r = some (.int (nI at_)) ∧ RS k (n + 1) (zins f at_ (znew e nn t)) h' ∧ zFr (zRg k 6) h h') := by
  obtain ⟨hk, hn, h5, hf⟩ := hS
  refine CT.of rfl rfl (Nat.le_of_ble_eq_true rfl) rfl ?_
  have loop : ∀ (m i : Nat) (h1 : zH), at_ ≤ i → i ≤ n → i - at_ < m → h1.1 k 5 = nI n → (∀ j, j < 5 → ∀ p, p < n → p < i → h1.1 (k + 1 + j) p = f p j) → (∀ j, j < 5 → ∀ p, i < p → p ≤ n → h1.1 (k + 1 + j) p = f (p - 1) j) → zFr (zRg k 6) h h1 →
      W_X4_open (fun r h' => r = some (.int (nI at_)) ∧ RS k (n + 1) (zins f at_ (znew e nn t)) h' ∧ zFr (zRg k 6) h h') 6 [some (.ref k), some (.int (nI at_)), some (.int e), some (.int nn), some (.int t), some (.int (nI i))] [] h1 := by
    intro m
    induction m with
    | zero => intro i h1 a b c; omega
    | succ m ih =>
      intro i h1 ha hi hm g5 g1 g2 gf
      refine WG.iload (pc' := 8) dX4_open_6 rfl rfl ?_
      refine WG.iload_n (pc' := 9) dX4_open_8 rfl rfl ?_
      refine WG.icmp_le (tgt := 28) (pc' := 12) dX4_open_9 rfl (by decide) (fun c_9 => ?_) (fun c_9 => ?_)
      · obtain rfl : i = at_ := by have := (nI_leI (by omega) (by omega)).mp c_9; omega
        refine WG.aload_n (pc' := 29) dX4_open_28 rfl rfl ?_
        refine WG.getR f_X4_9 (pc' := 32) dX4_open_29 rfl (zSo (by assumption)) rfl (zSr (by assumption) 0) ?_
        refine WG.iload_n (pc' := 33) dX4_open_32 rfl rfl ?_
        refine WG.iconst (v := 0) (pc' := 34) dX4_open_33 rfl rfl ?_
        refine WG.iastoreN  (pc' := 35) dX4_open_34 rfl (zSa (by assumption) (by decide)) (by first | rfl | assumption) (by first | assumption | omega) (by first | decide | omega) ?_
        refine WG.aload_n (pc' := 36) dX4_open_35 rfl rfl ?_
        refine WG.getR f_X4_15 (pc' := 39) dX4_open_36 rfl (zSo (by assumption)) rfl (zSr (by assumption) 1) ?_
        refine WG.iload_n (pc' := 40) dX4_open_39 rfl rfl ?_
        refine WG.iconst (v := 0) (pc' := 41) dX4_open_40 rfl rfl ?_
        refine WG.iastoreN  (pc' := 42) dX4_open_41 rfl (zSa (by assumption) (by decide)) (by first | rfl | assumption) (by first | assumption | omega) (by first | decide | omega) ?_
        refine WG.aload_n (pc' := 43) dX4_open_42 rfl rfl ?_
        refine WG.getR f_X4_18 (pc' := 46) dX4_open_43 rfl (zSo (by assumption)) rfl (zSr (by assumption) 2) ?_
        refine WG.iload_n (pc' := 47) dX4_open_46 rfl rfl ?_
        refine WG.iload_n (pc' := 48) dX4_open_47 rfl rfl ?_
        refine WG.iastoreN  (pc' := 49) dX4_open_48 rfl (zSa (by assumption) (by decide)) (by first | rfl | assumption) (by first | assumption | omega) (by first | decide | omega) ?_
        refine WG.aload_n (pc' := 50) dX4_open_49 rfl rfl ?_
        refine WG.getR f_X4_21 (pc' := 53) dX4_open_50 rfl (zSo (by assumption)) rfl (zSr (by assumption) 3) ?_
        refine WG.iload_n (pc' := 54) dX4_open_53 rfl rfl ?_
        refine WG.iload_n (pc' := 55) dX4_open_54 rfl rfl ?_
        refine WG.iastoreN  (pc' := 56) dX4_open_55 rfl (zSa (by assumption) (by decide)) (by first | rfl | assumption) (by first | assumption | omega) (by first | decide | omega) ?_
        refine WG.aload_n (pc' := 57) dX4_open_56 rfl rfl ?_
        refine WG.getR f_X4_24 (pc' := 60) dX4_open_57 rfl (zSo (by assumption)) rfl (zSr (by assumption) 4) ?_
        refine WG.iload_n (pc' := 61) dX4_open_60 rfl rfl ?_
        refine WG.iload (pc' := 63) dX4_open_61 rfl rfl ?_
        refine WG.iastoreN  (pc' := 64) dX4_open_63 rfl (zSa (by assumption) (by decide)) (by first | rfl | assumption) (by first | assumption | omega) (by first | decide | omega) ?_
        refine WG.aload_n (pc' := 65) dX4_open_64 rfl rfl ?_
        refine WG.dup (pc' := 66) dX4_open_65 rfl rfl ?_
        refine WG.getI f_X4_27 (pc' := 69) dX4_open_66 rfl (zSo (by assumption)) rfl ?_
        refine WG.iconst (v := 1) (pc' := 70) dX4_open_69 rfl rfl ?_
        refine WG.iadd (pc' := 71) dX4_open_70 rfl ?_
        refine WG.putI p_X4_27 (pc' := 74) dX4_open_71 rfl (zSo (by assumption)) rfl rfl rfl ?_
        refine WG.iload_n (pc' := 75) dX4_open_74 rfl rfl ?_
        refine WG.ireturn dX4_open_75 rfl (by first | rfl | decide) ?_
        refine ⟨rfl, ⟨hk, by omega, ?_, fun p hp j hj => ?_⟩, ?_⟩
        · simp only [zI_1]
          rw [if_pos ⟨trivial, trivial⟩]
          repeat rw [if_neg (by omega)]
          rw [g5, nI_succ]
        · have hz : ∀ x, zins f i (znew e nn t) p j = x ↔ (if p < i then f p j else if p = i then znew e nn t j else f (p - 1) j) = x := fun _ => Iff.rfl
          simp only [zI_1]
          unfold zins
          by_cases c1 : p < i
          · rw [if_pos c1, ← g1 j hj p (by omega) c1]
            repeat rw [if_neg (by omega)]
          · rw [if_neg c1]
            by_cases c2 : p = i
            · subst c2
              rw [if_pos rfl, if_neg (by omega)]
              rcases (show j = 0 ∨ j = 1 ∨ j = 2 ∨ j = 3 ∨ j = 4 by omega) with rfl | rfl | rfl | rfl | rfl <;> simp [znew]
            · rw [if_neg c2, ← g2 j hj p (by omega) (by omega)]
              repeat rw [if_neg (by omega)]
        · exact (((((gf.I ⟨by omega, by omega⟩).I ⟨by omega, by omega⟩).I ⟨by omega, by omega⟩).I ⟨by omega, by omega⟩).I ⟨by omega, by omega⟩).I ⟨by omega, by omega⟩
      · have hlt : at_ < i := by have := mt (nI_leI (a := i) (b := at_) (by omega) (by omega)).mpr c_9; omega
        obtain ⟨i, rfl⟩ : ∃ i', i = i' + 1 := ⟨i - 1, by omega⟩
        refine WG.aload_n (pc' := 13) dX4_open_12 rfl rfl ?_
        refine WG.iload (pc' := 15) dX4_open_13 rfl rfl ?_
        refine WG.iconst (v := 1) (pc' := 16) dX4_open_15 rfl rfl ?_
        refine WG.isub (pc' := 17) dX4_open_16 rfl ?_
        rw [nI_pred]
        refine WG.iload (pc' := 19) dX4_open_17 rfl rfl ?_
        refine WG.callVd (c_X4_move hk (by omega) (by omega)) m_X4_43 b_X4_move (zSo (by assumption)) rfl rfl (zrk_of rfl) rfl (Nat.le_of_ble_eq_true rfl) dX4_open_19 (pc' := 22) rfl ?_
        refine WG.iincM (L' := [_, _, _, _, _, _]) (pc' := 25) dX4_open_22 rfl rfl (by decide) rfl ?_
        refine WG.goto (tgt := 6) dX4_open_25 (by decide) ?_
        rw [pk_m1]
        refine ih i _ (by omega) (by omega) (by omega) (by rw [zmv_5]; exact g5) (fun j hj p hp hpi => ?_) (fun j hj p hp hpn => ?_) (gf.tr (zmv_fr _ _ _ _))
        · rw [zmv_in _ _ _ _ hj, if_neg (by omega)]
          exact g1 j hj p hp (by omega)
        · rw [zmv_in _ _ _ _ hj]
          by_cases c2 : p = i + 1
          · rw [if_pos c2, c2]
            exact g1 j hj i (by omega) (by omega)
          · rw [if_neg c2]
            exact g2 j hj p (by omega) hpn
  refine WG.aload_n (pc' := 1) dX4_open_0 rfl rfl ?_
  refine WG.getI f_X4_27 (pc' := 4) dX4_open_1 rfl (zSo (by assumption)) rfl ?_
  rw [h5]
  refine WG.istore (L' := [_, _, _, _, _, _]) (pc' := 6) dX4_open_4 rfl (by decide) rfl ?_
  exact loop (n + 1) n h hat (by omega) (by omega) h5 (fun j hj p hp _ => hf p hp j hj) (fun j hj p hp hpn => by omega) zFr.rf
set_option maxHeartbeats 4000000 in
set_option maxRecDepth 100000 in
theorem c_X4_close {h : zH} {k n s : Nat} {f : zf} (hS : RS k n f h) (hs : s < n) :
    K_X4_close [.ref k, .int (nI s)] h (fun r h' => r = some (.int (nI (n - 1))) ∧ RS k (n - 1) (zdel f s) h' ∧ zFr (zRg k 6) h h') := by
  obtain ⟨hk, hn, h5, hf⟩ := hS
  refine CT.of rfl rfl (Nat.le_of_ble_eq_true rfl) rfl ?_
  obtain ⟨n, rfl⟩ : ∃ n', n = n' + 1 := ⟨n - 1, by omega⟩
  have loop : ∀ (m i : Nat) (h1 : zH), s ≤ i → i ≤ n → n - i < m → h1.1 k 5 = nI n → (∀ j, j < 5 → ∀ p, p < i → h1.1 (k + 1 + j) p = zdel f s p j) → (∀ j, j < 5 → ∀ p, i ≤ p → p < n + 1 → h1.1 (k + 1 + j) p = f p j) → zFr (zRg k 6) h h1 →
      W_X4_close (fun r h' => r = some (.int (nI n)) ∧ RS k n (zdel f s) h' ∧ zFr (zRg k 6) h h') 12 [some (.ref k), some (.int (nI s)), some (.int (nI i))] [] h1 := by
    intro m
    induction m with
    | zero => intro i h1 a b c; omega
    | succ m ih =>
      intro i h1 ha hi hm g5 g1 g2 gf
      refine WG.iload_n (pc' := 13) dX4_close_12 rfl rfl ?_
      refine WG.aload_n (pc' := 14) dX4_close_13 rfl rfl ?_
      refine WG.getI f_X4_27 (pc' := 17) dX4_close_14 rfl (zSo (by assumption)) rfl ?_
      refine WG.icmp_ge (tgt := 34) (pc' := 20) dX4_close_17 rfl (by decide) (fun c_17 => ?_) (fun c_17 => ?_)
      · obtain rfl : i = n := by have := (zle g5 (by omega) (by omega)).mp c_17; omega
        refine WG.aload_n (pc' := 35) dX4_close_34 rfl rfl ?_
        refine WG.getI f_X4_27 (pc' := 38) dX4_close_35 rfl (zSo (by assumption)) rfl ?_
        refine WG.ireturn dX4_close_38 rfl (by first | rfl | decide) ?_
        exact ⟨by rw [g5], ⟨hk, by omega, g5, fun p hp j hj => g1 j hj p hp⟩, gf⟩
      · have hlt : i < n := by have := mt (zle (i := i) g5 (by omega) (by omega)).mpr c_17; omega
        refine WG.aload_n (pc' := 21) dX4_close_20 rfl rfl ?_
        refine WG.iload_n (pc' := 22) dX4_close_21 rfl rfl ?_
        refine WG.iconst (v := 1) (pc' := 23) dX4_close_22 rfl rfl ?_
        refine WG.iadd (pc' := 24) dX4_close_23 rfl ?_
        rw [nI_1]
        refine WG.iload_n (pc' := 25) dX4_close_24 rfl rfl ?_
        refine WG.callVd (c_X4_move hk (by omega) (by omega)) m_X4_43 b_X4_move (zSo (by assumption)) rfl rfl (zrk_of rfl) rfl (Nat.le_of_ble_eq_true rfl) dX4_close_25 (pc' := 28) rfl ?_
        refine WG.iinc1 (L' := [_, _, _]) (pc' := 31) dX4_close_28 rfl rfl (by decide) rfl ?_
        refine WG.goto (tgt := 12) dX4_close_31 (by decide) ?_
        rw [nI_1]
        refine ih (i + 1) _ (by omega) (by omega) (by omega) (by rw [zmv_5]; exact g5) (fun j hj p hp => ?_) (fun j hj p hp hpn => ?_) (gf.tr (zmv_fr _ _ _ _))
        · rw [zmv_in _ _ _ _ hj]
          by_cases c2 : p = i
          · rw [if_pos c2, c2, g2 j hj (i + 1) (by omega) (by omega)]
            unfold zdel
            rw [if_neg (by omega)]
          · rw [if_neg c2]
            exact g1 j hj p (by omega)
        · rw [zmv_in _ _ _ _ hj, if_neg (by omega)]
          exact g2 j hj p (by omega) hpn
  refine WG.aload_n (pc' := 1) dX4_close_0 rfl rfl ?_
  refine WG.dup (pc' := 2) dX4_close_1 rfl rfl ?_
  refine WG.getI f_X4_27 (pc' := 5) dX4_close_2 rfl (zSo (by assumption)) rfl ?_
  refine WG.iconst (v := 1) (pc' := 6) dX4_close_5 rfl rfl ?_
  refine WG.isub (pc' := 7) dX4_close_6 rfl ?_
  rw [h5, nI_pred]
  refine WG.putI p_X4_27 (pc' := 10) dX4_close_7 rfl (zSo (by assumption)) rfl rfl rfl ?_
  refine WG.iload_n (pc' := 11) dX4_close_10 rfl rfl ?_
  refine WG.istore_n (L' := [_, _, _]) (pc' := 12) dX4_close_11 rfl (by decide) rfl ?_
  refine loop (n + 1) s _ (by omega) (by omega) (by omega) (by rw [zI_1, if_pos ⟨rfl, rfl⟩]) (fun j hj p hp => ?_) (fun j hj p hp hpn => ?_) (zFr.rf.I ⟨by omega, by omega⟩)
  · rw [zI_1, if_neg (by omega), hf p (by omega) j hj]
    unfold zdel
    rw [if_pos hp]
  · rw [zI_1, if_neg (by omega), hf p (by omega) j hj]
set_option maxHeartbeats 4000000 in
set_option maxRecDepth 100000 in
theorem c_X4_become_ {h : zH} {k n s : Nat} {f : zf} {kd fg : Int32} (hS : RS k n f h) (hs : s < n) :
    K_X4_become_ [.ref k, .int (nI s), .int kd, .int fg] h (fun r h' => r = some (.int (10 * f s 0 + f s 1)) ∧ RS k n (zkin f s kd fg) h' ∧ zFr (zRg k 6) h h') := by
  obtain ⟨hk, hn, h5, hf⟩ := hS
  refine CT.of rfl rfl (Nat.le_of_ble_eq_true rfl) rfl ?_
  refine WG.bipush (v := 10) (pc' := 2) dX4_become__0 rfl rfl ?_
  refine WG.aload_n (pc' := 3) dX4_become__2 rfl rfl ?_
  refine WG.getR f_X4_9 (pc' := 6) dX4_become__3 rfl (zSo (by assumption)) rfl (zSr (by assumption) 0) ?_
  refine WG.iload_n (pc' := 7) dX4_become__6 rfl rfl ?_
  refine WG.ialoadN  (pc' := 8) dX4_become__7 rfl (zSa (by assumption) (by decide)) (by first | rfl | assumption) (by first | assumption | omega) (by first | decide | omega) ?_
  rw [hf s hs 0 (by decide)]
  refine WG.imul (pc' := 9) dX4_become__8 rfl ?_
  refine WG.aload_n (pc' := 10) dX4_become__9 rfl rfl ?_
  refine WG.getR f_X4_15 (pc' := 13) dX4_become__10 rfl (zSo (by assumption)) rfl (zSr (by assumption) 1) ?_
  refine WG.iload_n (pc' := 14) dX4_become__13 rfl rfl ?_
  refine WG.ialoadN  (pc' := 15) dX4_become__14 rfl (zSa (by assumption) (by decide)) (by first | rfl | assumption) (by first | assumption | omega) (by first | decide | omega) ?_
  rw [hf s hs 1 (by decide)]
  refine WG.iadd (pc' := 16) dX4_become__15 rfl ?_
  refine WG.istore (L' := [_, _, _, _, _]) (pc' := 18) dX4_become__16 rfl (by decide) rfl ?_
  refine WG.aload_n (pc' := 19) dX4_become__18 rfl rfl ?_
  refine WG.getR f_X4_9 (pc' := 22) dX4_become__19 rfl (zSo (by assumption)) rfl (zSr (by assumption) 0) ?_
  refine WG.iload_n (pc' := 23) dX4_become__22 rfl rfl ?_
  refine WG.iload_n (pc' := 24) dX4_become__23 rfl rfl ?_
  refine WG.iastoreN  (pc' := 25) dX4_become__24 rfl (zSa (by assumption) (by decide)) (by first | rfl | assumption) (by first | assumption | omega) (by first | decide | omega) ?_
  refine WG.aload_n (pc' := 26) dX4_become__25 rfl rfl ?_
  refine WG.getR f_X4_15 (pc' := 29) dX4_become__26 rfl (zSo (by assumption)) rfl (zSr (by assumption) 1) ?_
  refine WG.iload_n (pc' := 30) dX4_become__29 rfl rfl ?_
  refine WG.iload_n (pc' := 31) dX4_become__30 rfl rfl ?_
  refine WG.iastoreN  (pc' := 32) dX4_become__31 rfl (zSa (by assumption) (by decide)) (by first | rfl | assumption) (by first | assumption | omega) (by first | decide | omega) ?_
  refine WG.iload (pc' := 34) dX4_become__32 rfl rfl ?_
  refine WG.ireturn dX4_become__34 rfl (by first | rfl | decide) ?_
  refine ⟨rfl, ⟨hk, hn, ?_, fun p hp j hj => ?_⟩, (zFr.rf.I ⟨by omega, by omega⟩).I ⟨by omega, by omega⟩⟩
  · rw [zI_1, if_neg (by omega), zI_1, if_neg (by omega), h5]
  · simp only [zI_1]
    unfold zkin
    rw [← hf p hp j hj]
    rcases (show j = 0 ∨ j = 1 ∨ j = 2 ∨ j = 3 ∨ j = 4 by omega) with rfl | rfl | rfl | rfl | rfl <;> simp
set_option maxHeartbeats 4000000 in
set_option maxRecDepth 100000 in
theorem c_X4_become {h : zH} {k n q : Nat} {f : zf} (hk : isS k) (hS : RS q n f h) (hne : q ≠ k) :
    K_X4_become [.ref k, .ref q] h (fun r h' => r = none ∧ RS k n f h' ∧ zFr (zRg k 6) h h') := by
  obtain ⟨hq, hn, h5, hf⟩ := hS
  have hap := isS_apart hk hq
  refine CT.of rfl rfl (Nat.le_of_ble_eq_true rfl) rfl ?_
  have loop : ∀ (m i : Nat) (h1 : zH), i ≤ n → n - i < m → h1.1 k 5 = nI n → (∀ j, j < 5 → ∀ p, p < i → h1.1 (k + 1 + j) p = f p j) → zFr (zRg k 6) h h1 →
      W_X4_become (fun r h' => r = none ∧ RS k n f h' ∧ zFr (zRg k 6) h h') 10 [some (.ref k), some (.ref q), some (.int (nI i))] [] h1 := by
    intro m
    induction m with
    | zero => intro i h1 a b; omega
    | succ m ih =>
      intro i h1 hi hm g5 g1 gf
      have gq : ∀ o, q ≤ o → o < q + 6 → h1.1 o = h.1 o := fun o a b => gf.1 o (fun ⟨z1, z2⟩ => by omega)
      refine WG.iload_n (pc' := 11) dX4_become_10 rfl rfl ?_
      refine WG.aload_n (pc' := 12) dX4_become_11 rfl rfl ?_
      refine WG.getI f_X4_27 (pc' := 15) dX4_become_12 rfl (zSo (by assumption)) rfl ?_
      refine WG.icmp_ge (tgt := 84) (pc' := 18) dX4_become_15 rfl (by decide) (fun c_15 => ?_) (fun c_15 => ?_)
      · obtain rfl : i = n := by have := (zle g5 (by omega) (by omega)).mp c_15; omega
        refine WG.vreturn dX4_become_84 rfl ?_
        exact ⟨rfl, ⟨hk, by omega, g5, fun p hp j hj => g1 j hj p hp⟩, gf⟩
      · have hlt : i < n := by have := mt (zle (i := i) g5 (by omega) (by omega)).mpr c_15; omega
        refine WG.aload_n (pc' := 19) dX4_become_18 rfl rfl ?_
        refine WG.getR f_X4_9 (pc' := 22) dX4_become_19 rfl (zSo (by assumption)) rfl (zSr (by assumption) 0) ?_
        refine WG.iload_n (pc' := 23) dX4_become_22 rfl rfl ?_
        refine WG.aload_n (pc' := 24) dX4_become_23 rfl rfl ?_
        refine WG.getR f_X4_9 (pc' := 27) dX4_become_24 rfl (zSo (by assumption)) rfl (zSr (by assumption) 0) ?_
        refine WG.iload_n (pc' := 28) dX4_become_27 rfl rfl ?_
        refine WG.ialoadN  (pc' := 29) dX4_become_28 rfl (zSa (by assumption) (by decide)) (by first | rfl | assumption) (by first | assumption | omega) (by first | decide | omega) ?_
        refine WG.iastoreN  (pc' := 30) dX4_become_29 rfl (zSa (by assumption) (by decide)) (by first | rfl | assumption) (by first | assumption | omega) (by first | decide | omega) ?_
        refine WG.aload_n (pc' := 31) dX4_become_30 rfl rfl ?_
        refine WG.getR f_X4_15 (pc' := 34) dX4_become_31 rfl (zSo (by assumption)) rfl (zSr (by assumption) 1) ?_
        refine WG.iload_n (pc' := 35) dX4_become_34 rfl rfl ?_
        refine WG.aload_n (pc' := 36) dX4_become_35 rfl rfl ?_
        refine WG.getR f_X4_15 (pc' := 39) dX4_become_36 rfl (zSo (by assumption)) rfl (zSr (by assumption) 1) ?_
        refine WG.iload_n (pc' := 40) dX4_become_39 rfl rfl ?_
        refine WG.ialoadN  (pc' := 41) dX4_become_40 rfl (zSa (by assumption) (by decide)) (by first | rfl | assumption) (by first | assumption | omega) (by first | decide | omega) ?_
        refine WG.iastoreN  (pc' := 42) dX4_become_41 rfl (zSa (by assumption) (by decide)) (by first | rfl | assumption) (by first | assumption | omega) (by first | decide | omega) ?_
        refine WG.aload_n (pc' := 43) dX4_become_42 rfl rfl ?_
        refine WG.getR f_X4_18 (pc' := 46) dX4_become_43 rfl (zSo (by assumption)) rfl (zSr (by assumption) 2) ?_
        refine WG.iload_n (pc' := 47) dX4_become_46 rfl rfl ?_
        refine WG.aload_n (pc' := 48) dX4_become_47 rfl rfl ?_
        refine WG.getR f_X4_18 (pc' := 51) dX4_become_48 rfl (zSo (by assumption)) rfl (zSr (by assumption) 2) ?_
        refine WG.iload_n (pc' := 52) dX4_become_51 rfl rfl ?_
        refine WG.ialoadN  (pc' := 53) dX4_become_52 rfl (zSa (by assumption) (by decide)) (by first | rfl | assumption) (by first | assumption | omega) (by first | decide | omega) ?_
        refine WG.iastoreN  (pc' := 54) dX4_become_53 rfl (zSa (by assumption) (by decide)) (by first | rfl | assumption) (by first | assumption | omega) (by first | decide | omega) ?_
        refine WG.aload_n (pc' := 55) dX4_become_54 rfl rfl ?_
        refine WG.getR f_X4_21 (pc' := 58) dX4_become_55 rfl (zSo (by assumption)) rfl (zSr (by assumption) 3) ?_
        refine WG.iload_n (pc' := 59) dX4_become_58 rfl rfl ?_
        refine WG.aload_n (pc' := 60) dX4_become_59 rfl rfl ?_
        refine WG.getR f_X4_21 (pc' := 63) dX4_become_60 rfl (zSo (by assumption)) rfl (zSr (by assumption) 3) ?_
        refine WG.iload_n (pc' := 64) dX4_become_63 rfl rfl ?_
        refine WG.ialoadN  (pc' := 65) dX4_become_64 rfl (zSa (by assumption) (by decide)) (by first | rfl | assumption) (by first | assumption | omega) (by first | decide | omega) ?_
        refine WG.iastoreN  (pc' := 66) dX4_become_65 rfl (zSa (by assumption) (by decide)) (by first | rfl | assumption) (by first | assumption | omega) (by first | decide | omega) ?_
        refine WG.aload_n (pc' := 67) dX4_become_66 rfl rfl ?_
        refine WG.getR f_X4_24 (pc' := 70) dX4_become_67 rfl (zSo (by assumption)) rfl (zSr (by assumption) 4) ?_
        refine WG.iload_n (pc' := 71) dX4_become_70 rfl rfl ?_
        refine WG.aload_n (pc' := 72) dX4_become_71 rfl rfl ?_
        refine WG.getR f_X4_24 (pc' := 75) dX4_become_72 rfl (zSo (by assumption)) rfl (zSr (by assumption) 4) ?_
        refine WG.iload_n (pc' := 76) dX4_become_75 rfl rfl ?_
        refine WG.ialoadN  (pc' := 77) dX4_become_76 rfl (zSa (by assumption) (by decide)) (by first | rfl | assumption) (by first | assumption | omega) (by first | decide | omega) ?_
        refine WG.iastoreN  (pc' := 78) dX4_become_77 rfl (zSa (by assumption) (by decide)) (by first | rfl | assumption) (by first | assumption | omega) (by first | decide | omega) ?_
        refine WG.iinc1 (L' := [_, _, _]) (pc' := 81) dX4_become_78 rfl rfl (by decide) rfl ?_
        refine WG.goto (tgt := 10) dX4_become_81 (by decide) ?_
        rw [nI_1]
        refine ih (i + 1) _ (by omega) (by omega) ?_ (fun j hj p hp => ?_) (((((gf.I ⟨by omega, by omega⟩).I ⟨by omega, by omega⟩).I ⟨by omega, by omega⟩).I ⟨by omega, by omega⟩).I ⟨by omega, by omega⟩)
        · simp only [zI_1]
          repeat rw [if_neg (by omega)]
          exact g5
        · have e : ∀ j, j < 5 → h1.1 (q + 1 + j) i = f i j := fun j hj => by rw [gq _ (by omega) (by omega)]; exact hf i hlt j hj
          simp only [zI_1]
          by_cases c2 : p = i
          · subst c2
            rcases (show j = 0 ∨ j = 1 ∨ j = 2 ∨ j = 3 ∨ j = 4 by omega) with rfl | rfl | rfl | rfl | rfl
            · repeat rw [if_neg (by omega)]
              rw [if_pos (by omega)]; exact e 0 (by decide)
            · repeat rw [if_neg (by omega)]
              rw [if_pos (by omega)]
              repeat rw [if_neg (by omega)]
              exact e 1 (by decide)
            · repeat rw [if_neg (by omega)]
              rw [if_pos (by omega)]
              repeat rw [if_neg (by omega)]
              exact e 2 (by decide)
            · repeat rw [if_neg (by omega)]
              rw [if_pos (by omega)]
              repeat rw [if_neg (by omega)]
              exact e 3 (by decide)
            · rw [if_pos (by omega)]
              repeat rw [if_neg (by omega)]
              exact e 4 (by decide)
          · repeat rw [if_neg (by omega)]
            exact g1 j hj p (by omega)
  refine WG.aload_n (pc' := 1) dX4_become_0 rfl rfl ?_
  refine WG.aload_n (pc' := 2) dX4_become_1 rfl rfl ?_
  refine WG.getI f_X4_27 (pc' := 5) dX4_become_2 rfl (zSo (by assumption)) rfl ?_
  refine WG.putI p_X4_27 (pc' := 8) dX4_become_5 rfl (zSo (by assumption)) rfl rfl rfl ?_
  refine WG.iconst (v := 0) (pc' := 9) dX4_become_8 rfl rfl ?_
  refine WG.istore_n (L' := [_, _, _]) (pc' := 10) dX4_become_9 rfl (by decide) rfl ?_
  refine loop (n + 1) 0 _ (by omega) (by omega) (by rw [zI_1, if_pos ⟨rfl, rfl⟩, h5]) (fun j hj p hp => by omega) (zFr.rf.I ⟨by omega, by omega⟩)
/-- two sides change their places -/
def zswp (h : zH) (k a b : Nat) : zH := zI (zI (zI (zI (zI (zmv h k b a) (k + 1 + 0) b (h.1 (k + 1 + 0) a)) (k + 1 + 1) b (h.1 (k + 1 + 1) a)) (k + 1 + 2) b (h.1 (k + 1 + 2) a)) (k + 1 + 3) b (h.1 (k + 1 + 3) a)) (k + 1 + 4) b (h.1 (k + 1 + 4) a)
theorem zmv_0 (h : zH) (k a b p : Nat) : (zmv h k a b).1 (k + 1) p = if p = b then h.1 (k + 1) a else h.1 (k + 1) p := zmv_in h k a b (j := 0) (by decide) p
theorem zswp_in (h : zH) (k a b : Nat) {j : Nat} (hj : j < 5) (p : Nat) : (zswp h k a b).1 (k + 1 + j) p = if p = b then h.1 (k + 1 + j) a else if p = a then h.1 (k + 1 + j) b else h.1 (k + 1 + j) p := by
  rcases (show j = 0 ∨ j = 1 ∨ j = 2 ∨ j = 3 ∨ j = 4 by omega) with rfl | rfl | rfl | rfl | rfl <;> simp [zswp, zI_1, zmv_in, zmv_0]
theorem zswp_fr (h : zH) (k a b : Nat) : zFr (zRg k 6) h (zswp h k a b) :=
  (((((zmv_fr h k b a).I ⟨by omega, by omega⟩).I ⟨by omega, by omega⟩).I ⟨by omega, by omega⟩).I ⟨by omega, by omega⟩).I ⟨by omega, by omega⟩
theorem zswp_5 (h : zH) (k a b : Nat) : (zswp h k a b).1 k 5 = h.1 k 5 := by
  simp only [zswp, zI_1, zmv_5]
  repeat rw [if_neg (by omega)]
set_option maxHeartbeats 4000000 in
set_option maxRecDepth 100000 in
theorem c_X4_swap {h : zH} {k a b : Nat} (hk : isS k) (ha : a < 8) (hb : b < 8) : K_X4_swap [.ref k, .int (nI a), .int (nI b)] h (zD none (zswp h k a b)) := by
  refine CT.of rfl rfl (Nat.le_of_ble_eq_true rfl) rfl ?_
  refine WG.aload_n (pc' := 1) dX4_swap_0 rfl rfl ?_
  refine WG.getR f_X4_9 (pc' := 4) dX4_swap_1 rfl (zSo (by assumption)) rfl (zSr (by assumption) 0) ?_
  refine WG.iload_n (pc' := 5) dX4_swap_4 rfl rfl ?_
  refine WG.ialoadN  (pc' := 6) dX4_swap_5 rfl (zSa (by assumption) (by decide)) (by first | rfl | assumption) (by first | assumption | omega) (by first | decide | omega) ?_
  refine WG.istore_n (L' := [_, _, _, _, _, _, _, _]) (pc' := 7) dX4_swap_6 rfl (by decide) rfl ?_
  refine WG.aload_n (pc' := 8) dX4_swap_7 rfl rfl ?_
  refine WG.getR f_X4_15 (pc' := 11) dX4_swap_8 rfl (zSo (by assumption)) rfl (zSr (by assumption) 1) ?_
  refine WG.iload_n (pc' := 12) dX4_swap_11 rfl rfl ?_
  refine WG.ialoadN  (pc' := 13) dX4_swap_12 rfl (zSa (by assumption) (by decide)) (by first | rfl | assumption) (by first | assumption | omega) (by first | decide | omega) ?_
  refine WG.istore (L' := [_, _, _, _, _, _, _, _]) (pc' := 15) dX4_swap_13 rfl (by decide) rfl ?_
  refine WG.aload_n (pc' := 16) dX4_swap_15 rfl rfl ?_
  refine WG.getR f_X4_18 (pc' := 19) dX4_swap_16 rfl (zSo (by assumption)) rfl (zSr (by assumption) 2) ?_
  refine WG.iload_n (pc' := 20) dX4_swap_19 rfl rfl ?_
  refine WG.ialoadN  (pc' := 21) dX4_swap_20 rfl (zSa (by assumption) (by decide)) (by first | rfl | assumption) (by first | assumption | omega) (by first | decide | omega) ?_
  refine WG.istore (L' := [_, _, _, _, _, _, _, _]) (pc' := 23) dX4_swap_21 rfl (by decide) rfl ?_
  refine WG.aload_n (pc' := 24) dX4_swap_23 rfl rfl ?_
  refine WG.getR f_X4_21 (pc' := 27) dX4_swap_24 rfl (zSo (by assumption)) rfl (zSr (by assumption) 3) ?_
  refine WG.iload_n (pc' := 28) dX4_swap_27 rfl rfl ?_
  refine WG.ialoadN  (pc' := 29) dX4_swap_28 rfl (zSa (by assumption) (by decide)) (by first | rfl | assumption) (by first | assumption | omega) (by first | decide | omega) ?_
  refine WG.istore (L' := [_, _, _, _, _, _, _, _]) (pc' := 31) dX4_swap_29 rfl (by decide) rfl ?_
  refine WG.aload_n (pc' := 32) dX4_swap_31 rfl rfl ?_
  refine WG.getR f_X4_24 (pc' := 35) dX4_swap_32 rfl (zSo (by assumption)) rfl (zSr (by assumption) 4) ?_
  refine WG.iload_n (pc' := 36) dX4_swap_35 rfl rfl ?_
  refine WG.ialoadN  (pc' := 37) dX4_swap_36 rfl (zSa (by assumption) (by decide)) (by first | rfl | assumption) (by first | assumption | omega) (by first | decide | omega) ?_
  refine WG.istore (L' := [_, _, _, _, _, _, _, _]) (pc' := 39) dX4_swap_37 rfl (by decide) rfl ?_
  refine WG.aload_n (pc' := 40) dX4_swap_39 rfl rfl ?_
  refine WG.iload_n (pc' := 41) dX4_swap_40 rfl rfl ?_
  refine WG.iload_n (pc' := 42) dX4_swap_41 rfl rfl ?_
  refine WG.callVd (c_X4_move hk hb ha) m_X4_43 b_X4_move (zSo (by assumption)) rfl rfl (zrk_of rfl) rfl (Nat.le_of_ble_eq_true rfl) dX4_swap_42 (pc' := 45) rfl ?_
  refine WG.aload_n (pc' := 46) dX4_swap_45 rfl rfl ?_
  refine WG.getR f_X4_9 (pc' := 49) dX4_swap_46 rfl (zSo (by assumption)) rfl (zSr (by assumption) 0) ?_
  refine WG.iload_n (pc' := 50) dX4_swap_49 rfl rfl ?_
  refine WG.iload_n (pc' := 51) dX4_swap_50 rfl rfl ?_
  refine WG.iastoreN  (pc' := 52) dX4_swap_51 rfl (zSa (by assumption) (by decide)) (by first | rfl | assumption) (by first | assumption | omega) (by first | decide | omega) ?_
  refine WG.aload_n (pc' := 53) dX4_swap_52 rfl rfl ?_
  refine WG.getR f_X4_15 (pc' := 56) dX4_swap_53 rfl (zSo (by assumption)) rfl (zSr (by assumption) 1) ?_
  refine WG.iload_n (pc' := 57) dX4_swap_56 rfl rfl ?_
  refine WG.iload (pc' := 59) dX4_swap_57 rfl rfl ?_
  refine WG.iastoreN  (pc' := 60) dX4_swap_59 rfl (zSa (by assumption) (by decide)) (by first | rfl | assumption) (by first | assumption | omega) (by first | decide | omega) ?_
  refine WG.aload_n (pc' := 61) dX4_swap_60 rfl rfl ?_
  refine WG.getR f_X4_18 (pc' := 64) dX4_swap_61 rfl (zSo (by assumption)) rfl (zSr (by assumption) 2) ?_
  refine WG.iload_n (pc' := 65) dX4_swap_64 rfl rfl ?_
  refine WG.iload (pc' := 67) dX4_swap_65 rfl rfl ?_
  refine WG.iastoreN  (pc' := 68) dX4_swap_67 rfl (zSa (by assumption) (by decide)) (by first | rfl | assumption) (by first | assumption | omega) (by first | decide | omega) ?_
  refine WG.aload_n (pc' := 69) dX4_swap_68 rfl rfl ?_
  refine WG.getR f_X4_21 (pc' := 72) dX4_swap_69 rfl (zSo (by assumption)) rfl (zSr (by assumption) 3) ?_
  refine WG.iload_n (pc' := 73) dX4_swap_72 rfl rfl ?_
  refine WG.iload (pc' := 75) dX4_swap_73 rfl rfl ?_
  refine WG.iastoreN  (pc' := 76) dX4_swap_75 rfl (zSa (by assumption) (by decide)) (by first | rfl | assumption) (by first | assumption | omega) (by first | decide | omega) ?_
  refine WG.aload_n (pc' := 77) dX4_swap_76 rfl rfl ?_
  refine WG.getR f_X4_24 (pc' := 80) dX4_swap_77 rfl (zSo (by assumption)) rfl (zSr (by assumption) 4) ?_
  refine WG.iload_n (pc' := 81) dX4_swap_80 rfl rfl ?_
  refine WG.iload (pc' := 83) dX4_swap_81 rfl rfl ?_
  refine WG.iastoreN  (pc' := 84) dX4_swap_83 rfl (zSa (by assumption) (by decide)) (by first | rfl | assumption) (by first | assumption | omega) (by first | decide | omega) ?_
  refine WG.vreturn dX4_swap_84 rfl ?_
  exact ⟨rfl, rfl⟩
theorem znI2 {n : Nat} (h : n < 2 ^ 31) : nI n / 2 = nI (n / 2) := pk_div h (by decide) (by decide)
set_option maxHeartbeats 4000000 in
set_option maxRecDepth 100000 in
theorem c_X4_reverse {h : zH} {k n : Nat} {f : zf} (hS : RS k n f h) :
    K_X4_reverse [.ref k] h (fun r h' => r = some (.int (nI n)) ∧ RS k n (zrev f n) h' ∧ zFr (zRg k 6) h h') := by
  obtain ⟨hk, hn, h5, hf⟩ := hS
  refine CT.of rfl rfl (Nat.le_of_ble_eq_true rfl) rfl ?_
  have loop2 : ∀ (m i : Nat) (h1 : zH), i ≤ n → n - i < m → h1.1 k 5 = nI n → (∀ j, j < 5 → ∀ p, p < i → h1.1 (k + 1 + j) p = zrev f n p j) → (∀ j, j < 5 → ∀ p, i ≤ p → p < n → h1.1 (k + 1 + j) p = f (n - 1 - p) j) → zFr (zRg k 6) h h1 →
      W_X4_reverse (fun r h' => r = some (.int (nI n)) ∧ RS k n (zrev f n) h' ∧ zFr (zRg k 6) h h') 33 [some (.ref k), some (.int (nI i))] [] h1 := by
    intro m
    induction m with
    | zero => intro i h1 a b; omega
    | succ m ih =>
      intro i h1 hi hm g5 g1 g2 gf
      refine WG.iload_n (pc' := 34) dX4_reverse_33 rfl rfl ?_
      refine WG.aload_n (pc' := 35) dX4_reverse_34 rfl rfl ?_
      refine WG.getI f_X4_27 (pc' := 38) dX4_reverse_35 rfl (zSo (by assumption)) rfl ?_
      refine WG.icmp_ge (tgt := 73) (pc' := 41) dX4_reverse_38 rfl (by decide) (fun c_38 => ?_) (fun c_38 => ?_)
      · obtain rfl : i = n := by have := (zle g5 (by omega) (by omega)).mp c_38; omega
        refine WG.aload_n (pc' := 74) dX4_reverse_73 rfl rfl ?_
        refine WG.getI f_X4_27 (pc' := 77) dX4_reverse_74 rfl (zSo (by assumption)) rfl ?_
        refine WG.ireturn dX4_reverse_77 rfl (by first | rfl | decide) ?_
        exact ⟨by rw [g5], ⟨hk, by omega, g5, fun p hp j hj => g1 j hj p hp⟩, gf⟩
      · have hlt : i < n := by have := mt (zle (i := i) g5 (by omega) (by omega)).mpr c_38; omega
        refine WG.aload_n (pc' := 42) dX4_reverse_41 rfl rfl ?_
        refine WG.getR f_X4_18 (pc' := 45) dX4_reverse_42 rfl (zSo (by assumption)) rfl (zSr (by assumption) 2) ?_
        refine WG.iload_n (pc' := 46) dX4_reverse_45 rfl rfl ?_
        refine WG.aload_n (pc' := 47) dX4_reverse_46 rfl rfl ?_
        refine WG.getR f_X4_18 (pc' := 50) dX4_reverse_47 rfl (zSo (by assumption)) rfl (zSr (by assumption) 2) ?_
        refine WG.iload_n (pc' := 51) dX4_reverse_50 rfl rfl ?_
        refine WG.ialoadN  (pc' := 52) dX4_reverse_51 rfl (zSa (by assumption) (by decide)) (by first | rfl | assumption) (by first | assumption | omega) (by first | decide | omega) ?_
        refine WG.ineg (pc' := 53) dX4_reverse_52 rfl ?_
        refine WG.iastoreN  (pc' := 54) dX4_reverse_53 rfl (zSa (by assumption) (by decide)) (by first | rfl | assumption) (by first | assumption | omega) (by first | decide | omega) ?_
        refine WG.aload_n (pc' := 55) dX4_reverse_54 rfl rfl ?_
        refine WG.getR f_X4_21 (pc' := 58) dX4_reverse_55 rfl (zSo (by assumption)) rfl (zSr (by assumption) 3) ?_
        refine WG.iload_n (pc' := 59) dX4_reverse_58 rfl rfl ?_
        refine WG.aload_n (pc' := 60) dX4_reverse_59 rfl rfl ?_
        refine WG.getR f_X4_21 (pc' := 63) dX4_reverse_60 rfl (zSo (by assumption)) rfl (zSr (by assumption) 3) ?_
        refine WG.iload_n (pc' := 64) dX4_reverse_63 rfl rfl ?_
        refine WG.ialoadN  (pc' := 65) dX4_reverse_64 rfl (zSa (by assumption) (by decide)) (by first | rfl | assumption) (by first | assumption | omega) (by first | decide | omega) ?_
        refine WG.ineg (pc' := 66) dX4_reverse_65 rfl ?_
        refine WG.iastoreN  (pc' := 67) dX4_reverse_66 rfl (zSa (by assumption) (by decide)) (by first | rfl | assumption) (by first | assumption | omega) (by first | decide | omega) ?_
        refine WG.iinc1 (L' := [_, _]) (pc' := 70) dX4_reverse_67 rfl rfl (by decide) rfl ?_
        refine WG.goto (tgt := 33) dX4_reverse_70 (by decide) ?_
        rw [nI_1]
        refine ih (i + 1) _ (by omega) (by omega) ?_ (fun j hj p hp => ?_) (fun j hj p hp hpn => ?_) ((gf.I ⟨by omega, by omega⟩).I ⟨by omega, by omega⟩)
        · simp only [zI_1]
          repeat rw [if_neg (by omega)]
          exact g5
        · simp only [zI_1]
          by_cases c2 : p = i
          · subst c2
            have e := g2 j hj p (by omega) (by omega)
            rcases (show j = 0 ∨ j = 1 ∨ j = 2 ∨ j = 3 ∨ j = 4 by omega) with rfl | rfl | rfl | rfl | rfl <;> simp [zrev, e]
          · repeat rw [if_neg (by omega)]
            exact g1 j hj p (by omega)
        · simp only [zI_1]
          repeat rw [if_neg (by omega)]
          exact g2 j hj p (by omega) hpn
  have loop1 : ∀ (m i : Nat) (h1 : zH), i ≤ n / 2 → n / 2 - i < m → h1.1 k 5 = nI n → (∀ j, j < 5 → ∀ p, p < n → h1.1 (k + 1 + j) p = if p < i ∨ n - 1 - p < i then f (n - 1 - p) j else f p j) → zFr (zRg k 6) h h1 →
      W_X4_reverse (fun r h' => r = some (.int (nI n)) ∧ RS k n (zrev f n) h' ∧ zFr (zRg k 6) h h') 2 [some (.ref k), some (.int (nI i))] [] h1 := by
    intro m
    induction m with
    | zero => intro i h1 a b; omega
    | succ m ih =>
      intro i h1 hi hm g5 g1 gf
      refine WG.iload_n (pc' := 3) dX4_reverse_2 rfl rfl ?_
      refine WG.aload_n (pc' := 4) dX4_reverse_3 rfl rfl ?_
      refine WG.getI f_X4_27 (pc' := 7) dX4_reverse_4 rfl (zSo (by assumption)) rfl ?_
      refine WG.iconst (v := 2) (pc' := 8) dX4_reverse_7 rfl rfl ?_
      refine WG.idiv (pc' := 9) dX4_reverse_8 rfl (by decide) ?_
      rw [g5, znI2 (by omega)]
      refine WG.icmp_ge (tgt := 31) (pc' := 12) dX4_reverse_9 rfl (by decide) (fun c_9 => ?_) (fun c_9 => ?_)
      · obtain rfl : i = n / 2 := by have := (nI_leI (by omega) (by omega)).mp c_9; omega
        refine WG.iconst (v := 0) (pc' := 32) dX4_reverse_31 rfl rfl ?_
        refine WG.istore_n (L' := [_, _]) (pc' := 33) dX4_reverse_32 rfl (by decide) rfl ?_
        refine loop2 (n + 1) 0 h1 (by omega) (by omega) g5 (fun j hj p hp => by omega) (fun j hj p _ hp => ?_) gf
        rw [g1 j hj p hp]
        by_cases c : p < n / 2 ∨ n - 1 - p < n / 2
        · rw [if_pos c]
        · rw [if_neg c, show n - 1 - p = p by omega]
      · have hlt : i < n / 2 := by have := mt (nI_leI (a := n / 2) (b := i) (by omega) (by omega)).mpr c_9; omega
        refine WG.aload_n (pc' := 13) dX4_reverse_12 rfl rfl ?_
        refine WG.iload_n (pc' := 14) dX4_reverse_13 rfl rfl ?_
        refine WG.aload_n (pc' := 15) dX4_reverse_14 rfl rfl ?_
        refine WG.getI f_X4_27 (pc' := 18) dX4_reverse_15 rfl (zSo (by assumption)) rfl ?_
        refine WG.iconst (v := 1) (pc' := 19) dX4_reverse_18 rfl rfl ?_
        refine WG.isub (pc' := 20) dX4_reverse_19 rfl ?_
        refine WG.iload_n (pc' := 21) dX4_reverse_20 rfl rfl ?_
        refine WG.isub (pc' := 22) dX4_reverse_21 rfl ?_
        rw [g5, show nI n - 1 - nI i = nI (n - 1 - i) from by rw [show (1 : Int32) = nI 1 from rfl, pk_sub (by omega), pk_sub (by omega)]]
        refine WG.callVd (c_X4_swap hk (by omega) (by omega)) m_X4_47 b_X4_swap (zSo (by assumption)) rfl rfl (zrk_of rfl) rfl (Nat.le_of_ble_eq_true rfl) dX4_reverse_22 (pc' := 25) rfl ?_
        refine WG.iinc1 (L' := [_, _]) (pc' := 28) dX4_reverse_25 rfl rfl (by decide) rfl ?_
        refine WG.goto (tgt := 2) dX4_reverse_28 (by decide) ?_
        rw [nI_1]
        refine ih (i + 1) _ (by omega) (by omega) (by rw [zswp_5]; exact g5) (fun j hj p hp => ?_) (gf.tr (zswp_fr _ _ _ _))
        rw [zswp_in _ _ _ _ hj]
        by_cases c1 : p = n - 1 - i
        · rw [if_pos c1, g1 j hj i (by omega), if_neg (by omega), if_pos (by omega), c1, show n - 1 - (n - 1 - i) = i by omega]
        · rw [if_neg c1]
          by_cases c2 : p = i
          · rw [if_pos c2, g1 j hj (n - 1 - i) (by omega), if_neg (by omega), if_pos (by omega), c2]
          · rw [if_neg c2, g1 j hj p hp]
            by_cases c3 : p < i ∨ n - 1 - p < i
            · rw [if_pos c3, if_pos (by omega)]
            · rw [if_neg c3, if_neg (by omega)]
  refine WG.iconst (v := 0) (pc' := 1) dX4_reverse_0 rfl rfl ?_
  refine WG.istore_n (L' := [_, _]) (pc' := 2) dX4_reverse_1 rfl (by decide) rfl ?_
  exact loop1 (n + 1) 0 h (by omega) (by omega) h5 (fun j hj p hp => by rw [if_neg (by omega)]; exact hf p hp j hj) zFr.rf
/-- lots: the seed behind i draws, the times drawn -/
def zz (z : Int32) : Nat → Int32
  | 0 => z
  | i + 1 => zz z i * 1664525 + 1013904223
def zdr (z : Int32) (i : Nat) : Int32 := (zz z (i + 1) &&& 2147483647) / 256 - (zz z (i + 1) &&& 2147483647) / 256 / 9 * 9 + 1
def zlot (f : zf) (z : Int32) : zf := fun i j => if j = 4 then zdr z i else f i j
set_option maxHeartbeats 4000000 in
set_option maxRecDepth 100000 in
theorem c_X4_drawTimes {h : zH} {k n : Nat} {f : zf} {z : Int32} (hS : RS k n f h) :
    K_X4_drawTimes [.ref k, .int z] h (fun r h' => r = some (.int (zz z n)) ∧ RS k n (zlot f z) h' ∧ zFr (zRg k 6) h h') := by
  obtain ⟨hk, hn, h5, hf⟩ := hS
  refine CT.of rfl rfl (Nat.le_of_ble_eq_true rfl) rfl ?_
  have loop : ∀ (m i : Nat) (h1 : zH), i ≤ n → n - i < m → h1.1 k 5 = nI n → (∀ j, j < 5 → ∀ p, p < n → h1.1 (k + 1 + j) p = if p < i then zlot f z p j else f p j) → zFr (zRg k 6) h h1 →
      W_X4_drawTimes (fun r h' => r = some (.int (zz z n)) ∧ RS k n (zlot f z) h' ∧ zFr (zRg k 6) h h') 4 [some (.ref k), some (.int z), some (.int (zz z i)), some (.int (nI i))] [] h1 := by
    intro m
    induction m with
    | zero => intro i h1 a b; omega
    | succ m ih =>
      intro i h1 hi hm g5 g1 gf
      refine WG.iload_n (pc' := 5) dX4_drawTimes_4 rfl rfl ?_
      refine WG.aload_n (pc' := 6) dX4_drawTimes_5 rfl rfl ?_
      refine WG.getI f_X4_27 (pc' := 9) dX4_drawTimes_6 rfl (zSo (by assumption)) rfl ?_
      refine WG.icmp_ge (tgt := 45) (pc' := 12) dX4_drawTimes_9 rfl (by decide) (fun c_9 => ?_) (fun c_9 => ?_)
      · obtain rfl : i = n := by have := (zle g5 (by omega) (by omega)).mp c_9; omega
        refine WG.iload_n (pc' := 46) dX4_drawTimes_45 rfl rfl ?_
        refine WG.ireturn dX4_drawTimes_46 rfl (by first | rfl | decide) ?_
        exact ⟨rfl, ⟨hk, by omega, g5, fun p hp j hj => by rw [g1 j hj p hp, if_pos hp]⟩, gf⟩
      · have hlt : i < n := by have := mt (zle (i := i) g5 (by omega) (by omega)).mpr c_9; omega
        refine WG.iload_n (pc' := 13) dX4_drawTimes_12 rfl rfl ?_
        refine WG.ldc (pc' := 15) dX4_drawTimes_13 rfl k_X4_50 ?_
        refine WG.imul (pc' := 16) dX4_drawTimes_15 rfl ?_
        refine WG.ldc (pc' := 18) dX4_drawTimes_16 rfl k_X4_51 ?_
        refine WG.iadd (pc' := 19) dX4_drawTimes_18 rfl ?_
        refine WG.istore_n (L' := [_, _, _, _]) (pc' := 20) dX4_drawTimes_19 rfl (by decide) rfl ?_
        refine WG.aload_n (pc' := 21) dX4_drawTimes_20 rfl rfl ?_
        refine WG.getR f_X4_24 (pc' := 24) dX4_drawTimes_21 rfl (zSo (by assumption)) rfl (zSr (by assumption) 4) ?_
        refine WG.iload_n (pc' := 25) dX4_drawTimes_24 rfl rfl ?_
        refine WG.iload_n (pc' := 26) dX4_drawTimes_25 rfl rfl ?_
        refine WG.ldc (pc' := 28) dX4_drawTimes_26 rfl k_X4_52 ?_
        refine WG.iand (pc' := 29) dX4_drawTimes_28 rfl ?_
        refine WG.sipush (v := 256) (pc' := 32) dX4_drawTimes_29 rfl rfl ?_
        refine WG.idiv (pc' := 33) dX4_drawTimes_32 rfl (by decide) ?_
        refine WG.bipush (v := 9) (pc' := 35) dX4_drawTimes_33 rfl rfl ?_
        refine WG.irem (pc' := 36) dX4_drawTimes_35 rfl (by decide) ?_
        refine WG.iconst (v := 1) (pc' := 37) dX4_drawTimes_36 rfl rfl ?_
        refine WG.iadd (pc' := 38) dX4_drawTimes_37 rfl ?_
        refine WG.iastoreN  (pc' := 39) dX4_drawTimes_38 rfl (zSa (by assumption) (by decide)) (by first | rfl | assumption) (by first | assumption | omega) (by first | decide | omega) ?_
        refine WG.iinc1 (L' := [_, _, _, _]) (pc' := 42) dX4_drawTimes_39 rfl rfl (by decide) rfl ?_
        refine WG.goto (tgt := 4) dX4_drawTimes_42 (by decide) ?_
        rw [nI_1]
        refine ih (i + 1) _ (by omega) (by omega) ?_ (fun j hj p hp => ?_) (gf.I ⟨by omega, by omega⟩)
        · rw [zI_1, if_neg (by omega)]; exact g5
        · rw [zI_1]
          by_cases c : j = 4 ∧ p = i
          · obtain ⟨rfl, rfl⟩ := c
            rw [if_pos ⟨rfl, rfl⟩, if_pos (by omega)]
            rfl
          · rw [if_neg (by omega), g1 j hj p hp]
            by_cases c3 : p < i
            · rw [if_pos c3, if_pos (by omega)]
            · rw [if_neg c3]
              by_cases c4 : p = i
              · rw [if_pos (by omega)]; unfold zlot; rw [if_neg (by omega)]
              · rw [if_neg (by omega)]
  refine WG.iload_n (pc' := 1) dX4_drawTimes_0 rfl rfl ?_
  refine WG.istore_n (L' := [_, _, _, _]) (pc' := 2) dX4_drawTimes_1 rfl (by decide) rfl ?_
  refine WG.iconst (v := 0) (pc' := 3) dX4_drawTimes_2 rfl rfl ?_
  refine WG.istore_n (L' := [_, _, _, _]) (pc' := 4) dX4_drawTimes_3 rfl (by decide) rfl ?_
  exact loop (n + 1) 0 h (by omega) (by omega) h5 (fun j hj p hp => by rw [if_neg (by omega)]; exact hf p hp j hj) zFr.rf
/-- refusals of side(), kind() .. as the class tells them -/
def zwS (n : Nat) (e nn t : Int32) : Int32 := if e < -9 ∨ nn < -9 ∨ t < 1 then -4 else if 9 < e ∨ 9 < nn ∨ 9 < t ∨ n = 8 then -6 else if e = 0 ∧ nn = 0 then -3 else 0
def zwA (n : Nat) (a e nn t : Int32) : Int32 := if ¬ a < 0 ∧ a < nI n then zwS n e nn t else -1
def zwK (n : Nat) (s kd fg : Int32) : Int32 := if ¬ (¬ s < 0 ∧ s < nI n) then -1 else if kd < 0 ∨ 5 < kd then -2 else if fg < 0 then -4 else if 9 < fg then -6 else 0
set_option maxHeartbeats 4000000 in
set_option maxRecDepth 100000 in
theorem c_X4_refusalOfMore {h : zH} {k n : Nat} {f : zf} {e nn t : Int32} (hS : RS k n f h) : K_X4_refusalOfMore [.ref k, .int e, .int nn, .int t] h (zD (some (.int (zwS n e nn t))) h) := by
  obtain ⟨hk, hn, h5, hf⟩ := hS
  refine CT.of rfl rfl (Nat.le_of_ble_eq_true rfl) rfl ?_
  have e8 : h.1 k 5 < 8 ↔ n ≠ 8 := by
    rw [h5, show (8 : Int32) = nI 8 from rfl, nI_ltI (by omega) (by omega)]; omega
  refine WG.iload_n (pc' := 1) dX4_refusalOfMore_0 rfl rfl ?_
  refine WG.bipush (v := -9) (pc' := 3) dX4_refusalOfMore_1 rfl rfl ?_
  refine WG.icmp_lt (tgt := 17) (pc' := 6) dX4_refusalOfMore_3 rfl (by decide) (fun c_3 => ?_) (fun c_3 => ?_)
  · refine WG.bipush (v := -4) (pc' := 19) dX4_refusalOfMore_17 rfl rfl ?_
    refine WG.ireturn dX4_refusalOfMore_19 rfl (by first | rfl | decide) ?_
    exact ⟨by unfold zwS; grind, rfl⟩
  · refine WG.iload_n (pc' := 7) dX4_refusalOfMore_6 rfl rfl ?_
    refine WG.bipush (v := -9) (pc' := 9) dX4_refusalOfMore_7 rfl rfl ?_
    refine WG.icmp_lt (tgt := 17) (pc' := 12) dX4_refusalOfMore_9 rfl (by decide) (fun c_9 => ?_) (fun c_9 => ?_)
    · refine WG.bipush (v := -4) (pc' := 19) dX4_refusalOfMore_17 rfl rfl ?_
      refine WG.ireturn dX4_refusalOfMore_19 rfl (by first | rfl | decide) ?_
      exact ⟨by unfold zwS; grind, rfl⟩
    · refine WG.iload_n (pc' := 13) dX4_refusalOfMore_12 rfl rfl ?_
      refine WG.iconst (v := 1) (pc' := 14) dX4_refusalOfMore_13 rfl rfl ?_
      refine WG.icmp_ge (tgt := 20) (pc' := 17) dX4_refusalOfMore_14 rfl (by decide) (fun c_14 => ?_) (fun c_14 => ?_)
      · refine WG.iload_n (pc' := 21) dX4_refusalOfMore_20 rfl rfl ?_
        refine WG.bipush (v := 9) (pc' := 23) dX4_refusalOfMore_21 rfl rfl ?_
        refine WG.icmp_gt (tgt := 47) (pc' := 26) dX4_refusalOfMore_23 rfl (by decide) (fun c_23 => ?_) (fun c_23 => ?_)
        · refine WG.bipush (v := -6) (pc' := 49) dX4_refusalOfMore_47 rfl rfl ?_
          refine WG.ireturn dX4_refusalOfMore_49 rfl (by first | rfl | decide) ?_
          exact ⟨by unfold zwS; grind, rfl⟩
        · refine WG.iload_n (pc' := 27) dX4_refusalOfMore_26 rfl rfl ?_
          refine WG.bipush (v := 9) (pc' := 29) dX4_refusalOfMore_27 rfl rfl ?_
          refine WG.icmp_gt (tgt := 47) (pc' := 32) dX4_refusalOfMore_29 rfl (by decide) (fun c_29 => ?_) (fun c_29 => ?_)
          · refine WG.bipush (v := -6) (pc' := 49) dX4_refusalOfMore_47 rfl rfl ?_
            refine WG.ireturn dX4_refusalOfMore_49 rfl (by first | rfl | decide) ?_
            exact ⟨by unfold zwS; grind, rfl⟩
          · refine WG.iload_n (pc' := 33) dX4_refusalOfMore_32 rfl rfl ?_
            refine WG.bipush (v := 9) (pc' := 35) dX4_refusalOfMore_33 rfl rfl ?_
            refine WG.icmp_gt (tgt := 47) (pc' := 38) dX4_refusalOfMore_35 rfl (by decide) (fun c_35 => ?_) (fun c_35 => ?_)
            · refine WG.bipush (v := -6) (pc' := 49) dX4_refusalOfMore_47 rfl rfl ?_
              refine WG.ireturn dX4_refusalOfMore_49 rfl (by first | rfl | decide) ?_
              exact ⟨by unfold zwS; grind, rfl⟩
            · refine WG.aload_n (pc' := 39) dX4_refusalOfMore_38 rfl rfl ?_
              refine WG.getI f_X4_27 (pc' := 42) dX4_refusalOfMore_39 rfl (zSo (by assumption)) rfl ?_
              refine WG.bipush (v := 8) (pc' := 44) dX4_refusalOfMore_42 rfl rfl ?_
              refine WG.icmp_lt (tgt := 50) (pc' := 47) dX4_refusalOfMore_44 rfl (by decide) (fun c_44 => ?_) (fun c_44 => ?_)
              · refine WG.iload_n (pc' := 51) dX4_refusalOfMore_50 rfl rfl ?_
                refine WG.if_ne (tgt := 63) (pc' := 54) dX4_refusalOfMore_51 rfl (by decide) (fun c_51 => ?_) (fun c_51 => ?_)
                · refine WG.iconst (v := 0) (pc' := 64) dX4_refusalOfMore_63 rfl rfl ?_
                  refine WG.ireturn dX4_refusalOfMore_64 rfl (by first | rfl | decide) ?_
                  exact ⟨by unfold zwS; grind, rfl⟩
                · refine WG.iload_n (pc' := 55) dX4_refusalOfMore_54 rfl rfl ?_
                  refine WG.if_ne (tgt := 63) (pc' := 58) dX4_refusalOfMore_55 rfl (by decide) (fun c_55 => ?_) (fun c_55 => ?_)
                  · refine WG.iconst (v := 0) (pc' := 64) dX4_refusalOfMore_63 rfl rfl ?_
                    refine WG.ireturn dX4_refusalOfMore_64 rfl (by first | rfl | decide) ?_
                    exact ⟨by unfold zwS; grind, rfl⟩
                  · refine WG.bipush (v := -3) (pc' := 60) dX4_refusalOfMore_58 rfl rfl ?_
                    refine WG.goto (tgt := 64) dX4_refusalOfMore_60 (by decide) ?_
                    refine WG.ireturn dX4_refusalOfMore_64 rfl (by first | rfl | decide) ?_
                    exact ⟨by unfold zwS; grind, rfl⟩
              · refine WG.bipush (v := -6) (pc' := 49) dX4_refusalOfMore_47 rfl rfl ?_
                refine WG.ireturn dX4_refusalOfMore_49 rfl (by first | rfl | decide) ?_
                exact ⟨by unfold zwS; grind, rfl⟩
      · refine WG.bipush (v := -4) (pc' := 19) dX4_refusalOfMore_17 rfl rfl ?_
        refine WG.ireturn dX4_refusalOfMore_19 rfl (by first | rfl | decide) ?_
        exact ⟨by unfold zwS; grind, rfl⟩
set_option maxHeartbeats 4000000 in
set_option maxRecDepth 100000 in
theorem c_X4_refusalOfAhead {h : zH} {k n : Nat} {f : zf} {a e nn t : Int32} (hS : RS k n f h) : K_X4_refusalOfAhead [.ref k, .int a, .int e, .int nn, .int t] h (zD (some (.int (zwA n a e nn t))) h) := by
  have hk := hS.1
  refine CT.of rfl rfl (Nat.le_of_ble_eq_true rfl) rfl ?_
  refine WG.aload_n (pc' := 1) dX4_refusalOfAhead_0 rfl rfl ?_
  refine WG.iload_n (pc' := 2) dX4_refusalOfAhead_1 rfl rfl ?_
  refine WG.callVd (c_X4_has hS a) m_X4_35 b_X4_has (zSo (by assumption)) rfl rfl (zrk_of rfl) rfl (Nat.le_of_ble_eq_true rfl) dX4_refusalOfAhead_2 (pc' := 5) rfl ?_
  refine WG.if_eq (tgt := 19) (pc' := 8) dX4_refusalOfAhead_5 rfl (by decide) (fun c_5 => ?_) (fun c_5 => ?_)
  · rw [zb_eq] at c_5
    unfold zsd at c_5
    refine WG.iconst (v := -1) (pc' := 20) dX4_refusalOfAhead_19 rfl rfl ?_
    refine WG.ireturn dX4_refusalOfAhead_20 rfl (by first | rfl | decide) ?_
    exact ⟨by unfold zwA; grind, rfl⟩
  · rw [zb_nn] at c_5
    unfold zsd at c_5
    refine WG.aload_n (pc' := 9) dX4_refusalOfAhead_8 rfl rfl ?_
    refine WG.iload_n (pc' := 10) dX4_refusalOfAhead_9 rfl rfl ?_
    refine WG.iload_n (pc' := 11) dX4_refusalOfAhead_10 rfl rfl ?_
    refine WG.iload (pc' := 13) dX4_refusalOfAhead_11 rfl rfl ?_
    refine WG.callVd (c_X4_refusalOfMore hS) m_X4_39 b_X4_refusalOfMore (zSo (by assumption)) rfl rfl (zrk_of rfl) rfl (Nat.le_of_ble_eq_true rfl) dX4_refusalOfAhead_13 (pc' := 16) rfl ?_
    refine WG.goto (tgt := 20) dX4_refusalOfAhead_16 (by decide) ?_
    refine WG.ireturn dX4_refusalOfAhead_20 rfl (by first | rfl | decide) ?_
    exact ⟨by unfold zwA; grind, rfl⟩
set_option maxHeartbeats 4000000 in
set_option maxRecDepth 100000 in
theorem c_X4_refusalOfKind {h : zH} {k n : Nat} {f : zf} {a e t : Int32} (hS : RS k n f h) : K_X4_refusalOfKind [.ref k, .int a, .int e, .int t] h (zD (some (.int (zwK n a e t))) h) := by
  have hk := hS.1
  refine CT.of rfl rfl (Nat.le_of_ble_eq_true rfl) rfl ?_
  refine WG.aload_n (pc' := 1) dX4_refusalOfKind_0 rfl rfl ?_
  refine WG.iload_n (pc' := 2) dX4_refusalOfKind_1 rfl rfl ?_
  refine WG.callVd (c_X4_has hS a) m_X4_35 b_X4_has (zSo (by assumption)) rfl rfl (zrk_of rfl) rfl (Nat.le_of_ble_eq_true rfl) dX4_refusalOfKind_2 (pc' := 5) rfl ?_
  refine WG.if_ne (tgt := 10) (pc' := 8) dX4_refusalOfKind_5 rfl (by decide) (fun c_5 => ?_) (fun c_5 => ?_)
  · rw [zb_ne] at c_5
    unfold zsd at c_5
    refine WG.iload_n (pc' := 11) dX4_refusalOfKind_10 rfl rfl ?_
    refine WG.if_lt (tgt := 19) (pc' := 14) dX4_refusalOfKind_11 rfl (by decide) (fun c_11 => ?_) (fun c_11 => ?_)
    · refine WG.bipush (v := -2) (pc' := 21) dX4_refusalOfKind_19 rfl rfl ?_
      refine WG.ireturn dX4_refusalOfKind_21 rfl (by first | rfl | decide) ?_
      exact ⟨by unfold zwK; grind, rfl⟩
    · refine WG.iload_n (pc' := 15) dX4_refusalOfKind_14 rfl rfl ?_
      refine WG.iconst (v := 5) (pc' := 16) dX4_refusalOfKind_15 rfl rfl ?_
      refine WG.icmp_le (tgt := 22) (pc' := 19) dX4_refusalOfKind_16 rfl (by decide) (fun c_16 => ?_) (fun c_16 => ?_)
      · refine WG.iload_n (pc' := 23) dX4_refusalOfKind_22 rfl rfl ?_
        refine WG.if_ge (tgt := 29) (pc' := 26) dX4_refusalOfKind_23 rfl (by decide) (fun c_23 => ?_) (fun c_23 => ?_)
        · refine WG.iload_n (pc' := 30) dX4_refusalOfKind_29 rfl rfl ?_
          refine WG.bipush (v := 9) (pc' := 32) dX4_refusalOfKind_30 rfl rfl ?_
          refine WG.icmp_le (tgt := 40) (pc' := 35) dX4_refusalOfKind_32 rfl (by decide) (fun c_32 => ?_) (fun c_32 => ?_)
          · refine WG.iconst (v := 0) (pc' := 41) dX4_refusalOfKind_40 rfl rfl ?_
            refine WG.ireturn dX4_refusalOfKind_41 rfl (by first | rfl | decide) ?_
            exact ⟨by unfold zwK; grind, rfl⟩
          · refine WG.bipush (v := -6) (pc' := 37) dX4_refusalOfKind_35 rfl rfl ?_
            refine WG.goto (tgt := 41) dX4_refusalOfKind_37 (by decide) ?_
            refine WG.ireturn dX4_refusalOfKind_41 rfl (by first | rfl | decide) ?_
            exact ⟨by unfold zwK; grind, rfl⟩
        · refine WG.bipush (v := -4) (pc' := 28) dX4_refusalOfKind_26 rfl rfl ?_
          refine WG.ireturn dX4_refusalOfKind_28 rfl (by first | rfl | decide) ?_
          exact ⟨by unfold zwK; grind, rfl⟩
      · refine WG.bipush (v := -2) (pc' := 21) dX4_refusalOfKind_19 rfl rfl ?_
        refine WG.ireturn dX4_refusalOfKind_21 rfl (by first | rfl | decide) ?_
        exact ⟨by unfold zwK; grind, rfl⟩
  · rw [zb_eq] at c_5
    unfold zsd at c_5
    refine WG.iconst (v := -1) (pc' := 9) dX4_refusalOfKind_8 rfl rfl ?_
    refine WG.ireturn dX4_refusalOfKind_9 rfl (by first | rfl | decide) ?_
    exact ⟨by unfold zwK; grind, rfl⟩
