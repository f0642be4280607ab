/-! cells in the order in which they come (the refusals ahead of the rows of lists) -/
def zSHp : List zS := [.inl 5, .inl 4, .inr (0, 8), .inr (0, 8), .inr (0, 8), .inr (0, 8), .inr (0, 8), .inl 4, .inr (0, 8), .inr (0, 8), .inr (0, 8), .inr (0, 8), .inr (0, 8), .inl 4, .inr (0, 8), .inr (0, 8), .inr (0, 8), .inr (0, 8), .inr (0, 8), .inl 1, .inr (2, 8), .inl 4, .inr (0, 8), .inr (0, 8), .inr (0, 8), .inr (0, 8), .inr (0, 8), .inl 4, .inr (0, 8), .inr (0, 8), .inr (0, 8), .inr (0, 8), .inr (0, 8), .inl 4, .inr (0, 8), .inr (0, 8), .inr (0, 8), .inr (0, 8), .inr (0, 8), .inl 4, .inr (0, 8), .inr (0, 8), .inr (0, 8), .inr (0, 8), .inr (0, 8), .inl 4, .inr (0, 8), .inr (0, 8), .inr (0, 8), .inr (0, 8), .inr (0, 8), .inl 4, .inr (0, 8), .inr (0, 8), .inr (0, 8), .inr (0, 8), .inr (0, 8), .inl 4, .inr (0, 8), .inr (0, 8), .inr (0, 8), .inr (0, 8), .inr (0, 8), .inl 4, .inr (0, 8), .inr (0, 8), .inr (0, 8), .inr (0, 8), .inr (0, 8), .inl 0, .inr (1, 8), .inr (1, 8), .inr (1, 8), .inr (1, 8), .inl 2, .inr (0, 4), .inr (0, 120), .inr (0, 9), .inr (3, 3), .inr (0, 7), .inl 3, .inr (1, 20), .inl 3, .inr (1, 20), .inl 3, .inr (1, 20), .inl 6, .inr (0, 7), .inr (0, 41), .inr (0, 328), .inr (0, 41), .inr (0, 120), .inr (0, 4), .inr (0, 41), .inr (1, 16), .inr (1, 18), .inr (0, 9), .inr (0, 3), .inr (0, 3), .inr (1, 60), .inr (0, 41)]
def zrfp (k i : Nat) : Nat := bif Nat.beq k 0 then [1, 7, 13, 0, 19, 69, 74, 76, 0, 77, 0, 78, 79].getD i 0 else bif Nat.beq k 78 then 80 + 2 * i else zrf k i
theorem zSHp_len : zSHp.length = 101 := by decide +kernel
def isRp (k : Nat) : Prop := k ∈ [80, 82, 84]
theorem zSoP {k : Nat} (h : isS k) : zSHp[k]? = some (.inl 4) := by
  simp only [isS, List.mem_cons, List.not_mem_nil, or_false] at h
  rcases h with rfl | rfl | rfl | rfl | rfl | rfl | rfl | rfl | rfl | rfl | rfl <;> rfl
theorem zSrP {k : Nat} (h : isS k) (j : Nat) : zrfp k j = k + 1 + j := by
  simp only [isS, List.mem_cons, List.not_mem_nil, or_false] at h
  rcases h with rfl | rfl | rfl | rfl | rfl | rfl | rfl | rfl | rfl | rfl | rfl <;> rfl
theorem zSaP {k j : Nat} (h : isS k) (hj : j < 5) : zSHp[k + 1 + j]? = some (.inr (0, 8)) := by
  simp only [isS, List.mem_cons, List.not_mem_nil, or_false] at h
  rcases (show j = 0 ∨ j = 1 ∨ j = 2 ∨ j = 3 ∨ j = 4 by omega) with rfl | rfl | rfl | rfl | rfl <;> rcases h with rfl | rfl | rfl | rfl | rfl | rfl | rfl | rfl | rfl | rfl | rfl <;> rfl
theorem zRoP {k : Nat} (h : isRp k) : zSHp[k]? = some (.inl 3) := by
  simp only [isRp, List.mem_cons, List.not_mem_nil, or_false] at h
  rcases h with rfl | rfl | rfl <;> rfl
theorem zRrP {k : Nat} (h : isRp k) : zrfp k 0 = k + 1 := by
  simp only [isRp, List.mem_cons, List.not_mem_nil, or_false] at h
  rcases h with rfl | rfl | rfl <;> rfl
theorem zRaP {k : Nat} (h : isRp k) : zSHp[k + 1]? = some (.inr (1, 20)) := by
  simp only [isRp, List.mem_cons, List.not_mem_nil, or_false] at h
  rcases h with rfl | rfl | rfl <;> rfl
/-! worlds that grow: the first k cells; which references are set is told by rn -/
abbrev zR : Type := Nat → Nat → Bool
def zfv1 (ad : Nat → Nat) (h : zH) (rn : zR) (o i : Nat) (kd : Nat) : Value := match kd with
  | 0 => .int (h.1 o i)
  | 1 => .long (h.2 o i)
  | 2 => bif rn o i then .ref (ad (1000 + (h.1 o i).toNatClampNeg)) else .null
  | _ => bif rn o i then .ref (ad (zrfp o i)) else .null
def zE1 (cA : Nat → ClassId) (ad : Nat → Nat) (h : zH) (rn : zR) (o : Nat) (sh : zS) : va_E := match sh with
  | .inl ci => .inr (ci, (zkd ci).mapIdx (fun i kd => zfv1 ad h rn o i kd))
  | .inr (0, n) => .inl (cA 0, n, .inl (h.1 o))
  | .inr (1, n) => .inl (cA 1, n, .inr (.inl (h.2 o)))
  | .inr (t + 2, n) => .inl (cA (t + 2), n, .inr (.inr (.inr (.inr (fun i => bif rn o i then some (ad (zrfp o i)) else none)))))
def zWp (cA : Nat → ClassId) (ad : Nat → Nat) (h : zH) (rn : zR) (k : Nat) : va_W := (zSHp.take k).mapIdx (fun o sh => (ad o, zE1 cA ad h rn o sh))
def zcl (k : Nat) (h : zH) (rn : zR) : Prop := (∀ o, k ≤ o → h.1 o = (fun _ => 0) ∧ h.2 o = (fun _ => 0) ∧ ∀ i, rn o i = false) ∧ ∀ o i, rn o i = true → (o = 74 ∧ i = 3) ∨ zrfp o i < k
def zdv (kd : Nat) : Value := match kd with
  | 0 => .int 0
  | 1 => .long 0
  | _ => .null
def zad (ad : Nat → Nat) (k q : Nat) : Nat → Nat := fun j => if j = k then q else ad j
def zrs (rn : zR) (o i : Nat) : zR := fun o' i' => (Nat.beq o' o && Nat.beq i' i) || rn o' i'
theorem zrs_t {rn : zR} {o i o' i' : Nat} (h : zrs rn o i o' i' = true) : (o' = o ∧ i' = i) ∨ rn o' i' = true := by
  simp only [zrs, Bool.or_eq_true, Bool.and_eq_true] at h
  exact h.imp (fun q => ⟨Nat.eq_of_beq_eq_true q.1, Nat.eq_of_beq_eq_true q.2⟩) id
theorem zrs_o {rn : zR} {o i o' i' : Nat} (h : o' ≠ o ∨ i' ≠ i) : zrs rn o i o' i' = rn o' i' := by
  unfold zrs
  cases e : Nat.beq o' o && Nat.beq i' i with
  | false => rfl
  | true =>
    simp only [Bool.and_eq_true] at e
    have a1 := Nat.eq_of_beq_eq_true e.1
    have a2 := Nat.eq_of_beq_eq_true e.2
    omega
theorem zrs_s {rn : zR} {o i : Nat} : zrs rn o i o i = true := by unfold zrs; simp
theorem zSHp_lt {k : Nat} {sh : zS} (e : zSHp[k]? = some sh) : k < 101 := by
  have := (List.getElem?_eq_some_iff.mp e).1
  rw [zSHp_len] at this
  exact this
theorem zWp_at {cA : Nat → ClassId} {ad : Nat → Nat} {h : zH} {rn : zR} {k o : Nat} {sh : zS} (ho : o < k) (e : zSHp[o]? = some sh) : (zWp cA ad h rn k)[o]? = some (ad o, zE1 cA ad h rn o sh) := by
  unfold zWp
  rw [List.getElem?_mapIdx, List.getElem?_take, if_pos ho, e]
  rfl
theorem zWp_get {cA : Nat → ClassId} {ad : Nat → Nat} {h : zH} {rn : zR} {k o : Nat} {q : Nat × va_E} (e : (zWp cA ad h rn k)[o]? = some q) : o < k ∧ ∃ sh, zSHp[o]? = some sh ∧ q = (ad o, zE1 cA ad h rn o sh) := by
  unfold zWp at e
  rw [List.getElem?_mapIdx, List.getElem?_take] at e
  by_cases ho : o < k
  · rw [if_pos ho] at e
    cases hs : zSHp[o]? with
    | none => rw [hs] at e; cases e
    | some sh => rw [hs] at e; exact ⟨ho, sh, rfl, (Option.some.inj e).symm⟩
  · rw [if_neg ho] at e; cases e
theorem zkd3 : ∀ ci, ci < 7 → ∀ i, i < 25 → (zkd ci)[i]? = some 3 → ¬ (ci = 2 ∧ i = 3) := by decide +kernel
theorem zE1_ad {cA : Nat → ClassId} {ad ad' : Nat → Nat} {h : zH} {rn : zR} {k o : Nat} {sh : zS} (hc : zcl k h rn) (e : zSHp[o]? = some sh) (ha : ∀ j, j < k ∨ 101 ≤ j → ad' j = ad j) : zE1 cA ad' h rn o sh = zE1 cA ad h rn o sh := by
  have o101 := zSHp_lt e
  match sh, e with
  | .inl ci, e =>
    show Sum.inr (ci, _) = Sum.inr (ci, _)
    congr 2
    apply List.ext_getElem?
    intro i
    rw [List.getElem?_mapIdx, List.getElem?_mapIdx]
    cases hk : (zkd ci)[i]? with
    | none => rfl
    | some kd =>
      show some (zfv1 ad' h rn o i kd) = some (zfv1 ad h rn o i kd)
      congr 1
      match kd, hk with
      | 0, _ => rfl
      | 1, _ => rfl
      | 2, _ =>
        show (bif rn o i then Value.ref (ad' _) else .null) = bif rn o i then Value.ref (ad _) else .null
        rw [ha _ (Or.inr (by omega))]
      | kd + 3, hk =>
        show (bif rn o i then Value.ref (ad' (zrfp o i)) else .null) = bif rn o i then Value.ref (ad (zrfp o i)) else .null
        cases hr : rn o i with
        | false => rfl
        | true =>
          rcases hc.2 o i hr with ⟨r1, r2⟩ | r
          · exfalso
            subst r1; subst r2
            rw [show zSHp[74]? = some (.inl 2) from rfl] at e
            cases e
            rw [show (zkd 2)[3]? = some 2 from rfl] at hk
            cases hk
          · rw [ha _ (Or.inl r)]
  | .inr (0, n), e => rfl
  | .inr (1, n), e => rfl
  | .inr (t + 2, n), e =>
    have ef : (fun i => bif rn o i then some (ad' (zrfp o i)) else none) = fun i => bif rn o i then some (ad (zrfp o i)) else none := by
      funext i
      cases hr : rn o i with
      | false => rfl
      | true =>
        rcases hc.2 o i hr with ⟨r1, r2⟩ | r
        · exfalso
          subst r1
          rw [show zSHp[74]? = some (.inl 2) from rfl] at e
          cases e
        · show some (ad' _) = some (ad _)
          rw [ha _ (Or.inl r)]
    show Sum.inl (cA (t + 2), n, Sum.inr (Sum.inr (Sum.inr (Sum.inr (fun i => bif rn o i then some (ad' (zrfp o i)) else none))))) = Sum.inl (cA (t + 2), n, Sum.inr (Sum.inr (Sum.inr (Sum.inr (fun i => bif rn o i then some (ad (zrfp o i)) else none)))))
    rw [ef]
theorem zWp_ad {cA : Nat → ClassId} {ad ad' : Nat → Nat} {h : zH} {rn : zR} {k : Nat} (hc : zcl k h rn) (ha : ∀ j, j < k ∨ 101 ≤ j → ad' j = ad j) : zWp cA ad' h rn k = zWp cA ad h rn k := by
  apply List.ext_getElem?
  intro o
  unfold zWp
  rw [List.getElem?_mapIdx, List.getElem?_mapIdx, List.getElem?_take]
  by_cases ho : o < k
  · rw [if_pos ho]
    cases hs : zSHp[o]? with
    | none => rfl
    | some sh =>
      show some (ad' o, _) = some (ad o, _)
      rw [zE1_ad hc hs ha, ha o (Or.inl ho)]
  · rw [if_neg ho]; rfl
theorem zWp_len {cA : Nat → ClassId} {ad : Nat → Nat} {h : zH} {rn : zR} {k : Nat} (hk : k ≤ 101) : (zWp cA ad h rn k).length = k := by
  unfold zWp
  rw [List.length_mapIdx, List.length_take, zSHp_len]
  omega
theorem zWp_push {cA : Nat → ClassId} {ad : Nat → Nat} {h : zH} {rn : zR} {k q : Nat} {sh : zS} {x : va_E} (hc : zcl k h rn) (e : zSHp[k]? = some sh) (hx : zE1 cA (zad ad k q) h rn k sh = x) : zWp cA ad h rn k ++ [(q, x)] = zWp cA (zad ad k q) h rn (k + 1) := by
  have k101 := zSHp_lt e
  have ag : ∀ j, j < k ∨ 101 ≤ j → zad ad k q j = ad j := fun j hj => if_neg (by omega)
  rw [← zWp_ad hc ag]
  apply List.ext_getElem?
  intro o
  by_cases ho : o < k
  · rw [List.getElem?_append_left (by rw [zWp_len (by omega)]; exact ho)]
    unfold zWp
    rw [List.getElem?_mapIdx, List.getElem?_mapIdx, List.getElem?_take, List.getElem?_take, if_pos ho, if_pos (by omega)]
  · rw [List.getElem?_append_right (by rw [zWp_len (by omega)]; omega), zWp_len (by omega)]
    by_cases ho2 : o = k
    · subst ho2
      rw [Nat.sub_self, zWp_at (by omega) e, hx]
      show some (q, x) = some (zad ad o q o, x)
      rw [show zad ad o q o = q from if_pos rfl]
    · rw [show ([(q, x)] : va_W)[o - k]? = none from List.getElem?_eq_none (by show 1 ≤ o - k; omega)]
      unfold zWp
      rw [List.getElem?_mapIdx, List.getElem?_take, if_neg (by omega)]
      rfl
theorem zWp_set {cA : Nat → ClassId} {ad : Nat → Nat} {h h' : zH} {rn rn' : zR} {k o : Nat} {sh : zS} {x : va_E} (e : zSHp[o]? = some sh) (ho : o < k) (hx : zE1 cA ad h' rn' o sh = x) (hr : ∀ j, j ≠ o → h'.1 j = h.1 j ∧ h'.2 j = h.2 j ∧ ∀ i, rn' j i = rn j i) : (zWp cA ad h rn k).set o (ad o, x) = zWp cA ad h' rn' k := by
  have k101 := zSHp_lt e
  apply List.ext_getElem?
  intro j
  rw [List.getElem?_set]
  by_cases hj : o = j
  · subst hj
    have hl : o < (zWp cA ad h rn k).length := by
      have := (List.getElem?_eq_some_iff.mp (zWp_at (cA := cA) (ad := ad) (h := h) (rn := rn) ho e)).1
      exact this
    rw [if_pos rfl, if_pos hl, zWp_at ho e, hx]
  · rw [if_neg hj]
    unfold zWp
    rw [List.getElem?_mapIdx, List.getElem?_mapIdx]
    cases hs : (List.take k zSHp)[j]? with
    | none => rfl
    | some s2 =>
      obtain ⟨q1, q2, q3⟩ := hr j (fun q => hj q.symm)
      show some (ad j, zE1 cA ad h rn j s2) = some (ad j, zE1 cA ad h' rn' j s2)
      congr 2
      have hf : ∀ i kd, zfv1 ad h rn j i kd = zfv1 ad h' rn' j i kd := fun i kd => by unfold zfv1; rw [q1, q2, q3]
      unfold zE1
      split
      · simp only [hf]
      · rw [q1]
      · rw [q2]
      · simp only [q3]
/-- the addresses, whatever the cells hold -/
theorem zDp_of {A B : Nat → Prop} {cA : Nat → ClassId} {ad : Nat → Nat} {h h' : zH} {rn rn' : zR} {k : Nat} (hD : va_D A (zWp cA ad h rn k)) (hB : ∀ j, j < k → A (ad j) → B (ad j)) : va_D B (zWp cA ad h' rn' k) := by
  refine ⟨fun i j p q hi hj e => ?_, fun j q hj => ?_⟩
  · obtain ⟨a1, s1, e1, a2⟩ := zWp_get hi
    obtain ⟨b1, s2, e2, b2⟩ := zWp_get hj
    exact hD.1 i j _ _ (zWp_at a1 e1) (zWp_at b1 e2) (by rw [a2, b2] at e; exact e)
  · obtain ⟨a1, s1, e1, a2⟩ := zWp_get hj
    rw [a2]
    exact hB j a1 (hD.2 j _ (zWp_at a1 e1))
/-! which array classes and nest links there are, at a method's start -/
def zU (U : State) : Prop := va_AO RX4 U ∧ va_AO RX3 U ∧ va_Nw (.methodLinkNest RX5 9 yX4_init RX5) U ∧ va_Nw (.methodLinkNest RX1 24 yX4_init RX5) U ∧ va_Nw (.methodLinkNest RX5 35 yX0_init RX5) U ∧ va_Nw (.methodLinkNest RX5 42 yX2_init RX5) U ∧ va_Nw (.methodLinkNest RX5 70 yX3_init RX5) U
theorem zU_call {s U : State} (h : zU s) (hW : s.WarmedH U.vm) : zU U := by
  obtain ⟨h1, h2, h3, h4, h5, h6, h7⟩ := h
  exact ⟨va_AO.moved hW.alike h1, va_AO.moved hW.alike h2, h3.warmM hW, h4.warmM hW, h5.warmM hW, h6.warmM hW, h7.warmM hW⟩
theorem zU_same {s U : State} (hv : U.vm = s.vm) (h : zU s) : zU U := by
  obtain ⟨h1, h2, h3, h4, h5, h6, h7⟩ := h
  have ha : s.vm.Alike U.vm := by rw [hv]; exact Vm.Alike.refl _
  exact ⟨va_AO.moved ha h1, va_AO.moved ha h2, va_Nw.same rfl hv.symm h3, va_Nw.same rfl hv.symm h4, va_Nw.same rfl hv.symm h5, va_Nw.same rfl hv.symm h6, va_Nw.same rfl hv.symm h7⟩
theorem zT_ad {ad ad' : Nat → Nat} {A : Nat → Prop} {U : State} {H : Heap} (ha : ∀ j, 101 ≤ j → ad' j = ad j) (h : zT ad A U H) : zT ad' A U H := by
  obtain ⟨h1, h2, h3⟩ := h
  have e1 : (fun i => ad' (1000 + i)) = fun i => ad (1000 + i) := funext (fun i => ha _ (by omega))
  have e2 : (fun i => ad' (2000 + i)) = fun i => ad (2000 + i) := funext (fun i => ha _ (by omega))
  unfold zT
  rw [e1, e2]
  exact ⟨h1, fun i hi => by rw [ha _ (by omega)]; exact h2 i hi, h3⟩
/-! references on the stack and in the locals that stay when k grows -/
def ziS (k : Nat) : List Value → Prop
  | [] => True
  | .ref j :: t => (j < k ∨ 101 ≤ j) ∧ ziS k t
  | _ :: t => ziS k t
def ziL (k : Nat) : List (Option Value) → Prop
  | [] => True
  | some (.ref j) :: t => (j < k ∨ 101 ≤ j) ∧ ziL k t
  | _ :: t => ziL k t
theorem ziS_m {k : Nat} {ad ad' : Nat → Nat} (ha : ∀ j, j < k ∨ 101 ≤ j → ad' j = ad j) : ∀ st, ziS k st → st.map (zt ad') = st.map (zt ad) := by
  intro st
  induction st with
  | nil => intro _; rfl
  | cons v t ih =>
    intro h
    have key : zt ad' v = zt ad v ∧ ziS k t := by
      cases v with
      | ref j => exact ⟨by show Value.ref (ad' j) = Value.ref (ad j); rw [ha j h.1], h.2⟩
      | int _ => exact ⟨rfl, h⟩
      | long _ => exact ⟨rfl, h⟩
      | float _ => exact ⟨rfl, h⟩
      | double _ => exact ⟨rfl, h⟩
      | null => exact ⟨rfl, h⟩
      | retAddr _ => exact ⟨rfl, h⟩
    rw [List.map_cons, List.map_cons, key.1, ih key.2]
theorem ziL_g {k : Nat} : ∀ (L : List (Option Value)), ziL k L → ∀ i j, zg L i = some (.ref j) → j < k ∨ 101 ≤ j := by
  intro L
  induction L with
  | nil => intro _ i j h; simp [zg] at h
  | cons w t ih =>
    intro h i j hg
    have key : ziL k t ∧ ∀ j, w = some (.ref j) → j < k ∨ 101 ≤ j := by
      cases w with
      | none => exact ⟨h, fun _ q => by cases q⟩
      | some v =>
        cases v with
        | ref j => exact ⟨h.2, fun _ q => by cases q; exact h.1⟩
        | int _ => exact ⟨h, fun _ q => by cases q⟩
        | long _ => exact ⟨h, fun _ q => by cases q⟩
        | float _ => exact ⟨h, fun _ q => by cases q⟩
        | double _ => exact ⟨h, fun _ q => by cases q⟩
        | null => exact ⟨h, fun _ q => by cases q⟩
        | retAddr _ => exact ⟨h, fun _ q => by cases q⟩
    cases i with
    | zero => exact key.2 j hg
    | succ i => exact ih key.1 i j hg
theorem ziL_h {k nL : Nat} {ad ad' : Nat → Nat} {ls : Array Slot} {L : List (Option Value)} (ha : ∀ j, j < k ∨ 101 ≤ j → ad' j = ad j) (hL : ziL k L) (hl : zlh ad ls nL L) : zlh ad' ls nL L := by
  refine ⟨hl.1, hl.2.1, fun q hq => hl.2.2 q ?_⟩
  obtain ⟨v, hv, e⟩ := zprs_of hq
  obtain ⟨j, x⟩ := q
  dsimp only at hv e
  subst e
  have : zt ad' v = zt ad v := by
    cases v with
    | ref i => show Value.ref (ad' i) = Value.ref (ad i); rw [ha i (ziL_g L hL j i hv)]
    | int _ => rfl
    | long _ => rfl
    | float _ => rfl
    | double _ => rfl
    | null => rfl
    | retAddr _ => rfl
  rw [this]
  exact zprs_in hv
/-- the judgement -/
def PG (own nm : String) (cc : ByteArray) (nL : Nat) (rt : Option FieldType) (R : Room) (cs sl : Nat) (X : zXP) (k0 : Nat) (E : zEP) (k pc : Nat) (L : List (Option Value)) (st : List Value) (h : zH) (rn : zR) : Prop :=
  ∀ (p : Program) (l : Launch) (e : Env) (s : State) (m : MethodId) (args : Array Value) (below : List Frame) (meth : Method) (c : Code) (D : va_G) (cA : Nat → ClassId) (ad0 : Nat → Nat) (A : Nat → Prop),
    zCx own cc nL rt p s m args meth c D cA ad0 A → (meth.name = nm ∧ zU s) → X args s ad0 A → ∀ (ad : Nat → Nat) (H : Heap) (locs : List Loc) (ls : Array Slot), (∀ j, j < k0 ∨ 101 ≤ j → ad j = ad0 j) → zcl k h rn → va_P D vwCl (zWp cA ad h rn k) H → va_D A (zWp cA ad h rn k) → va_S A s.heap H locs → zlh ad ls nL L →
    W p l e R s m args below meth c H locs cs sl (E below args s D cA ad0 A) (F0 m pc ls (st.map (zt ad)))
def zQP (D : va_G) (cA : Nat → ClassId) (ad : Nat → Nat) (k k' : Nat) (A : Nat → Prop) (h' : zH) (rn' : zR) : Array Value → State → Outcome → State → Prop := fun _ st oc t =>
  (∃ ad', oc = .returned none ∧ (∀ j, j < k ∨ 101 ≤ j → ad' j = ad j) ∧ zcl k' h' rn' ∧ va_P D vwCl (zWp cA ad' h' rn' k') t.heap ∧ va_D A (zWp cA ad' h' rn' k')) ∧ va_F A st t
def zEp (k k' mc ms : Nat) (h' : zH) (rn' : zR) : zEP := fun below args s D cA ad A => MQ below (zQP D cA ad k k' A h' rn') args s mc ms A
def zADp (ad : Nat → Nat) (k sz : Nat) : Nat → Prop := fun q => (∃ j, j < k ∧ q = ad j) ∨ sz ≤ q
/-- a constructor's contract: its object is cell o, the newest; k' cells behind it -/
def CP (y : MethodName) (cc : ByteArray) (nL : Nat) (R : Room) (o k k' mc ms : Nat) (h h' : zH) (rn rn' : zR) : Prop :=
  zcl k h rn → ∀ (l : Launch) (D : va_G) (cA : Nat → ClassId) (ad : Nat → Nat) (sz : Nat), Met l y (Cond.code y cc nL none :: ztb) R
    (va_Pc [.ref (ad o)] (fun U => U.heap.size = sz ∧ va_P D vwCl (zWp cA ad h rn k) U.heap ∧ va_K D vwCl (ztys cA) U ∧ va_D (fun _ => True) (zWp cA ad h rn k) ∧ zT ad (zADp ad k sz) U U.heap ∧ zU U)) (zQP D cA ad k k' (zADp ad k sz) h' rn') mc ms (zADp ad k sz)
theorem zblindP {as : List Value} {D : va_G} {cA : Nat → ClassId} {ad : Nat → Nat} {h : zH} {rn : zR} {k sz : Nat} : FrameBlind (va_Pc as (fun U => U.heap.size = sz ∧ va_P D vwCl (zWp cA ad h rn k) U.heap ∧ va_K D vwCl (ztys cA) U ∧ va_D (fun _ => True) (zWp cA ad h rn k) ∧ zT ad (zADp ad k sz) U U.heap ∧ zU U)) := by
  intro a U g mk q
  obtain ⟨q0, q1, qP, qK, qD, qT, qU⟩ := q
  exact ⟨q0, q1, qP, va_K.moved (u := U) (U := U.calling g mk a) (Vm.Alike.refl U.vm) qK, qD, zT_same (s := U) rfl rfl qT, zU_same (s := U) rfl qU⟩
theorem CP.of {y : MethodName} {own : String} {cc : ByteArray} {nL o k k' mc ms : Nat} {R : Room} {h h' : zH} {rn rn' : zR} {L : List (Option Value)} (hy : plainName y.cls = true) (ho : y.cls = own) (hn : 1 ≤ nL) (hL : zent nL [.ref o] = L)
    (kk : PG own y.name cc nL none R 0 0 zX0 k (zEp k k' mc ms h' rn') k 0 L [] h rn) : CP y cc nL R o k k' mc ms h h' rn rn' := by
  intro hcl l D cA ad sz
  refine Met.ofW (cc := cc) (maxL := nL) (ret := none) hy rfl ?_
  intro p e s m args below meth c s₁ B hml hv
  obtain ⟨rfl, hsz, hP, hK, hD0, hT, hU⟩ := hv
  subst hsz
  have hts := atoms_spec (ws := Cond.code y cc nL none :: ztb) B.pre
  have hown : s.vm.findClass own = some m.cls := ho ▸ findClass_of_methodNamed B.named
  have hD : va_D (zADp ad k s.heap.size) (zWp cA ad h rn k) := zDp_of hD0 (fun j hj _ => Or.inl ⟨j, hj, rfl⟩)
  rw [lg_entry_eq]
  subst hL
  exact kk p l e s m _ below meth c D cA ad (zADp ad k s.heap.size) ⟨B.exec, B.bytes, hml, B.returns, B.notSynchronized, hown, fun w hw => hts w (List.mem_cons_of_mem _ hw), hK, fun q hq => Or.inr hq, hT⟩ ⟨(name_of_methodNamed B.named B.method).1, hU⟩ trivial ad s.heap [] _ (fun _ _ => rfl) hcl hP hD va_S.rf (zlh_entry (vs := [.ref o]) hn)

section zPRows
variable {own nm : String} {cc : ByteArray} {nL : Nat} {rt : Option FieldType} {R : Room} {cs sl : Nat} {X : zXP} {k0 : Nat} {E : zEP} {k pc pc' : Nat} {L L' : List (Option Value)} {st : List Value} {h : zH} {rn : zR}
theorem PG.iconst {n : Int} {v : Int32} (hdg : decode cc pc = .ok (.iconst n, 1)) (hp : pc + 1 = pc') (hv : Int32.ofInt n = v) (kk : PG own nm cc nL rt R cs sl X k0 E k pc' L (.int v :: st) h rn) : PG own nm cc nL rt R cs sl X k0 E k pc L (st) h rn := by
  intro p l e s m args below meth c D cA ad0 A C hN hX ad H locs ls hag hcl hP hD hS hl
  subst hp
  exact lv_iconst C.1 C.2.1 hdg hv (kk p l e s m args below meth c D cA ad0 A C hN hX ad H locs ls hag hcl hP hD hS hl)
theorem PG.bipush {n : Int} {v : Int32} (hdg : decode cc pc = .ok (.bipush n, 2)) (hp : pc + 2 = pc') (hv : (Int8.ofInt n).toInt32 = v) (kk : PG own nm cc nL rt R cs sl X k0 E k pc' L (.int v :: st) h rn) : PG own nm cc nL rt R cs sl X k0 E k pc L (st) h rn := by
  intro p l e s m args below meth c D cA ad0 A C hN hX ad H locs ls hag hcl hP hD hS hl
  subst hp
  exact lv_bipush C.1 C.2.1 hdg hv (kk p l e s m args below meth c D cA ad0 A C hN hX ad H locs ls hag hcl hP hD hS hl)
theorem PG.sipush {n : Int} {v : Int32} (hdg : decode cc pc = .ok (.sipush n, 3)) (hp : pc + 3 = pc') (hv : (Int16.ofInt n).toInt32 = v) (kk : PG own nm cc nL rt R cs sl X k0 E k pc' L (.int v :: st) h rn) : PG own nm cc nL rt R cs sl X k0 E k pc L (st) h rn := by
  intro p l e s m args below meth c D cA ad0 A C hN hX ad H locs ls hag hcl hP hD hS hl
  subst hp
  exact lv_sipush C.1 C.2.1 hdg hv (kk p l e s m args below meth c D cA ad0 A C hN hX ad H locs ls hag hcl hP hD hS hl)
theorem PG.lconst {n : Fin 2} {v : Int64} (hdg : decode cc pc = .ok (.lconst n, 1)) (hp : pc + 1 = pc') (hv : Int64.ofNat (n : Nat) = v) (kk : PG own nm cc nL rt R cs sl X k0 E k pc' L (.long v :: st) h rn) : PG own nm cc nL rt R cs sl X k0 E k pc L (st) h rn := by
  intro p l e s m args below meth c D cA ad0 A C hN hX ad H locs ls hag hcl hP hD hS hl
  subst hp
  exact lv_lconst C.1 C.2.1 hdg hv (kk p l e s m args below meth c D cA ad0 A C hN hX ad H locs ls hag hcl hP hD hS hl)
theorem PG.dup {v : Value} (hdg : decode cc pc = .ok (.dup, 1)) (hp : pc + 1 = pc') (hv : v.category = 1) (kk : PG own nm cc nL rt R cs sl X k0 E k pc' L (v :: v :: st) h rn) : PG own nm cc nL rt R cs sl X k0 E k pc L (v :: st) h rn := by
  intro p l e s m args below meth c D cA ad0 A C hN hX ad H locs ls hag hcl hP hD hS hl
  subst hp
  exact lv_dup C.1 C.2.1 hdg (by rw [zt_cat]; exact hv) (kk p l e s m args below meth c D cA ad0 A C hN hX ad H locs ls hag hcl hP hD hS hl)
theorem PG.iload_n {n : Fin 4} {x : Int32} (hdg : decode cc pc = .ok (.iload_n n, 1)) (hp : pc + 1 = pc') (hg : zg L n.val = some (.int x)) (kk : PG own nm cc nL rt R cs sl X k0 E k pc' L (.int x :: st) h rn) : PG own nm cc nL rt R cs sl X k0 E k pc L st h rn := by
  intro p l e s m args below meth c D cA ad0 A C hN hX ad H locs ls hag hcl hP hD hS hl
  subst hp
  exact lv_iload_n C.1 C.2.1 hdg rfl (zlh_at hl hg) (kk p l e s m args below meth c D cA ad0 A C hN hX ad H locs ls hag hcl hP hD hS hl)
theorem PG.istore_n {n : Fin 4} {x : Int32} (hdg : decode cc pc = .ok (.istore_n n, 1)) (hp : pc + 1 = pc') (hn : n.val < nL) (hL : zs1 L n.val (.int x) = L') (kk : PG own nm cc nL rt R cs sl X k0 E k pc' L' st h rn) : PG own nm cc nL rt R cs sl X k0 E k pc L (.int x :: st) h rn := by
  intro p l e s m args below meth c D cA ad0 A C hN hX ad H locs ls hag hcl hP hD hS hl
  subst hp; subst hL
  exact lv_istore_n C.1 C.2.1 hdg rfl hl hn rfl (fun ls hl => kk p l e s m args below meth c D cA ad0 A C hN hX ad H locs ls hag hcl hP hD hS (zlh_1 (v := .int x) hl))
theorem PG.aload_n {n : Fin 4} {x : Nat} (hdg : decode cc pc = .ok (.aload_n n, 1)) (hp : pc + 1 = pc') (hg : zg L n.val = some (.ref x)) (kk : PG own nm cc nL rt R cs sl X k0 E k pc' L (.ref x :: st) h rn) : PG own nm cc nL rt R cs sl X k0 E k pc L st h rn := by
  intro p l e s m args below meth c D cA ad0 A C hN hX ad H locs ls hag hcl hP hD hS hl
  subst hp
  exact lv_aload_n C.1 C.2.1 hdg rfl (zlh_at hl hg) (kk p l e s m args below meth c D cA ad0 A C hN hX ad H locs ls hag hcl hP hD hS hl)
theorem PG.astore_n {n : Fin 4} {x : Nat} (hdg : decode cc pc = .ok (.astore_n n, 1)) (hp : pc + 1 = pc') (hn : n.val < nL) (hL : zs1 L n.val (.ref x) = L') (kk : PG own nm cc nL rt R cs sl X k0 E k pc' L' st h rn) : PG own nm cc nL rt R cs sl X k0 E k pc L (.ref x :: st) h rn := by
  intro p l e s m args below meth c D cA ad0 A C hN hX ad H locs ls hag hcl hP hD hS hl
  subst hp; subst hL
  exact lv_astore_n C.1 C.2.1 hdg rfl hl hn rfl (fun ls hl => kk p l e s m args below meth c D cA ad0 A C hN hX ad H locs ls hag hcl hP hD hS (zlh_1 (v := .ref x) hl))
theorem PG.iinc {i : Nat} {n : Int} {x v : Int32} (hdg : decode cc pc = .ok (.iinc i n, 3)) (hp : pc + 3 = pc') (hg : zg L i = some (.int x)) (hv : x + Int32.ofInt n = v) (hn : i < nL) (hL : zs1 L i (.int v) = L') (kk : PG own nm cc nL rt R cs sl X k0 E k pc' L' st h rn) : PG own nm cc nL rt R cs sl X k0 E k pc L st h rn := by
  intro p l e s m args below meth c D cA ad0 A C hN hX ad H locs ls hag hcl hP hD hS hl
  subst hp; subst hL
  obtain ⟨j, hj⟩ := List.getElem?_of_mem (zprs_in (ad := ad) hg)
  exact lv_iinc C.1 C.2.1 hdg hl hj hv hn rfl (fun ls hl => kk p l e s m args below meth c D cA ad0 A C hN hX ad H locs ls hag hcl hP hD hS (zlh_1 (v := .int v) hl))
theorem PG.icmp_ge {x y : Int32} {off : Int} {tgt : Nat} (hdg : decode cc pc = .ok (.if_icmp .ge off, 3)) (hp : pc + 3 = pc') (ht : (pc : Int) + off = (tgt : Int)) (kt : y ≤ x → PG own nm cc nL rt R cs sl X k0 E k tgt L st h rn) (kf : ¬ (y ≤ x) → PG own nm cc nL rt R cs sl X k0 E k pc' L st h rn) : PG own nm cc nL rt R cs sl X k0 E k pc L (.int y :: .int x :: st) h rn := by
  intro p l e s m args below meth c D cA ad0 A C hN hX ad H locs ls hag hcl hP hD hS hl
  subst hp
  exact lv_icmp_ge C.1 C.2.1 hdg ht (fun q => kt q p l e s m args below meth c D cA ad0 A C hN hX ad H locs ls hag hcl hP hD hS hl) (fun q => kf q p l e s m args below meth c D cA ad0 A C hN hX ad H locs ls hag hcl hP hD hS hl)
theorem PG.goto {off : Int} {tgt : Nat} (hdg : decode cc pc = .ok (.goto off, 3)) (ht : (pc : Int) + off = (tgt : Int)) (kk : PG own nm cc nL rt R cs sl X k0 E k tgt L st h rn) : PG own nm cc nL rt R cs sl X k0 E k pc L st h rn := by
  intro p l e s m args below meth c D cA ad0 A C hN hX ad H locs ls hag hcl hP hD hS hl
  exact lv_goto C.1 C.2.1 hdg ht (kk p l e s m args below meth c D cA ad0 A C hN hX ad H locs ls hag hcl hP hD hS hl)
theorem PG.ldcS {index i : Nat} (hdg : decode cc pc = .ok (.ldc index, 2)) (hp : pc + 2 = pc') (ho : own = RX2) (hi : i < 6) (hx : zix i = index) (kk : PG own nm cc nL rt R cs sl X k0 E k pc' L (.ref (1000 + i) :: st) h rn) : PG own nm cc nL rt R cs sl X k0 E k pc L st h rn := by
  intro p l e s m args below meth c D cA ad0 A C hN hX ad H locs ls hag hcl hP hD hS hl
  subst hp; subst ho; subst hx
  have z := kk p l e s m args below meth c D cA ad0 A C hN hX ad H locs ls hag hcl hP hD hS hl
  have e1 : zt ad (.ref (1000 + i)) = .ref (ad0 (1000 + i)) := by show Value.ref _ = _; rw [hag _ (Or.inr (by omega))]
  rw [List.map_cons, e1] at z
  exact va_ldcS C.1 C.2.1 C.2.2.2.2.2.1 (C.2.2.2.2.2.2.2.2.2.2.1 i hi) hdg z
theorem PG.objInit {idx o : Nat} (w1 : Cond.methodLink own idx Lib.objectInit ∈ ztb) (w2 : Cond.instanceMethod Lib.objectInit ∈ ztb) (w3 : Cond.code Lib.objectInit ⟨#[0xb1]⟩ 1 none ∈ ztb) (hdg : decode cc pc = .ok (.invokespecial idx, 3)) (hp : pc + 3 = pc') (hf : 1 ≤ R.frames) (hlo : (st.map Value.category).sum + 12 ≤ R.locals) (kk : PG own nm cc nL rt R cs sl X k0 E k pc' L st h rn) : PG own nm cc nL rt R cs sl X k0 E k pc L (.ref o :: st) h rn := by
  intro p l e s m args below meth c D cA ad0 A C hN hX ad H locs ls hag hcl hP hD hS hl
  subst hp
  have hts := C.2.2.2.2.2.2.1
  refine W.objInit C.1 C.2.1 C.2.2.2.2.2.1 (hts _ w1) (hts _ w2) (hts _ w3) rfl (by rw [C.2.2.1]; exact hl.1) rfl hdg hf (by show 2 * 0 + _ + 12 ≤ _; rw [zcat]; omega) ?_
  exact W.eq rfl (kk p l e s m args below meth c D cA ad0 A C hN hX ad H locs ls hag hcl hP hD hS hl)
theorem zdv_E {ad : Nat → Nat} {h : zH} {rn : zR} {k ci : Nat} (hc : zcl k h rn) : (zkd ci).mapIdx (fun i kd => zfv1 ad h rn k i kd) = (zkd ci).map zdv := by
  obtain ⟨a1, a2, a3⟩ := hc.1 k (Nat.le_refl _)
  apply List.ext_getElem?
  intro i
  rw [List.getElem?_mapIdx, List.getElem?_map]
  cases hk : (zkd ci)[i]? with
  | none => rfl
  | some kd =>
    show some (zfv1 ad h rn k i kd) = some (zdv kd)
    unfold zfv1
    rw [a1, a2, a3]
    match kd with
    | 0 => rfl
    | 1 => rfl
    | 2 => rfl
    | kd + 3 => rfl
theorem zcl_up (hc : zcl k h rn) : zcl (k + 1) h rn := ⟨fun o ho => hc.1 o (by omega), fun o i q => (hc.2 o i q).elim Or.inl (fun z => Or.inr (by omega))⟩
theorem zagk {ad ad0 : Nat → Nat} {q : Nat} (hk0 : k0 ≤ k) (hk : k < 101) (hag : ∀ j, j < k0 ∨ 101 ≤ j → ad j = ad0 j) : ∀ j, j < k0 ∨ 101 ≤ j → zad ad k q j = ad0 j := fun j hj => by rw [show zad ad k q j = ad j from if_neg (by omega)]; exact hag j hj
theorem PG.new {ci index N : Nat} {Cn : String} {T : u_T} {ty : Nat → FieldType} (hk : zSHp[k]? = some (.inl ci)) (hC : vwCl[ci]? = some (Cn, T, N)) (hin : ∀ w ∈ u_ws Cn T N, w ∈ ztb) (hty : ∀ j, j < N → parseFieldDescriptor (T j).2.2.1 = some (ty j)) (hdf : ∀ j, j < N → defaultValue (ty j) = vp_V ((zkd ci).map zdv) j) (w1 : Cond.classLink own index Cn ∈ ztb) (w2 : Cond.instantiable Cn N ∈ ztb) (w3 : Cond.initialized Cn ∈ ztb) (hc : cs + 1 ≤ R.cells) (hs : sl + N ≤ R.slots) (hk0 : k0 ≤ k) (hLi : ziL k L) (hsi : ziS k st) (hdg : decode cc pc = .ok (.new index, 3)) (hp : pc + 3 = pc') (kk : PG own nm cc nL rt R (cs + 1) (sl + N) X k0 E (k + 1) pc' L (.ref k :: st) h rn) : PG own nm cc nL rt R cs sl X k0 E k pc L st h rn := by
  intro p l e s m args below meth c D cA ad0 A C hN hX ad H locs ls hag hcl hP hD hS hl
  subst hp
  have hts := C.2.2.2.2.2.2.1
  have k101 := zSHp_lt hk
  refine va_new (C := Cn) (T := T) (N := N) (fs := (zkd ci).map zdv) C.1 C.2.1 hts (fun w hw => hin w hw) ty hty C.2.2.2.2.2.1 (hts _ w1) (hts _ w2) (hts _ w3) C.2.2.2.2.2.2.2.1 hP hD hS C.2.2.2.2.2.2.2.2.1 hC hdf hc hs hdg (fun q H1 hP1 hD1 hS1 => ?_)
  rw [zWp_push hcl hk (show zE1 cA (zad ad k q) h rn k (.inl ci) = .inr (ci, (zkd ci).map zdv) from congrArg (fun z => Sum.inr (ci, z)) (zdv_E hcl))] at hP1 hD1
  have ag : ∀ j, j < k ∨ 101 ≤ j → zad ad k q j = ad j := fun j hj => if_neg (by omega)
  have z := kk p l e s m args below meth c D cA ad0 A C hN hX (zad ad k q) H1 locs ls (zagk hk0 k101 hag) (zcl_up hcl) hP1 hD1 hS1 (ziL_h ag hLi hl)
  rw [List.map_cons, ziS_m ag st hsi, show zt (zad ad k q) (.ref k) = .ref q from congrArg Value.ref (if_pos rfl)] at z
  exact z
theorem PG.newI {n : Nat} (hk : zSHp[k]? = some (.inr (0, n))) (w1 : Cond.arrayClass .int ∈ ztb) (hn1 : n < 1000) (hc : cs + 1 ≤ R.cells) (hs : sl + n ≤ R.slots) (hk0 : k0 ≤ k) (hLi : ziL k L) (hsi : ziS k st) (hdg : decode cc pc = .ok (.newarray .int, 2)) (hp : pc + 2 = pc') (kk : PG own nm cc nL rt R (cs + 1) (sl + n) X k0 E (k + 1) pc' L (.ref k :: st) h rn) : PG own nm cc nL rt R cs sl X k0 E k pc L (.int (nI n) :: st) h rn := by
  intro p l e s m args below meth c D cA ad0 A C hN hX ad H locs ls hag hcl hP hD hS hl
  subst hp
  have hts := C.2.2.2.2.2.2.1
  have hK := C.2.2.2.2.2.2.2.1
  have k101 := zSHp_lt hk
  refine va_newa (atype := .int) (ty := .int) (a0 := (n, .inl (fun _ => 0))) C.1 C.2.1 (hts _ w1) rfl hK hP hD hS C.2.2.2.2.2.2.2.2.1 (fun _ => rfl) (nI_pos (by omega)) (nI_clamp (by omega)) (by show n * 4 ≤ _; omega) hc hs hdg (fun q cA' H1 hK1 hP1 hD1 hS1 => ?_)
  have e : cA' = cA 0 := by
    have a1 := (hK.2 0 (cA 0, .int) rfl).2
    have a2 := (hK1.2 4 (cA', .int) rfl).2
    exact Option.some.inj (a2.symm.trans a1)
  subst e
  rw [zWp_push hcl hk (show zE1 cA (zad ad k q) h rn k (.inr (0, n)) = .inl (cA 0, n, .inl (fun _ => 0)) by show Sum.inl (cA 0, n, Sum.inl (h.1 k)) = _; rw [(hcl.1 k (Nat.le_refl _)).1])] at hP1 hD1
  have ag : ∀ j, j < k ∨ 101 ≤ j → zad ad k q j = ad j := fun j hj => if_neg (by omega)
  have z := kk p l e s m args below meth c D cA ad0 A C hN hX (zad ad k q) H1 locs ls (zagk hk0 k101 hag) (zcl_up hcl) hP1 hD1 hS1 (ziL_h ag hLi hl)
  rw [List.map_cons, ziS_m ag st hsi, show zt (zad ad k q) (.ref k) = .ref q from congrArg Value.ref (if_pos rfl)] at z
  exact z
theorem PG.newL {n : Nat} (hk : zSHp[k]? = some (.inr (1, n))) (w1 : Cond.arrayClass .long ∈ ztb) (hn1 : n < 1000) (hc : cs + 1 ≤ R.cells) (hs : sl + n ≤ R.slots) (hk0 : k0 ≤ k) (hLi : ziL k L) (hsi : ziS k st) (hdg : decode cc pc = .ok (.newarray .long, 2)) (hp : pc + 2 = pc') (kk : PG own nm cc nL rt R (cs + 1) (sl + n) X k0 E (k + 1) pc' L (.ref k :: st) h rn) : PG own nm cc nL rt R cs sl X k0 E k pc L (.int (nI n) :: st) h rn := by
  intro p l e s m args below meth c D cA ad0 A C hN hX ad H locs ls hag hcl hP hD hS hl
  subst hp
  have hts := C.2.2.2.2.2.2.1
  have hK := C.2.2.2.2.2.2.2.1
  have k101 := zSHp_lt hk
  refine va_newa (atype := .long) (ty := .long) (a0 := (n, .inr (.inl (fun _ => 0)))) C.1 C.2.1 (hts _ w1) rfl hK hP hD hS C.2.2.2.2.2.2.2.2.1 (fun _ => rfl) (nI_pos (by omega)) (nI_clamp (by omega)) (by show n * 8 ≤ _; omega) hc hs hdg (fun q cA' H1 hK1 hP1 hD1 hS1 => ?_)
  have e : cA' = cA 1 := by
    have a1 := (hK.2 1 (cA 1, .long) rfl).2
    have a2 := (hK1.2 4 (cA', .long) rfl).2
    exact Option.some.inj (a2.symm.trans a1)
  subst e
  rw [zWp_push hcl hk (show zE1 cA (zad ad k q) h rn k (.inr (1, n)) = .inl (cA 1, n, .inr (.inl (fun _ => 0))) by show Sum.inl (cA 1, n, Sum.inr (Sum.inl (h.2 k))) = _; rw [(hcl.1 k (Nat.le_refl _)).2.1])] at hP1 hD1
  have ag : ∀ j, j < k ∨ 101 ≤ j → zad ad k q j = ad j := fun j hj => if_neg (by omega)
  have z := kk p l e s m args below meth c D cA ad0 A C hN hX (zad ad k q) H1 locs ls (zagk hk0 k101 hag) (zcl_up hcl) hP1 hD1 hS1 (ziL_h ag hLi hl)
  rw [List.map_cons, ziS_m ag st hsi, show zt (zad ad k q) (.ref k) = .ref q from congrArg Value.ref (if_pos rfl)] at z
  exact z
theorem PG.newQ {n t index : Nat} {Cn : String} (ht : (t = 0 ∧ Cn = RX4) ∨ (t = 1 ∧ Cn = RX3)) (hk : zSHp[k]? = some (.inr (t + 2, n))) (w1 : Cond.classLink own index Cn ∈ ztb) (hn1 : n < 1000) (hc : cs + 1 ≤ R.cells) (hs : sl + n ≤ R.slots) (hk0 : k0 ≤ k) (hLi : ziL k L) (hsi : ziS k st) (hdg : decode cc pc = .ok (.anewarray index, 3)) (hp : pc + 3 = pc') (kk : PG own nm cc nL rt R (cs + 1) (sl + n) X k0 E (k + 1) pc' L (.ref k :: st) h rn) : PG own nm cc nL rt R cs sl X k0 E k pc L (.int (nI n) :: st) h rn := by
  intro p l e s m args below meth c D cA ad0 A C hN hX ad H locs ls hag hcl hP hD hS hl
  subst hp
  have hts := C.2.2.2.2.2.2.1
  have hK := C.2.2.2.2.2.2.2.1
  have k101 := zSHp_lt hk
  have hao : va_AO Cn s := by
    rcases ht with ⟨-, rfl⟩ | ⟨-, rfl⟩
    · exact hN.2.1
    · exact hN.2.2.1
  refine va_newq C.1 C.2.1 C.2.2.2.2.2.1 (hts _ w1) hao hK hP hD hS C.2.2.2.2.2.2.2.2.1 (nI_pos (by omega)) (nI_clamp (by omega)) (by omega) hc hs hdg (fun q cA' H1 hK1 hP1 hD1 hS1 => ?_)
  have e : cA' = cA (t + 2) := by
    have a2 := (hK1.2 4 (cA', .object Cn) rfl).2
    obtain ⟨_, _, _, _, _, b2⟩ := a2
    rcases ht with ⟨rfl, rfl⟩ | ⟨rfl, rfl⟩
    · obtain ⟨_, _, _, _, _, b1⟩ := (hK.2 2 (cA 2, .object RX4) rfl).2
      exact Option.some.inj (b2.symm.trans b1)
    · obtain ⟨_, _, _, _, _, b1⟩ := (hK.2 3 (cA 3, .object RX3) rfl).2
      exact Option.some.inj (b2.symm.trans b1)
  subst e
  rw [zWp_push hcl hk (show zE1 cA (zad ad k q) h rn k (.inr (t + 2, n)) = .inl (cA (t + 2), n, .inr (.inr (.inr (.inr (fun _ => none))))) by
    show Sum.inl (cA (t + 2), n, Sum.inr (Sum.inr (Sum.inr (Sum.inr (fun i => bif rn k i then some (zad ad k q (zrfp k i)) else none))))) = _
    rw [show (fun i => bif rn k i then some (zad ad k q (zrfp k i)) else none) = fun _ => none from funext (fun i => by rw [(hcl.1 k (Nat.le_refl _)).2.2 i]; rfl)])] at hP1 hD1
  have ag : ∀ j, j < k ∨ 101 ≤ j → zad ad k q j = ad j := fun j hj => if_neg (by omega)
  have z := kk p l e s m args below meth c D cA ad0 A C hN hX (zad ad k q) H1 locs ls (zagk hk0 k101 hag) (zcl_up hcl) hP1 hD1 hS1 (ziL_h ag hLi hl)
  rw [List.map_cons, ziS_m ag st hsi, show zt (zad ad k q) (.ref k) = .ref q from congrArg Value.ref (if_pos rfl)] at z
  exact z
theorem zfv1_set {ad : Nat → Nat} {h h' : zH} {rn rn' : zR} {o kf ci kd : Nat} {v : Value} (hk : (zkd ci)[kf]? = some kd) (hv : zfv1 ad h' rn' o kf kd = v) (hr : ∀ i, i ≠ kf → h'.1 o i = h.1 o i ∧ h'.2 o i = h.2 o i ∧ rn' o i = rn o i) : (zkd ci).mapIdx (fun i kd => zfv1 ad h' rn' o i kd) = ((zkd ci).mapIdx (fun i kd => zfv1 ad h rn o i kd)).set kf v := by
  apply List.ext_getElem?
  intro j
  have hlen : kf < (zkd ci).length := (List.getElem?_eq_some_iff.mp hk).1
  rw [List.getElem?_set]
  by_cases hj : kf = j
  · subst hj
    rw [if_pos rfl, if_pos (by simpa using hlen), List.getElem?_mapIdx, hk]
    exact congrArg some hv
  · rw [if_neg hj]
    simp only [List.getElem?_mapIdx]
    congr 1
    funext kd
    obtain ⟨a1, a2, a3⟩ := hr j (fun q => hj q.symm)
    unfold zfv1
    rw [a1, a2, a3]
theorem zcl_h {h' : zH} (hc : zcl k h rn) (hh : ∀ o, k ≤ o → h'.1 o = h.1 o ∧ h'.2 o = h.2 o) : zcl k h' rn := ⟨fun o ho => by rw [(hh o ho).1, (hh o ho).2]; exact hc.1 o ho, hc.2⟩
theorem zcl_r {o i : Nat} (hc : zcl k h rn) (ho : o < k) (hr : (o = 74 ∧ i = 3) ∨ zrfp o i < k) : zcl k h (zrs rn o i) := ⟨fun j hj => ⟨(hc.1 j hj).1, (hc.1 j hj).2.1, fun i' => by rw [zrs_o (Or.inl (by omega))]; exact (hc.1 j hj).2.2 i'⟩, fun o' i' q => by
  rcases zrs_t q with ⟨rfl, rfl⟩ | z
  · exact hr
  · exact hc.2 o' i' z⟩
theorem PG.putI {idx ci kf o : Nat} {x : Int32} {ty : FieldType} (hf : zP own idx ci kf ty) (hdg : decode cc pc = .ok (.putfield idx, 3)) (hp : pc + 3 = pc') (ho : zSHp[o]? = some (.inl ci)) (hok : o < k) (hk : (zkd ci)[kf]? = some 0) (hn : narrow ty (.int x) = .int x) (hft : fits ty (.int x) = true) (kk : PG own nm cc nL rt R cs sl X k0 E k pc' L st (zI h o kf x) rn) : PG own nm cc nL rt R cs sl X k0 E k pc L (.int x :: .ref o :: st) h rn := by
  intro p l e s m args below meth c D cA ad0 A C hN hX ad H locs ls hag hcl hP hD hS hl
  subst hp
  obtain ⟨Cn, T, N, ty0, h1, h2, h3, h4, h5, h6, h7, h8, h9⟩ := hf
  refine va_put (C := Cn) (T := T) (N := N) (ref := Cn) C.1 C.2.1 C.2.2.2.2.2.2.1 h3 ty0 h6 h7 C.2.2.2.2.2.1 C.2.2.2.2.2.2.2.1 hP hD hS o (zWp_at hok ho) h1 _ h2 (C.2.2.2.2.2.2.1 _ h4) (fun x hx => by rw [h5] at hx; exact hx) h8 h9 hn hft (by simpa using (List.getElem?_eq_some_iff.mp hk).1) hdg (fun H locs hP hD hS => ?_)
  have eq := zWp_set (cA := cA) (ad := ad) (h := h) (h' := zI h o kf x) (rn := rn) (rn' := rn) ho hok (congrArg (fun z => Sum.inr (ci, z)) (zfv1_set (h := h) (rn := rn) (v := .int x) hk (by show Value.int _ = _; rw [zI_1, if_pos ⟨rfl, rfl⟩]) (fun i hi => ⟨by rw [zI_1, if_neg (by omega)], rfl, rfl⟩))) (fun j hj => ⟨(zI_o hj).1, (zI_o hj).2, fun _ => rfl⟩)
  dsimp only [zt] at hP hD
  rw [eq] at hP hD
  exact kk p l e s m args below meth c D cA ad0 A C hN hX ad H locs ls hag (zcl_h hcl (fun j hj => zI_o (by omega))) hP hD hS hl
theorem PG.putL {idx ci kf o : Nat} {x : Int64} {ty : FieldType} (hf : zP own idx ci kf ty) (hdg : decode cc pc = .ok (.putfield idx, 3)) (hp : pc + 3 = pc') (ho : zSHp[o]? = some (.inl ci)) (hok : o < k) (hk : (zkd ci)[kf]? = some 1) (hn : narrow ty (.long x) = .long x) (hft : fits ty (.long x) = true) (kk : PG own nm cc nL rt R cs sl X k0 E k pc' L st (zL h o kf x) rn) : PG own nm cc nL rt R cs sl X k0 E k pc L (.long x :: .ref o :: st) h rn := by
  intro p l e s m args below meth c D cA ad0 A C hN hX ad H locs ls hag hcl hP hD hS hl
  subst hp
  obtain ⟨Cn, T, N, ty0, h1, h2, h3, h4, h5, h6, h7, h8, h9⟩ := hf
  refine va_put (C := Cn) (T := T) (N := N) (ref := Cn) C.1 C.2.1 C.2.2.2.2.2.2.1 h3 ty0 h6 h7 C.2.2.2.2.2.1 C.2.2.2.2.2.2.2.1 hP hD hS o (zWp_at hok ho) h1 _ h2 (C.2.2.2.2.2.2.1 _ h4) (fun x hx => by rw [h5] at hx; exact hx) h8 h9 hn hft (by simpa using (List.getElem?_eq_some_iff.mp hk).1) hdg (fun H locs hP hD hS => ?_)
  have eq := zWp_set (cA := cA) (ad := ad) (h := h) (h' := zL h o kf x) (rn := rn) (rn' := rn) ho hok (congrArg (fun z => Sum.inr (ci, z)) (zfv1_set (h := h) (rn := rn) (v := .long x) hk (by show Value.long _ = _; rw [zL_2, if_pos ⟨rfl, rfl⟩]) (fun i hi => ⟨rfl, by rw [zL_2, if_neg (by omega)], rfl⟩))) (fun j hj => ⟨(zL_o hj).1, (zL_o hj).2, fun _ => rfl⟩)
  dsimp only [zt] at hP hD
  rw [eq] at hP hD
  exact kk p l e s m args below meth c D cA ad0 A C hN hX ad H locs ls hag (zcl_h hcl (fun j hj => zL_o (by omega))) hP hD hS hl
theorem PG.putT {idx ci kf o i : Nat} {x : Int32} {ty : FieldType} (hf : zP own idx ci kf ty) (hdg : decode cc pc = .ok (.putfield idx, 3)) (hp : pc + 3 = pc') (ho : zSHp[o]? = some (.inl ci)) (hok : o < k) (hk : (zkd ci)[kf]? = some 2) (h74 : o = 74 ∧ kf = 3) (hi : x.toNatClampNeg = i) (hn : ∀ a, narrow ty (.ref a) = .ref a) (hft : ∀ a, fits ty (.ref a) = true) (kk : PG own nm cc nL rt R cs sl X k0 E k pc' L st (zI h o kf x) (zrs rn o kf)) : PG own nm cc nL rt R cs sl X k0 E k pc L (.ref (1000 + i) :: .ref o :: st) h rn := by
  intro p l e s m args below meth c D cA ad0 A C hN hX ad H locs ls hag hcl hP hD hS hl
  subst hp; subst hi
  obtain ⟨Cn, T, N, ty0, h1, h2, h3, h4, h5, h6, h7, h8, h9⟩ := hf
  refine va_put (C := Cn) (T := T) (N := N) (ref := Cn) C.1 C.2.1 C.2.2.2.2.2.2.1 h3 ty0 h6 h7 C.2.2.2.2.2.1 C.2.2.2.2.2.2.2.1 hP hD hS o (zWp_at hok ho) h1 _ h2 (C.2.2.2.2.2.2.1 _ h4) (fun x hx => by rw [h5] at hx; exact hx) h8 h9 (hn _) (hft _) (by simpa using (List.getElem?_eq_some_iff.mp hk).1) hdg (fun H locs hP hD hS => ?_)
  have eq := zWp_set (cA := cA) (ad := ad) (h := h) (h' := zI h o kf x) (rn := rn) (rn' := zrs rn o kf) ho hok (congrArg (fun z => Sum.inr (ci, z)) (zfv1_set (h := h) (rn := rn) (v := .ref (ad (1000 + x.toNatClampNeg))) hk (by show (bif zrs rn o kf o kf then Value.ref (ad (1000 + ((zI h o kf x).1 o kf).toNatClampNeg)) else .null) = _; rw [zrs_s, zI_1, if_pos ⟨rfl, rfl⟩]; rfl) (fun i hi => ⟨by rw [zI_1, if_neg (by omega)], rfl, zrs_o (Or.inr hi)⟩))) (fun j hj => ⟨(zI_o hj).1, (zI_o hj).2, fun _ => zrs_o (Or.inl hj)⟩)
  dsimp only [zt] at hP hD
  rw [eq] at hP hD
  exact kk p l e s m args below meth c D cA ad0 A C hN hX ad H locs ls hag (zcl_h (zcl_r hcl hok (Or.inl h74)) (fun j hj => zI_o (by omega))) hP hD hS hl
def zPF (own : String) (idx ci k : Nat) : Prop := ∃ (C : String) (T : u_T) (N : Nat) (ty0 : Nat → FieldType) (ty : FieldType), vwCl[ci]? = some (C, T, N) ∧ k < N ∧ (∀ w ∈ u_ws C T N, w ∈ ztb) ∧ Cond.fieldLink own idx C (T k).2.1 (T k).2.2.1 ∈ ztb ∧ (T k).1 = C ∧ (∀ k, k < N → parseFieldDescriptor (T k).2.2.1 = some (ty0 k)) ∧ (∀ a, a < N → ∀ b, b < N → a ≠ b → (T a).2.1 ≠ (T b).2.1) ∧ (T k).2.2.2 = true ∧ parseFieldDescriptor (T k).2.2.1 = some ty ∧ (∀ a, narrow ty (.ref a) = .ref a) ∧ (∀ a, fits ty (.ref a) = true) ∧ C = own
theorem PG.putR {idx ci kf o r : Nat} (hf : zPF own idx ci kf) (hi : nm = "<init>") (hdg : decode cc pc = .ok (.putfield idx, 3)) (hp : pc + 3 = pc') (ho : zSHp[o]? = some (.inl ci)) (hok : o < k) (hk : (zkd ci)[kf]? = some 3) (hr : zrfp o kf = r) (hrk : r < k) (kk : PG own nm cc nL rt R cs sl X k0 E k pc' L st h (zrs rn o kf)) : PG own nm cc nL rt R cs sl X k0 E k pc L (.ref r :: .ref o :: st) h rn := by
  intro p l e s m args below meth c D cA ad0 A C hN hX ad H locs ls hag hcl hP hD hS hl
  subst hp; subst hr
  obtain ⟨Cn, T, N, ty0, ty, h1, h2, h3, h4, h5, h6, h7, h8, h9, h10, h11, h12⟩ := hf
  refine va_putF (C := Cn) (T := T) (N := N) (ref := Cn) C.1 C.2.1 C.2.2.2.2.2.2.1 h3 ty0 h6 h7 C.2.2.2.2.2.1 C.2.2.2.2.2.2.2.1 hP hD hS o (zWp_at hok ho) h1 _ h2 (C.2.2.2.2.2.2.1 _ h4) (fun x hx => by rw [h5] at hx; exact hx) h8 (hN.1.trans hi) (h5.trans h12) h9 (h10 _) (h11 _) (by simpa using (List.getElem?_eq_some_iff.mp hk).1) hdg (fun H locs hP hD hS => ?_)
  have eq := zWp_set (cA := cA) (ad := ad) (h := h) (h' := h) (rn := rn) (rn' := zrs rn o kf) ho hok (congrArg (fun z => Sum.inr (ci, z)) (zfv1_set (h := h) (rn := rn) (v := .ref (ad (zrfp o kf))) hk (by show (bif zrs rn o kf o kf then Value.ref (ad (zrfp o kf)) else .null) = _; rw [zrs_s]; rfl) (fun i hi => ⟨rfl, rfl, zrs_o (Or.inr hi)⟩))) (fun j hj => ⟨rfl, rfl, fun _ => zrs_o (Or.inl hj)⟩)
  dsimp only [zt] at hP hD
  rw [eq] at hP hD
  exact kk p l e s m args below meth c D cA ad0 A C hN hX ad H locs ls hag (zcl_r hcl hok (Or.inr hrk)) hP hD hS hl
theorem PG.getR {idx ci kf o r : Nat} (hf : zF own idx ci kf) (hdg : decode cc pc = .ok (.getfield idx, 3)) (hp : pc + 3 = pc') (ho : zSHp[o]? = some (.inl ci)) (hok : o < k) (hk : (zkd ci)[kf]? = some 3) (hr : zrfp o kf = r) (hset : rn o kf = true) (kk : PG own nm cc nL rt R cs sl X k0 E k pc' L (.ref r :: st) h rn) : PG own nm cc nL rt R cs sl X k0 E k pc L (.ref o :: st) h rn := by
  intro p l e s m args below meth c D cA ad0 A C hN hX ad H locs ls hag hcl hP hD hS hl
  subst hp; subst hr
  obtain ⟨Cn, T, N, h1, h2, h3, h4, h5⟩ := hf
  refine va_get (C := Cn) (T := T) (N := N) (ref := Cn) C.1 C.2.1 C.2.2.2.2.2.2.1 h3 C.2.2.2.2.2.1 C.2.2.2.2.2.2.2.1 hP o (zWp_at hok ho) h1 _ h2 (C.2.2.2.2.2.2.1 _ h4) (fun x hx => by rw [h5] at hx; exact hx) (v := .ref (ad (zrfp o kf))) ?_ hdg (kk p l e s m args below meth c D cA ad0 A C hN hX ad H locs ls hag hcl hP hD hS hl)
  rw [List.getElem?_mapIdx, hk]
  show some (bif rn o kf then Value.ref (ad (zrfp o kf)) else .null) = _
  rw [hset]; rfl
theorem PG.iast {o n j : Nat} {i x : Int32} (hdg : decode cc pc = .ok (.iastore, 1)) (hp : pc + 1 = pc') (ho : zSHp[o]? = some (.inr (0, n))) (hok : o < k) (hj : i = nI j) (hlt : j < n) (hn : n < 1000) (kk : PG own nm cc nL rt R cs sl X k0 E k pc' L st (zI h o j x) rn) : PG own nm cc nL rt R cs sl X k0 E k pc L (.int x :: .int i :: .ref o :: st) h rn := by
  intro p l e s m args below meth c D cA ad0 A C hN hX ad H locs ls hag hcl hP hD hS hl
  subst hp; subst hj
  refine va_iast C.1 C.2.1 C.2.2.2.2.2.2.2.1 hP hD hS o 0 (zWp_at hok ho) rfl (vp_in_nI hlt (by omega)) hdg (fun H locs hP hD hS => ?_)
  have eq := zWp_set (cA := cA) (ad := ad) (h := h) (h' := zI h o j x) (rn := rn) (rn' := rn) ho hok (show zE1 cA ad (zI h o j x) rn o (.inr (0, n)) = .inl (cA 0, n, .inl (upd (h.1 o) (nI j).toNatClampNeg x)) by show Sum.inl (cA 0, n, Sum.inl ((zI h o j x).1 o)) = _; rw [zI_s, nI_clamp (by omega)]) (fun q hq => ⟨(zI_o hq).1, (zI_o hq).2, fun _ => rfl⟩)
  rw [eq] at hP hD
  exact kk p l e s m args below meth c D cA ad0 A C hN hX ad H locs ls hag (zcl_h hcl (fun j hj => zI_o (by omega))) hP hD hS hl
theorem PG.aast {o n j t ci r N : Nat} {i : Int32} {Cn : String} {T : u_T} (ht : (t = 0 ∧ Cn = RX4) ∨ (t = 1 ∧ Cn = RX3)) (hdg : decode cc pc = .ok (.aastore, 1)) (hp : pc + 1 = pc') (ho : zSHp[o]? = some (.inr (t + 2, n))) (hok : o < k) (hr1 : zSHp[r]? = some (.inl ci)) (hrk : r < k) (hci : vwCl[ci]? = some (Cn, T, N)) (hj : i = nI j) (hlt : j < n) (hn : n < 1000) (hr : zrfp o j = r) (kk : PG own nm cc nL rt R cs sl X k0 E k pc' L st h (zrs rn o j)) : PG own nm cc nL rt R cs sl X k0 E k pc L (.ref r :: .int i :: .ref o :: st) h rn := by
  intro p l e s m args below meth c D cA ad0 A C hN hX ad H locs ls hag hcl hP hD hS hl
  subst hp; subst hj; subst hr
  refine va_astq (r := (Cn, T, N)) C.1 C.2.1 C.2.2.2.2.2.2.2.1 hP hD hS o (t + 2) (zrfp o j) ci (zWp_at hok ho) (by rcases ht with ⟨rfl, rfl⟩ | ⟨rfl, rfl⟩ <;> rfl) (zWp_at hrk hr1) hci (vp_in_nI hlt (by omega)) hdg (fun H locs hP hD hS => ?_)
  have eq := zWp_set (cA := cA) (ad := ad) (h := h) (h' := h) (rn := rn) (rn' := zrs rn o j) ho hok (show zE1 cA ad h (zrs rn o j) o (.inr (t + 2, n)) = .inl (cA (t + 2), n, .inr (.inr (.inr (.inr (va_up (fun i => bif rn o i then some (ad (zrfp o i)) else none) (nI j).toNatClampNeg (some (ad (zrfp o j)))))))) by
    rw [nI_clamp (show j < 2 ^ 31 by omega)]
    show Sum.inl (cA (t + 2), n, Sum.inr (Sum.inr (Sum.inr (Sum.inr (fun i => bif zrs rn o j o i then some (ad (zrfp o i)) else none))))) = _
    rw [show (fun i => bif zrs rn o j o i then some (ad (zrfp o i)) else none) = va_up (fun i => bif rn o i then some (ad (zrfp o i)) else none) j (some (ad (zrfp o j))) from funext (fun i => by
      unfold va_up
      by_cases q : i = j
      · subst q; rw [if_pos rfl, zrs_s]; rfl
      · rw [if_neg q, zrs_o (Or.inr q)])]) (fun q hq => ⟨rfl, rfl, fun _ => zrs_o (Or.inl hq)⟩)
  rw [eq] at hP hD
  exact kk p l e s m args below meth c D cA ad0 A C hN hX ad H locs ls hag (zcl_r hcl hok (Or.inr hrk)) hP hD hS hl
theorem PG.vret {mc ms : Nat} (hdg : decode cc pc = .ok (.return_, 1)) (hr : rt = none) : PG own nm cc nL rt R mc ms X k0 (zEp k0 k mc ms h rn) k pc L [] h rn := by
  intro p l e s m args below meth c D cA ad0 A C hN hX ad H locs ls hag hcl hP hD hS hl
  exact W.vret C.1 C.2.1 (C.2.2.2.1.trans hr) (fun t ht hW => ⟨⟨ad, rfl, hag, hcl, by rw [ht]; exact hP, hD⟩, hS.F ht⟩) hS.2.2 hdg (hlocks := C.2.2.2.2.1)
theorem zcall_goP {p : Program} {l : Launch} {e : Env} {s : State} {m : MethodId} {args : Array Value} {below : List Frame} {meth : Method} {c : Code} {H : Heap} {locs : List Loc} {mc ms k' : Nat} {Q : State → Prop} {ls : Array Slot} {st0 rest : List Value} {D : va_G} {cA : Nat → ClassId} {ad : Nat → Nat} {A B : Nat → Prop} {h' : zH} {rn' : zR} {a : Array Value}
    (hr : va_Run p l e R s m args below meth c H locs cs sl mc ms (F0 m pc ls st0) rest (zQP D cA ad k k' B h' rn' a) B) (hS : va_S A s.heap H locs) (hB : ∀ q, B q → A q)
    (kk : ∀ (ad' : Nat → Nat) (H1 : Heap) (locs1 : List Loc), (∀ j, j < k ∨ 101 ≤ j → ad' j = ad j) → zcl k' h' rn' → va_P D vwCl (zWp cA ad' h' rn' k') H1 → va_D B (zWp cA ad' h' rn' k') → va_S A s.heap H1 locs1 → W p l e R s m args below meth c H1 locs1 (cs + mc) (sl + ms) Q (F0 m (pc + 3) ls rest)) : W p l e R s m args below meth c H locs cs sl Q (F0 m pc ls st0) := by
  intro T hT X
  obtain ⟨v, st₀, t, T', Lc, h0, X', hL, e1, e2, ⟨⟨ad', hv, hag, hcl, hP', hD'⟩, hz, hk⟩, st⟩ := hr T hT X
  cases hv
  rw [h0] at hz hk
  obtain ⟨t2, a1, b1⟩ := kk ad' T'.heap (locs ++ Lc) hag hcl (by rw [e1]; exact hP') hD'
    ⟨Nat.le_trans hS.1 (by rw [e1]; exact hz), fun q h1 h2 => by rw [e1, hk q (Nat.lt_of_lt_of_le h1 hS.1) (fun z => h2 (hB q z))]; exact hS.2.1 q h1 h2, fun q hq => by
      rcases List.mem_append.mp hq with h | h
      · exact hS.2.2 q h
      · exact hB _ (hL q h)⟩ T' rfl X'
  exact ⟨t2, st t2 a1, b1⟩
theorem zfreeP {A : Nat → Prop} {s : State} {H : Heap} {locs : List Loc} {cA : Nat → ClassId} {ad : Nat → Nat} (hk : k ≤ 101) (hD : va_D A (zWp cA ad h rn k)) (hS : va_S A s.heap H locs) (hA : ∀ q, s.heap.size ≤ q → A q) : ∀ q, zADp ad k H.size q → A q := by
  rintro q (⟨j, hj, e⟩ | e)
  · obtain ⟨sh, hs⟩ : ∃ sh, zSHp[j]? = some sh := ⟨_, List.getElem?_eq_getElem (by rw [zSHp_len]; omega)⟩
    rw [e]
    exact hD.2 j _ (zWp_at hj hs)
  · exact hA q (Nat.le_trans hS.1 e)
theorem zTp_call {ad ad0 : Nat → Nat} {A : Nat → Prop} {s U : State} {H : Heap} {locs : List Loc} (h : zT ad0 A s s.heap) (ha : ∀ j, 101 ≤ j → ad j = ad0 j) (hS : va_S A s.heap H locs) (hB : ∀ q, zADp ad k H.size q → A q) (hU : U.heap = H) (hW : s.WarmedH U.vm) : zT ad (zADp ad k H.size) U U.heap := zT_ad ha (zT_call h hS hB hU hW)
def zrkP (cs sl nL mc ms : Nat) (R' R : Room) : Prop := R'.cells = mc ∧ R'.slots = ms ∧ (R'.frames + 1 ≤ R.frames ∧ 8 + (nL + 11) + R'.locals ≤ R.locals) ∧ (cs + mc ≤ R.cells ∧ sl + ms ≤ R.slots)
theorem PG.callN {y : MethodName} {host : String} {cc' : ByteArray} {nL' index o k' mc ms : Nat} {R' : Room} {h' : zH} {rn' : zR} (hC : CP y cc' nL' R' o k k' mc ms h h' rn rn') (hx : y.name = "<init>") (w2 : Cond.instanceMethod y ∈ ztb) (hB : zMB y cc' nL' none 0) (hlk : ∀ U, zU U → va_Nw (.methodLinkNest own index y host) U) (hk : k ≤ 101) (hR : zrkP cs sl nL' mc ms R' R) (hk0 : k0 ≤ k) (hLi : ziL k L) (hsi : ziS k st) (hcat : (st.map Value.category).sum ≤ 8) (hdg : decode cc pc = .ok (.invokespecial index, 3)) (hp : pc + 3 = pc') (kk : PG own nm cc nL rt R (cs + mc) (sl + ms) X k0 E k' pc' L st h' rn') : PG own nm cc nL rt R cs sl X k0 E k pc L (.ref o :: st) h rn := by
  intro p l e s m args below meth c D cA ad0 A C hN hX ad H locs ls hag hcl hP hD hS hl
  subst hp
  obtain ⟨b1, b2, b3⟩ := hB
  obtain ⟨r1, r2, r3, r4⟩ := hR
  have hts := C.2.2.2.2.2.2.1
  have hK := C.2.2.2.2.2.2.2.1
  have hF := zfreeP hk hD hS C.2.2.2.2.2.2.2.2.1
  have hM := hC hcl l D cA ad H.size
  refine zcall_goP (rest := st.map (zt ad)) (va_runIN (As := []) ⟨C.1, C.2.1, C.2.2.1, C.2.2.2.2.2.1, hts⟩ hM ⟨va_cnB 0 hts (zgoodIn b2) rfl r1 r2 (hlk s hN.2) (hts _ b1) b3 r3, hx, hts _ w2⟩ ⟨zblindP, fun U hU hW => ⟨rfl, by rw [hU], by rw [hU]; exact hP, va_K.moved hW.alike hK, zDp_of hD (fun _ _ _ => trivial), zTp_call C.2.2.2.2.2.2.2.2.2 (fun j hj => hag j (Or.inr hj)) hS hF hU hW, zU_call hN.2 hW⟩⟩ rfl rfl hl.1 (by simp [zt]) (lv_room (by rw [zcat]; exact hcat)) hdg r4) hS hF (fun ad' H1 locs1 hag' hcl' hP' hD' hS' => ?_)
  have z := kk p l e s m args below meth c D cA ad0 A C hN hX ad' H1 locs1 ls (fun j hj => (hag' j (by omega)).trans (hag j hj)) hcl' hP' ⟨hD'.1, fun j q hq => hF _ (hD'.2 j q hq)⟩ hS' (ziL_h hag' hLi hl)
  rw [ziS_m hag' st hsi] at z
  exact z
theorem PG.callI {y : MethodName} {cc' : ByteArray} {nL' index o k' mc ms : Nat} {R' : Room} {h' : zH} {rn' : zR} (hC : CP y cc' nL' R' o k k' mc ms h h' rn rn') (hx : y.name = "<init>") (w2 : Cond.instanceMethod y ∈ ztb) (hB : zMB y cc' nL' none 0) (hlk : Cond.methodLink own index y ∈ ztb) (hk : k ≤ 101) (hR : zrkP cs sl nL' mc ms R' R) (hk0 : k0 ≤ k) (hLi : ziL k L) (hsi : ziS k st) (hcat : (st.map Value.category).sum ≤ 8) (hdg : decode cc pc = .ok (.invokespecial index, 3)) (hp : pc + 3 = pc') (kk : PG own nm cc nL rt R (cs + mc) (sl + ms) X k0 E k' pc' L st h' rn') : PG own nm cc nL rt R cs sl X k0 E k pc L (.ref o :: st) h rn := by
  intro p l e s m args below meth c D cA ad0 A C hN hX ad H locs ls hag hcl hP hD hS hl
  subst hp
  obtain ⟨b1, b2, b3⟩ := hB
  obtain ⟨r1, r2, r3, r4⟩ := hR
  have hts := C.2.2.2.2.2.2.1
  have hK := C.2.2.2.2.2.2.2.1
  have hF := zfreeP hk hD hS C.2.2.2.2.2.2.2.2.1
  have hM := hC hcl l D cA ad H.size
  refine zcall_goP (rest := st.map (zt ad)) (va_runI (As := []) ⟨C.1, C.2.1, C.2.2.1, C.2.2.2.2.2.1, hts⟩ hM ⟨callB_of 0 hts (zgoodIn b2) rfl r1 r2 (hts _ b1) (hts _ hlk) b3 r3, hx, hts _ w2⟩ ⟨zblindP, fun U hU hW => ⟨rfl, by rw [hU], by rw [hU]; exact hP, va_K.moved hW.alike hK, zDp_of hD (fun _ _ _ => trivial), zTp_call C.2.2.2.2.2.2.2.2.2 (fun j hj => hag j (Or.inr hj)) hS hF hU hW, zU_call hN.2 hW⟩⟩ rfl rfl hl.1 (by simp [zt]) (lv_room (by rw [zcat]; exact hcat)) hdg r4) hS hF (fun ad' H1 locs1 hag' hcl' hP' hD' hS' => ?_)
  have z := kk p l e s m args below meth c D cA ad0 A C hN hX ad' H1 locs1 ls (fun j hj => (hag' j (by omega)).trans (hag j hj)) hcl' hP' ⟨hD'.1, fun j q hq => hF _ (hD'.2 j q hq)⟩ hS' (ziL_h hag' hLi hl)
  rw [ziS_m hag' st hsi] at z
  exact z
end zPRows
