/-! the mini heap: of each cell of the world (by its number) its ints and its longs; which cell holds what stands fast (zSH, zrf) -/
abbrev zH : Type := (Nat → Nat → Int32) × (Nat → Nat → Int64)
def zI (h : zH) (o i : Nat) (x : Int32) : zH := (fun k => if k = o then upd (h.1 o) i x else h.1 k, h.2)
def zL (h : zH) (o i : Nat) (x : Int64) : zH := (h.1, fun k => if k = o then vp_updL (h.2 o) i x else h.2 k)
def zC (h : zH) (o : Nat) (g : Nat → Int64) : zH := (h.1, fun k => if k = o then g else h.2 k)
abbrev zS : Type := Nat ⊕ (Nat × Nat)
def zSH : List zS := [.inl 5, .inl 4, .inr (0, 8), .inr (0, 8), .inr (0, 8), .inr (0, 8), .inr (0, 8), .inl 4, .inr (0, 8), .inr (0, 8), .inr (0, 8), .inr (0, 8), .inr (0, 8), .inl 4, .inr (0, 8), .inr (0, 8), .inr (0, 8), .inr (0, 8), .inr (0, 8), .inl 1, .inr (2, 8), .inl 4, .inr (0, 8), .inr (0, 8), .inr (0, 8), .inr (0, 8), .inr (0, 8), .inl 4, .inr (0, 8), .inr (0, 8), .inr (0, 8), .inr (0, 8), .inr (0, 8), .inl 4, .inr (0, 8), .inr (0, 8), .inr (0, 8), .inr (0, 8), .inr (0, 8), .inl 4, .inr (0, 8), .inr (0, 8), .inr (0, 8), .inr (0, 8), .inr (0, 8), .inl 4, .inr (0, 8), .inr (0, 8), .inr (0, 8), .inr (0, 8), .inr (0, 8), .inl 4, .inr (0, 8), .inr (0, 8), .inr (0, 8), .inr (0, 8), .inr (0, 8), .inl 4, .inr (0, 8), .inr (0, 8), .inr (0, 8), .inr (0, 8), .inr (0, 8), .inl 4, .inr (0, 8), .inr (0, 8), .inr (0, 8), .inr (0, 8), .inr (0, 8), .inl 0, .inr (1, 8), .inr (1, 8), .inr (1, 8), .inr (1, 8), .inl 2, .inr (0, 4), .inr (0, 120), .inr (0, 9), .inr (3, 3), .inl 3, .inr (1, 20), .inl 3, .inr (1, 20), .inl 3, .inr (1, 20), .inr (0, 7), .inl 6, .inr (0, 7), .inr (0, 41), .inr (0, 328), .inr (0, 41), .inr (0, 120), .inr (0, 4), .inr (0, 41), .inr (1, 16), .inr (1, 18), .inr (0, 9), .inr (0, 3), .inr (0, 3), .inr (1, 60), .inr (0, 41)]
def zrf (k i : Nat) : Nat := bif Nat.beq k 0 then [1, 7, 13, 0, 19, 69, 74, 76, 0, 77, 0, 78, 85].getD i 0 else bif Nat.beq k 20 then 21 + 6 * i else bif Nat.beq k 78 then 79 + 2 * i else bif Nat.beq k 86 then [0, 87, 88, 89, 0, 90, 91, 0, 0, 0, 92, 93, 0, 94, 95, 96, 0, 0, 97, 98, 99, 100, 0].getD i 0 else k + 1 + i
def zkd : Nat → List Nat
  | 0 => [3, 3, 3, 3, 0, 1]
  | 1 => [3, 0, 0]
  | 2 => [3, 0, 0, 2, 0, 0]
  | 3 => [3, 0, 0]
  | 4 => [3, 3, 3, 3, 3, 0]
  | 5 => [3, 3, 3, 0, 3, 3, 3, 3, 0, 3, 0, 3, 3]
  | _ => [0, 3, 3, 3, 0, 3, 3, 0, 0, 0, 3, 3, 1, 3, 3, 3, 0, 0, 3, 3, 3, 3, 0]
def zfv (ad : Nat → Nat) (h : zH) (o i : Nat) (kd : Nat) : Value := match kd with
  | 0 => .int (h.1 o i)
  | 1 => .long (h.2 o i)
  | 2 => .ref (ad (1000 + (h.1 o i).toNatClampNeg))
  | _ => .ref (ad (zrf o i))
def zE (cA : Nat → ClassId) (ad : Nat → Nat) (h : zH) (o : Nat) (sh : zS) : va_E := match sh with
  | .inl ci => .inr (ci, (zkd ci).mapIdx (fun i kd => zfv ad h o i kd))
  | .inr (0, n) => .inl (cA 0, n, .inl (h.1 o))
  | .inr (1, n) => .inl (cA 1, n, .inr (.inl (h.2 o)))
  | .inr (t + 2, n) => .inl (cA (t + 2), n, .inr (.inr (.inr (.inr (fun i => some (ad (zrf o i)))))))
def zW (cA : Nat → ClassId) (ad : Nat → Nat) (h : zH) : va_W := zSH.mapIdx (fun o sh => (ad o, zE cA ad h o sh))
def ztys (cA : Nat → ClassId) : List (ClassId × FieldType) := [(cA 0, .int), (cA 1, .long), (cA 2, .object RX4), (cA 3, .object RX3)]
theorem zW_at {cA : Nat → ClassId} {ad : Nat → Nat} {h : zH} {o : Nat} {sh : zS} (e : zSH[o]? = some sh) : (zW cA ad h)[o]? = some (ad o, zE cA ad h o sh) := by
  simp [zW, List.getElem?_mapIdx, e]
theorem zE_same {cA : Nat → ClassId} {ad : Nat → Nat} {h h' : zH} {o : Nat} (e1 : h'.1 o = h.1 o) (e2 : h'.2 o = h.2 o) (sh : zS) : zE cA ad h' o sh = zE cA ad h o sh := by
  have hf : ∀ i kd, zfv ad h' o i kd = zfv ad h o i kd := fun i kd => by
    unfold zfv
    rw [e1, e2]
  unfold zE
  split
  · simp only [hf]
  · rw [e1]
  · rw [e2]
  · rfl
theorem zW_set {cA : Nat → ClassId} {ad : Nat → Nat} {h h' : zH} {o : Nat} {sh : zS} {x : va_E} (e : zSH[o]? = some sh) (he : zE cA ad h' o sh = x) (hr : ∀ j, j ≠ o → h'.1 j = h.1 j ∧ h'.2 j = h.2 j) : (zW cA ad h).set o (ad o, x) = zW cA ad h' := by
  apply List.ext_getElem?
  intro j
  rw [List.getElem?_set]
  have hlen : o < zSH.length := (List.getElem?_eq_some_iff.mp e).1
  by_cases hj : o = j
  · subst hj
    rw [if_pos rfl, if_pos (by simpa [zW] using hlen), zW_at e, he]
  · rw [if_neg hj]
    cases hs : zSH[j]? with
    | none => simp [zW, List.getElem?_mapIdx, hs]
    | some s2 =>
      obtain ⟨q1, q2⟩ := hr j (fun q => hj q.symm)
      rw [zW_at hs, zW_at hs, zE_same q1 q2]
theorem zI_o {h : zH} {o i j : Nat} {x : Int32} (hj : j ≠ o) : (zI h o i x).1 j = h.1 j ∧ (zI h o i x).2 j = h.2 j := ⟨by simp [zI, hj], rfl⟩
theorem zL_o {h : zH} {o i j : Nat} {x : Int64} (hj : j ≠ o) : (zL h o i x).1 j = h.1 j ∧ (zL h o i x).2 j = h.2 j := ⟨rfl, by simp [zL, hj]⟩
theorem zC_o {h : zH} {o j : Nat} {g : Nat → Int64} (hj : j ≠ o) : (zC h o g).1 j = h.1 j ∧ (zC h o g).2 j = h.2 j := ⟨rfl, by simp [zC, hj]⟩
theorem zI_s (h : zH) (o i : Nat) (x : Int32) : (zI h o i x).1 o = upd (h.1 o) i x := by simp [zI]
theorem zL_s (h : zH) (o i : Nat) (x : Int64) : (zL h o i x).2 o = vp_updL (h.2 o) i x := by simp [zL]
theorem zC_s (h : zH) (o : Nat) (g : Nat → Int64) : (zC h o g).2 o = g := by simp [zC]
/-- an object's int field set -/
theorem zfv_I {ad : Nat → Nat} {h : zH} {o k ci : Nat} {x : Int32} (hk : (zkd ci)[k]? = some 0) : (zkd ci).mapIdx (fun i kd => zfv ad (zI h o k x) o i kd) = ((zkd ci).mapIdx (fun i kd => zfv ad h o i kd)).set k (.int x) := by
  apply List.ext_getElem?
  intro j
  have hlen : k < (zkd ci).length := (List.getElem?_eq_some_iff.mp hk).1
  rw [List.getElem?_set]
  by_cases hj : k = j
  · subst hj
    rw [if_pos rfl, if_pos (by simpa using hlen)]
    simp [List.getElem?_mapIdx, hk, zfv, zI, upd]
  · rw [if_neg hj]
    simp only [List.getElem?_mapIdx]
    congr 1
    funext kd
    simp only [zfv, zI_s, upd]
    rw [if_neg (fun q => hj q.symm)]
    simp [zI]
theorem zfv_L {ad : Nat → Nat} {h : zH} {o k ci : Nat} {x : Int64} (hk : (zkd ci)[k]? = some 1) : (zkd ci).mapIdx (fun i kd => zfv ad (zL h o k x) o i kd) = ((zkd ci).mapIdx (fun i kd => zfv ad h o i kd)).set k (.long x) := by
  apply List.ext_getElem?
  intro j
  have hlen : k < (zkd ci).length := (List.getElem?_eq_some_iff.mp hk).1
  rw [List.getElem?_set]
  by_cases hj : k = j
  · subst hj
    rw [if_pos rfl, if_pos (by simpa using hlen)]
    simp [List.getElem?_mapIdx, hk, zfv, zL, vp_updL]
  · rw [if_neg hj]
    simp only [List.getElem?_mapIdx]
    congr 1
    funext kd
    simp only [zfv, zL_s, vp_updL]
    rw [if_neg (fun q => hj q.symm)]
    simp [zL]
theorem zfv_T {ad : Nat → Nat} {h : zH} {o k ci : Nat} {x : Int32} (hk : (zkd ci)[k]? = some 2) : (zkd ci).mapIdx (fun i kd => zfv ad (zI h o k x) o i kd) = ((zkd ci).mapIdx (fun i kd => zfv ad h o i kd)).set k (.ref (ad (1000 + x.toNatClampNeg))) := by
  apply List.ext_getElem?
  intro j
  have hlen : k < (zkd ci).length := (List.getElem?_eq_some_iff.mp hk).1
  rw [List.getElem?_set]
  by_cases hj : k = j
  · subst hj
    rw [if_pos rfl, if_pos (by simpa using hlen)]
    simp [List.getElem?_mapIdx, hk, zfv, zI, upd]
  · rw [if_neg hj]
    simp only [List.getElem?_mapIdx]
    congr 1
    funext kd
    simp only [zfv, zI_s, upd]
    rw [if_neg (fun q => hj q.symm)]
    simp [zI]

/-! locals by their places; references are numbers of cells -/
def zt (ad : Nat → Nat) (v : Value) : Value := match v with
  | .ref k => .ref (ad k)
  | v => v
theorem zt_cat (ad : Nat → Nat) (v : Value) : (zt ad v).category = v.category := by cases v <;> rfl
def zg : List (Option Value) → Nat → Option Value
  | [], _ => none
  | w :: _, 0 => w
  | _ :: t, n + 1 => zg t n
def zclr (w : Option Value) : Option Value := match w with
  | some (.long _) => none
  | some (.double _) => none
  | w => w
def zs1 : List (Option Value) → Nat → Value → List (Option Value)
  | [], _, _ => []
  | _ :: t, 0, v => some v :: t
  | w :: t, 1, v => zclr w :: zs1 t 0 v
  | w :: t, n + 2, v => w :: zs1 t (n + 1) v
def zs2 : List (Option Value) → Nat → Value → List (Option Value)
  | [], _, _ => []
  | [_], 0, v => [some v]
  | _ :: _ :: t, 0, v => some v :: none :: t
  | w :: t, 1, v => zclr w :: zs2 t 0 v
  | w :: t, n + 2, v => w :: zs2 t (n + 1) v
theorem zclr_c {w : Option Value} {v : Value} (h : zclr w = some v) : w = some v ∧ v.category = 1 := by
  unfold zclr at h
  split at h
  · cases h
  · cases h
  · rename_i h1 h2
    refine ⟨h, ?_⟩
    subst h
    cases v <;> first | rfl | exact absurd rfl (h1 _) | exact absurd rfl (h2 _)
theorem zs1_g : ∀ (L : List (Option Value)) (i : Nat) (v : Value) (j : Nat) (x : Value), zg (zs1 L i v) j = some x → (j = i ∧ x = v) ∨ (j ≠ i ∧ zg L j = some x ∧ ¬ (j + 1 = i ∧ x.category = 2)) := by
  intro L
  induction L with
  | nil => intro i v j x h; simp [zs1, zg] at h
  | cons w t ih =>
    intro i v j x h
    match i, j with
    | 0, 0 => left; simp [zs1, zg] at h; exact ⟨rfl, h.symm⟩
    | 0, j + 1 => right; simp [zs1, zg] at h; exact ⟨by omega, by simpa [zg] using h, by omega⟩
    | 1, 0 =>
      right
      simp only [zs1, zg] at h
      obtain ⟨h1, h2⟩ := zclr_c h
      exact ⟨by omega, by simpa [zg] using h1, by omega⟩
    | 1, j + 1 =>
      simp only [zs1, zg] at h
      rcases ih 0 v j x h with ⟨a, b⟩ | ⟨a, b, c⟩
      · left; exact ⟨by omega, b⟩
      · right; exact ⟨by omega, by simpa [zg] using b, by omega⟩
    | n + 2, 0 => right; simp only [zs1, zg] at h; exact ⟨by omega, by simpa [zg] using h, by omega⟩
    | n + 2, j + 1 =>
      simp only [zs1, zg] at h
      rcases ih (n + 1) v j x h with ⟨a, b⟩ | ⟨a, b, c⟩
      · left; exact ⟨by omega, b⟩
      · right; exact ⟨by omega, by simpa [zg] using b, by omega⟩
theorem zs2_g : ∀ (L : List (Option Value)) (i : Nat) (v : Value) (j : Nat) (x : Value), zg (zs2 L i v) j = some x → (j = i ∧ x = v) ∨ (j ≠ i ∧ j ≠ i + 1 ∧ zg L j = some x ∧ ¬ (j + 1 = i ∧ x.category = 2)) := by
  intro L
  induction L with
  | nil => intro i v j x h; simp [zs2, zg] at h
  | cons w t ih =>
    intro i v j x h
    match i, j with
    | 0, 0 =>
      left
      cases t <;> simp [zs2, zg] at h <;> exact ⟨rfl, h.symm⟩
    | 0, 1 => cases t <;> simp [zs2, zg] at h
    | 0, j + 2 =>
      cases t with
      | nil => simp [zs2, zg] at h
      | cons w2 t =>
        right
        simp [zs2, zg] at h
        exact ⟨by omega, by omega, by simpa [zg] using h, by omega⟩
    | 1, 0 =>
      right
      simp only [zs2, zg] at h
      obtain ⟨h1, h2⟩ := zclr_c h
      exact ⟨by omega, by omega, by simpa [zg] using h1, by omega⟩
    | 1, j + 1 =>
      simp only [zs2, zg] at h
      rcases ih 0 v j x h with ⟨a, b⟩ | ⟨a, a2, b, c⟩
      · left; exact ⟨by omega, b⟩
      · right; exact ⟨by omega, by omega, by simpa [zg] using b, by omega⟩
    | n + 2, 0 => right; simp only [zs2, zg] at h; exact ⟨by omega, by omega, by simpa [zg] using h, by omega⟩
    | n + 2, j + 1 =>
      simp only [zs2, zg] at h
      rcases ih (n + 1) v j x h with ⟨a, b⟩ | ⟨a, a2, b, c⟩
      · left; exact ⟨by omega, b⟩
      · right; exact ⟨by omega, by omega, by simpa [zg] using b, by omega⟩
def zprs (ad : Nat → Nat) (L : List (Option Value)) : List (Nat × Value) := (List.range L.length).filterMap (fun i => (zg L i).map (fun v => (i, zt ad v)))
theorem zg_lt : ∀ {L : List (Option Value)} {i : Nat} {v : Value}, zg L i = some v → i < L.length := by
  intro L
  induction L with
  | nil => intro i v h; simp [zg] at h
  | cons w t ih =>
    intro i v h
    cases i with
    | zero => simp
    | succ i => simp only [zg] at h; have := ih h; simp; omega
theorem zprs_in {ad : Nat → Nat} {L : List (Option Value)} {i : Nat} {v : Value} (h : zg L i = some v) : (i, zt ad v) ∈ zprs ad L := by
  refine List.mem_filterMap.mpr ⟨i, List.mem_range.mpr (zg_lt h), ?_⟩
  rw [h]; rfl
theorem zprs_of {ad : Nat → Nat} {L : List (Option Value)} {q : Nat × Value} (h : q ∈ zprs ad L) : ∃ v, zg L q.1 = some v ∧ q.2 = zt ad v := by
  obtain ⟨i, -, hi⟩ := List.mem_filterMap.mp h
  cases hv : zg L i with
  | none => rw [hv] at hi; cases hi
  | some v => rw [hv] at hi; cases hi; exact ⟨v, hv, rfl⟩
abbrev zlh (ad : Nat → Nat) (ls : Array Slot) (nL : Nat) (L : List (Option Value)) : Prop := lv_has ls nL (zprs ad L)
theorem zlh_at {ad : Nat → Nat} {ls : Array Slot} {nL : Nat} {L : List (Option Value)} (h : zlh ad ls nL L) {i : Nat} {v : Value} (hg : zg L i = some v) : ls[i]? = some (.val (zt ad v)) := h.2.2 _ (zprs_in hg)
theorem zlh_1 {ad : Nat → Nat} {ls : Array Slot} {nL : Nat} {L : List (Option Value)} {i : Nat} {v : Value} (h : lv_has ls nL ((i, zt ad v) :: (zprs ad L).filter (fun q => !(q.1 == i) && !(q.1 + 1 == i && q.2.category == 2)))) : zlh ad ls nL (zs1 L i v) := by
  refine ⟨h.1, h.2.1, fun q hq => h.2.2 q ?_⟩
  obtain ⟨x, hx, e⟩ := zprs_of hq
  obtain ⟨j, w⟩ := q
  dsimp only at hx e
  subst e
  rcases zs1_g L i v j x hx with ⟨a, b⟩ | ⟨a, b, c⟩
  · subst a; subst b; exact List.mem_cons_self
  · refine List.mem_cons_of_mem _ (List.mem_filter.mpr ⟨zprs_in b, ?_⟩)
    rw [zt_cat]
    simp only [Bool.and_eq_true, Bool.not_eq_true', beq_eq_false_iff_ne, ne_eq, Bool.and_eq_false_iff]
    refine ⟨a, ?_⟩
    by_cases h1 : j + 1 = i
    · right; exact fun h2 => c ⟨h1, h2⟩
    · left; exact h1
theorem zlh_2 {ad : Nat → Nat} {ls : Array Slot} {nL : Nat} {L : List (Option Value)} {i : Nat} {v : Value} (h : lv_has ls nL ((i, zt ad v) :: (zprs ad L).filter (fun q => !(q.1 == i) && (!(q.1 == i + 1) && !(q.1 + 1 == i && q.2.category == 2))))) : zlh ad ls nL (zs2 L i v) := by
  refine ⟨h.1, h.2.1, fun q hq => h.2.2 q ?_⟩
  obtain ⟨x, hx, e⟩ := zprs_of hq
  obtain ⟨j, w⟩ := q
  dsimp only at hx e
  subst e
  rcases zs2_g L i v j x hx with ⟨a, b⟩ | ⟨a, a2, b, c⟩
  · subst a; subst b; exact List.mem_cons_self
  · refine List.mem_cons_of_mem _ (List.mem_filter.mpr ⟨zprs_in b, ?_⟩)
    rw [zt_cat]
    simp only [Bool.and_eq_true, Bool.not_eq_true', beq_eq_false_iff_ne, ne_eq, Bool.and_eq_false_iff]
    refine ⟨a, a2, ?_⟩
    by_cases h1 : j + 1 = i
    · right; exact fun h2 => c ⟨h1, h2⟩
    · left; exact h1

