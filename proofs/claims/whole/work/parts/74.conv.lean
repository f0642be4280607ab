/-! from the order in which cells come to the order of zSH -/
def zpi (o : Nat) : Nat := if o = 85 then 79 else if 79 ≤ o ∧ o < 85 then o + 1 else o
def zhp (h : zH) : zH := (fun o => h.1 (zpi o), fun o => h.2 (zpi o))
def zadp (ad : Nat → Nat) : Nat → Nat := fun o => ad (zpi o)
theorem zpi_ge {o : Nat} (h : 101 ≤ o) : zpi o = o := by
  unfold zpi
  rw [if_neg (by omega), if_neg (by omega)]
theorem zpi_lt {o : Nat} (h : o < 101) : zpi o < 101 := by
  unfold zpi
  split
  · omega
  · split <;> omega
theorem zpi_inj {a b : Nat} (h : zpi a = zpi b) : a = b := by
  unfold zpi at h
  split at h <;> split at h <;> (try split at h) <;> (try split at h) <;> omega
theorem zpi_sh : ∀ o, o < 101 → zSHp[zpi o]? = zSH[o]? := by decide +kernel
theorem zkd4 : ∀ ci, ci < 7 → ∀ i, i < 25 → ∀ x, (zkd ci)[i]? = some x → x < 4 ∧ i < 25 := by
  intro ci hc i hi x hx
  have : ∀ ci, ci < 7 → ∀ i, i < 25 → ((zkd ci)[i]?.getD 0) < 4 := by decide +kernel
  have h := this ci hc i hi
  rw [hx] at h
  exact ⟨h, hi⟩
theorem zkd_len : ∀ ci, ci < 7 → (zkd ci).length ≤ 25 := by decide +kernel
def zci7 : zS → Bool
  | .inl c => Nat.blt c 7
  | .inr _ => true
theorem zSH_ci (o : Nat) (_ : o < 101) (ci : Nat) : ci < 7 ∨ zSH[o]? ≠ some (.inl ci) := by
  by_cases e : zSH[o]? = some (.inl ci)
  · have h : zSH.all zci7 = true := by decide +kernel
    have h2 : Nat.blt ci 7 = true := List.all_eq_true.mp h _ (List.mem_of_getElem? e)
    exact Or.inl (Nat.le_of_ble_eq_true h2)
  · exact Or.inr e
/-- all references are set, and lead where they lead in zSH -/
def zrF : zR := zr_X6 (zr_X5 (fun _ _ => false))
def zck (o i : Nat) (kd : Nat) : Bool := bif Nat.beq kd 2 then zrF (zpi o) i else zrF (zpi o) i && Nat.beq (zrfp (zpi o) i) (zpi (zrf o i))
def zcko (o : Nat) : Bool := match zSH[o]? with
  | some (.inl ci) => (List.range 25).all fun i => match (zkd ci)[i]? with
    | some (kd + 2) => zck o i (kd + 2)
    | _ => true
  | some (.inr (_ + 2, n)) => (List.range n).all fun i => zck o i 3
  | _ => true
theorem zcko_all : ∀ o, o < 101 → zcko o = true := by decide +kernel
theorem zcko_f {o ci i kd : Nat} (ho : o < 101) (e : zSH[o]? = some (.inl ci)) (hk : (zkd ci)[i]? = some (kd + 2)) : zck o i (kd + 2) = true := by
  have h := zcko_all o ho
  unfold zcko at h
  rw [e] at h
  have hci : ci < 7 := (zSH_ci o ho ci).resolve_right (fun z => z e)
  have hi : i < 25 := Nat.lt_of_lt_of_le (List.getElem?_eq_some_iff.mp hk).1 (zkd_len ci hci)
  have := List.all_eq_true.mp h i (List.mem_range.mpr hi)
  rw [hk] at this
  exact this
theorem zcko_a {o t n i : Nat} (ho : o < 101) (e : zSH[o]? = some (.inr (t + 2, n))) (hi : i < n) : zck o i 3 = true := by
  have h := zcko_all o ho
  unfold zcko at h
  rw [e] at h
  exact List.all_eq_true.mp h i (List.mem_range.mpr hi)
theorem zck_3 {o i : Nat} (h : zck o i 3 = true) : zrF (zpi o) i = true ∧ zrfp (zpi o) i = zpi (zrf o i) := by
  have h : (zrF (zpi o) i && Nat.beq (zrfp (zpi o) i) (zpi (zrf o i))) = true := h
  rw [Bool.and_eq_true] at h
  exact ⟨h.1, Nat.eq_of_beq_eq_true h.2⟩
theorem zfv_conv {ad : Nat → Nat} {h : zH} {o ci i kd : Nat} (ho : o < 101) (e : zSH[o]? = some (.inl ci)) (hk : (zkd ci)[i]? = some kd) : zfv1 ad h zrF (zpi o) i kd = zfv (zadp ad) (zhp h) o i kd := by
  have hci : ci < 7 := (zSH_ci o ho ci).resolve_right (fun z => z e)
  have hi : i < 25 := Nat.lt_of_lt_of_le (List.getElem?_eq_some_iff.mp hk).1 (zkd_len ci hci)
  have h4 := (zkd4 ci hci i hi kd hk).1
  match kd, hk, h4 with
  | 0, _, _ => rfl
  | 1, _, _ => rfl
  | 2, hk, _ =>
    have q : zrF (zpi o) i = true := zcko_f (kd := 0) ho e hk
    show (bif zrF (zpi o) i then Value.ref (ad (1000 + (h.1 (zpi o) i).toNatClampNeg)) else .null) = Value.ref (ad (zpi (1000 + (h.1 (zpi o) i).toNatClampNeg)))
    rw [q, zpi_ge (o := 1000 + (h.1 (zpi o) i).toNatClampNeg) (by omega)]; rfl
  | 3, hk, _ =>
    obtain ⟨q1, q2⟩ := zck_3 (zcko_f (kd := 1) ho e hk)
    show (bif zrF (zpi o) i then Value.ref (ad (zrfp (zpi o) i)) else .null) = Value.ref (ad (zpi (zrf o i)))
    rw [q1, q2]; rfl
  | kd + 4, _, h4 => exact absurd h4 (by omega)
theorem zP_conv {D : va_G} {cA : Nat → ClassId} {ad : Nat → Nat} {h : zH} {H : Heap} (hP : va_P D vwCl (zWp cA ad h zrF 101) H) : va_P D vwCl (zW cA (zadp ad) (zhp h)) H := by
  intro o q hq
  obtain ⟨ho, -⟩ := zW_get hq
  have hl : o < zSH.length := by rw [zSH_len]; exact ho
  obtain ⟨sh, e⟩ : ∃ sh, zSH[o]? = some sh := ⟨_, List.getElem?_eq_getElem hl⟩
  rw [zW_at e] at hq
  cases hq
  have e' : zSHp[zpi o]? = some sh := (zpi_sh o ho).trans e
  have h1 := hP (zpi o) _ (zWp_at (zpi_lt ho) e')
  match sh, e, h1 with
  | .inl ci, e, h1 =>
    have eq : ((zkd ci).mapIdx (fun i kd => zfv1 ad h zrF (zpi o) i kd)) = (zkd ci).mapIdx (fun i kd => zfv (zadp ad) (zhp h) o i kd) := by
      apply List.ext_getElem?
      intro i
      rw [List.getElem?_mapIdx, List.getElem?_mapIdx]
      cases hk : (zkd ci)[i]? with
      | none => rfl
      | some kd =>
        show some (zfv1 ad h zrF (zpi o) i kd) = some (zfv (zadp ad) (zhp h) o i kd)
        rw [zfv_conv ho e hk]
    have h1 : va_at D vwCl (ad (zpi o), .inr (ci, (zkd ci).mapIdx (fun i kd => zfv1 ad h zrF (zpi o) i kd))) H := h1
    rw [eq] at h1
    exact h1
  | .inr (0, n), e, h1 => exact h1
  | .inr (1, n), e, h1 => exact h1
  | .inr (t + 2, n), e, h1 =>
    have h1 : H[ad (zpi o)]? = some (arrV (cA (t + 2)) n (fun j => va_rf (bif zrF (zpi o) j then some (ad (zrfp (zpi o) j)) else none))) := h1
    show H[ad (zpi o)]? = some (arrV (cA (t + 2)) n (fun j => va_rf (some (ad (zpi (zrf o j))))))
    rw [h1]
    have ef : (fun j : Fin n => va_rf (bif zrF (zpi o) j.val then some (ad (zrfp (zpi o) j.val)) else none)) = fun j : Fin n => va_rf (some (ad (zpi (zrf o j.val)))) := by
      funext j
      obtain ⟨q1, q2⟩ := zck_3 (zcko_a ho e j.isLt)
      rw [q1, q2]; rfl
    unfold arrV
    rw [ef]
theorem zD_conv {A : Nat → Prop} {cA : Nat → ClassId} {ad : Nat → Nat} {h : zH} (hD : va_D A (zWp cA ad h zrF 101)) : va_D A (zW cA (zadp ad) (zhp h)) := by
  have key : ∀ {o q}, (zW cA (zadp ad) (zhp h))[o]? = some q → ∃ q', (zWp cA ad h zrF 101)[zpi o]? = some q' ∧ q'.1 = q.1 := by
    intro o q hq
    obtain ⟨ho, e1⟩ := zW_get hq
    have hl : o < zSH.length := by rw [zSH_len]; exact ho
    exact ⟨_, zWp_at (zpi_lt ho) ((zpi_sh o ho).trans (List.getElem?_eq_getElem hl)), e1.symm⟩
  refine ⟨fun i j p q hi hj e => ?_, fun k q hk => ?_⟩
  · obtain ⟨p', a1, a2⟩ := key hi
    obtain ⟨q', b1, b2⟩ := key hj
    exact zpi_inj (hD.1 _ _ _ _ a1 b1 (by rw [a2, b2]; exact e))
  · obtain ⟨q', b1, b2⟩ := key hk
    rw [← b2]
    exact hD.2 _ _ b1
/-- from a world grown up to the judgement of calls -/
theorem PG.toW {own nm : String} {cc : ByteArray} {rt : Option FieldType} {R : Room} {cs sl Ls : Nat} {xs : Nat → Int32} {pc : Nat} {x : Int32} {h : zH}
    (kk : WG own cc 4 rt R cs sl (zXL Ls xs) zEL pc [some (.ref 3000), some (.ref 0), some (.ref 86), some (.int x)] [] (zhp h)) : PG own nm cc 4 rt R cs sl (zXL Ls xs) 0 zEL 101 pc [some (.ref 3000), some (.ref 0), some (.ref 86), some (.int x)] [] h zrF := by
  intro p l e s m args below meth c D cA ad0 A C hN hX ad H locs ls hag hcl hP hD hS hl
  have ha : ∀ j, 101 ≤ j → zadp ad j = ad0 j := fun j hj => by
    show ad (zpi j) = ad0 j
    rw [zpi_ge hj]
    exact hag j (Or.inr hj)
  obtain ⟨c1, c2, c3, c4, c5, c6, c7, c8, c9, c10⟩ := C
  refine kk p l e s m args below meth c D cA (zadp ad) A ⟨c1, c2, c3, c4, c5, c6, c7, c8, c9, zT_ad ha c10⟩ ?_ H locs ls (zP_conv hP) (zD_conv hD) hS hl
  unfold zXL
  rw [ha 3000 (by decide)]
  exact hX
/-! the objects at their start -/
def zh0 : zH := (fun _ _ => 0, fun _ _ => 0)
def zhF : zH := zhp (zh_X6 (zh_X5 zh0))
def zS0 : zA := ((0, fun _ _ => 0), (0, fun _ => (0, fun _ _ => 0)), none, (0, fun _ => 0), (0, fun _ => 0), fun _ => none, fun _ => 0)
theorem zS0_X : RX zS0 zhF := by
  refine ⟨⟨by unfold isS; decide, by decide, by decide +kernel, fun i hi => absurd hi (Nat.not_lt_zero i)⟩, ⟨0, by decide, by decide, by decide +kernel, by decide +kernel, fun i hi => absurd hi (Nat.not_lt_zero i)⟩, ?_, ⟨by decide, by decide +kernel, fun i hi => absurd hi (Nat.not_lt_zero i)⟩, ⟨by decide, by decide +kernel, fun i hi => absurd hi (Nat.not_lt_zero i)⟩, fun l hl => ?_, fun i hi h0 => ?_⟩
  · show zhF.1 0 3 = 0
    decide +kernel
  · rcases (show l = 0 ∨ l = 1 ∨ l = 2 by omega) with rfl | rfl | rfl
    · exact ⟨by unfold isR; decide, by show zhF.1 (79 + 2 * 0) 1 = -1; decide +kernel⟩
    · exact ⟨by unfold isR; decide, by show zhF.1 (79 + 2 * 1) 1 = -1; decide +kernel⟩
    · exact ⟨by unfold isR; decide, by show zhF.1 (79 + 2 * 2) 1 = -1; decide +kernel⟩
  · exact (show ∀ i, i < 7 → zhF.1 85 i = 0 by decide +kernel) i hi
theorem zS0_M : RM zS0 zhF := by
  refine ⟨⟨by decide, by decide +kernel, fun i hi => absurd hi (Nat.not_lt_zero i)⟩, ⟨by decide, by decide +kernel, fun i hi => absurd hi (Nat.not_lt_zero i)⟩, ?_, ⟨by decide, by decide +kernel, fun i hi => absurd hi (Nat.not_lt_zero i)⟩, ⟨by decide, by decide +kernel, fun i hi => absurd hi (Nat.not_lt_zero i)⟩, fun l hl => ?_, fun i hi h0 => ?_⟩
  · show zhF.1 86 22 = 0
    decide +kernel
  · exact (show ∀ l, l < 3 → zhF.1 97 l = -1 by decide +kernel) l hl
  · exact (show ∀ i, i < 7 → zhF.1 87 i = 0 by decide +kernel) i hi
theorem zS0_V : zV zS0 := ⟨⟨by decide, fun i hi => absurd hi (Nat.not_lt_zero i)⟩, fun i hi => absurd hi (Nat.not_lt_zero i), fun S e => by cases e⟩
