/-! what the Statement gives of the texts, and of the machine at the start -/
def ztm (i : Nat) : Term := Term.string RX2 (zix i)
abbrev zgvl : List Cond := flatC (Jvm.Cond.and given_1 narrow_1)
theorem zg_ex : ∀ i, i < 6 → Cond.exactly (ztm i) "java/lang/String" ∈ zgvl := by decide +kernel
theorem zg_co : ∀ i, i < 6 → Cond.eq (.field (ztm i) "java/lang/String" "coder" "B") (.int 0) ∈ zgvl := by decide +kernel
theorem zg_ar : ∀ i, i < 6 → Cond.arrayOf (.field (ztm i) "java/lang/String" "value" "[B") .byte ∈ zgvl := by decide +kernel
theorem zg_le : ∀ i, i < 6 → Cond.eq (.length (.field (ztm i) "java/lang/String" "value" "[B")) (.int (Int32.ofNat (zlen.getD i 0))) ∈ zgvl := by decide +kernel
theorem zg_el : ∀ i, i < 6 → ∀ j, j < zlen.getD i 0 → Cond.eq (.elem (.field (ztm i) "java/lang/String" "value" "[B") (.int (Int32.ofNat j))) (.int ((zbyt.getD i []).getD j 0)) ∈ zgvl := by decide +kernel
theorem zg_ne : ∀ i, i < 6 → ∀ j, j < 6 → i ≠ j → Cond.not (Cond.eq (ztm i) (ztm j)) ∈ zgvl ∨ Cond.not (Cond.eq (ztm j) (ztm i)) ∈ zgvl := by decide +kernel
theorem zg_cs : Cond.eq (.static "java/lang/String" "COMPACT_STRINGS" "Z") (.int 1) ∈ zgvl := by decide +kernel
theorem zg_si : Cond.isRef (.static "jdk/internal/util/Preconditions" "SIOOBE_FORMATTER" "Ljava/util/function/BiFunction;") ∈ zgvl := by decide +kernel
theorem zlen_lt : ∀ i, i < 6 → zlen.getD i 0 < 2 ^ 31 := by decide +kernel
theorem vk_S_to {N : Nat} {len : List Nat} {byt : List (List Int32)} {adK adV adK' adV' : Nat → Nat} {A : Nat → Prop} {U : State} {H : Heap} (h : vk_S N len byt adK adV A U H) (h1 : ∀ i, i < N → adK' i = adK i) (h2 : ∀ i, i < N → adV' i = adV i) : vk_S N len byt adK' adV' A U H :=
  ⟨fun i hi => by rw [h1 i hi, h2 i hi]; exact h.1 i hi, fun i j hi hj e => h.2 i j hi hj (by rw [← h1 i hi, ← h1 j hj]; exact e)⟩
theorem zA_int {args : Array Value} {s : State} (h : (Cond.arrayClass .int).before args s = true) : ∃ cA, ArrOfT s cA .int ∧ va_RA s cA .int := by
  obtain ⟨cA, kA, comp, h1, h2, h3⟩ := Cond.arrayClass_spec h
  exact ⟨cA, fun n z => ⟨(fun k h => by cases h), kA, h2, comp, h3⟩, h1⟩
theorem zA_long {args : Array Value} {s : State} (h : (Cond.arrayClass .long).before args s = true) : ∃ cA, ArrOfT s cA .long ∧ va_RA s cA .long := by
  obtain ⟨cA, kA, comp, h1, h2, h3⟩ := Cond.arrayClass_spec h
  exact ⟨cA, fun n z => ⟨(fun k h => by cases h), kA, h2, comp, h3⟩, h1⟩
theorem zA_obj {C : String} {args : Array Value} {s : State} (h : (Cond.arrayOver (.object C)).before args s = true) : ∃ cA, ArrOfT s cA (.object C) ∧ va_RA s cA (.object C) := by
  obtain ⟨comp, cA, kA, h1, -, h2, h3, h4⟩ := Cond.arrayOver_spec h
  exact ⟨cA, fun n z => ⟨(fun k h => by cases h), kA, h2, comp, h3⟩, kA, comp, h2, h3, h1, h4⟩
theorem zlw {w : Cond} (i : Nat) (h : lw_tbl[i]? = some w) : w ∈ lw_tbl := List.mem_of_getElem? h
set_option maxHeartbeats 4000000 in
theorem zstart {p : Program} {s : State} {m : MethodId} {meth : Method} {c : Code} {b L : Nat} {xs : Nat → Int32} (C0 : lw_At p s m meth c b L xs) :
    ∃ (D : va_G) (cA : Nat → ClassId) (ad : Nat → Nat), zCx RL cL_law 4 ret p s m #[Value.ref b] meth c D cA ad (fun q => s.heap.size ≤ q) ∧ zU s ∧ ad 3000 = b ∧ zXL L xs #[Value.ref b] s ad (fun q => s.heap.size ≤ q) := by
  obtain ⟨hx, hb, hr, hml, hown, hts, hX, hbl, hlocks, hgv⟩ := C0
  have hg := flat_of_before _ hgv
  have hA : ∀ a : Nat, a < s.heap.size → ¬ (fun q => s.heap.size ≤ q) a := fun a h => Nat.not_le.mpr h
  have hz : ∀ w ∈ ztb, w.before #[Value.ref b] s = true := fun w hw => hts w (List.mem_filter.mp hw).1
  obtain ⟨adK, adV, hS, hR⟩ := vk_Sof (args := #[Value.ref b]) (s := s) (N := 6) (tm := ztm) (len := zlen) (byt := zbyt) (A := fun q => s.heap.size ≤ q) zlen_lt (fun i hi => hg _ (zg_ex i hi)) (fun i hi => hg _ (zg_co i hi)) (fun i hi => hg _ (zg_ar i hi)) (fun i hi => hg _ (zg_le i hi)) (fun i hi j hj => hg _ (zg_el i hi j hj)) (fun i j hi hj hn => (zg_ne i hi j hj hn).imp (hg _) (hg _)) hA
  obtain ⟨c0, i0, k0⟩ := u_known hz zinX0 (hz _ in_X0)
  obtain ⟨c1, i1, k1⟩ := u_known hz zinX1 (hz _ in_X1)
  obtain ⟨c2, i2, k2⟩ := u_known hz zinX2 (hz _ in_X2)
  obtain ⟨c3, i3, k3⟩ := u_known hz zinX3 (hz _ in_X3)
  obtain ⟨c4, i4, k4⟩ := u_known hz zinX4 (hz _ in_X4)
  obtain ⟨c5, i5, k5⟩ := u_known hz zinX5 (hz _ in_X5)
  obtain ⟨c6, i6, k6⟩ := u_known hz zinX6 (hz _ in_X6)
  obtain ⟨a0, r0⟩ := zA_int (hz _ wcI)
  obtain ⟨a1, r1⟩ := zA_long (hz _ wcL)
  have o4 : (Cond.arrayOver (.object RX4)).before #[Value.ref b] s = true := hts _ (zlw 116 (by decide +kernel))
  have o3 : (Cond.arrayOver (.object RX3)).before #[Value.ref b] s = true := hts _ (zlw 189 (by decide +kernel))
  obtain ⟨a2, r2⟩ := zA_obj o4
  obtain ⟨a3, r3⟩ := zA_obj o3
  let ad : Nat → Nat := fun j => if j = 3000 then b else if j < 2000 then adK (j - 1000) else adV (j - 2000)
  refine ⟨(fun k => [c0, c1, c2, c3, c4, c5, c6].getD k c0, fun k => [i0, i1, i2, i3, i4, i5, i6].getD k i0), fun t => [a0, a1, a2, a3].getD t a0, ad, ⟨hx, hb, hml, hr, hlocks, hown, hz, ⟨fun k q hq => ?_, fun k q hq => ?_⟩, fun q h => h, ?_, fun i hi => ?_, ?_, ?_⟩, ?_, rfl, rfl, hX, hbl, hA _ hbl, rfl⟩
  · match k, hq with
    | 0, hq => cases hq; exact k0
    | 1, hq => cases hq; exact k1
    | 2, hq => cases hq; exact k2
    | 3, hq => cases hq; exact k3
    | 4, hq => cases hq; exact k4
    | 5, hq => cases hq; exact k5
    | 6, hq => cases hq; exact k6
    | k + 7, hq => cases hq
  · match k, hq with
    | 0, hq => cases hq; exact r0
    | 1, hq => cases hq; exact r1
    | 2, hq => cases hq; exact r2
    | 3, hq => cases hq; exact r3
    | k + 4, hq => cases hq
  · refine vk_S_to hS (fun i hi => ?_) (fun i hi => ?_)
    · show (if 1000 + i = 3000 then b else if 1000 + i < 2000 then adK (1000 + i - 1000) else adV (1000 + i - 2000)) = adK i
      rw [if_neg (by omega), if_pos (by omega), Nat.add_sub_cancel_left]
    · show (if 2000 + i = 3000 then b else if 2000 + i < 2000 then adK (2000 + i - 1000) else adV (2000 + i - 2000)) = adV i
      rw [if_neg (by omega), if_neg (by omega), Nat.add_sub_cancel_left]
  · have e : ad (1000 + i) = adK i := by
      show (if 1000 + i = 3000 then b else if 1000 + i < 2000 then adK (1000 + i - 1000) else adV (1000 + i - 2000)) = adK i
      rw [if_neg (by omega), if_pos (by omega), Nat.add_sub_cancel_left]
    rw [e]
    refine vk_R.of (A := #[Value.ref b]) ?_ (hR i hi)
    rcases (show i = 0 ∨ i = 1 ∨ i = 2 ∨ i = 3 ∨ i = 4 ∨ i = 5 by omega) with rfl | rfl | rfl | rfl | rfl | rfl
    · exact hts _ (zlw 167 (by decide +kernel))
    · exact hts _ (zlw 292 (by decide +kernel))
    · exact hts _ (zlw 293 (by decide +kernel))
    · exact hts _ (zlw 294 (by decide +kernel))
    · exact hts _ (zlw 295 (by decide +kernel))
    · exact hts _ (zlw 296 (by decide +kernel))
  · exact va_Zof (hts _ (zlw 280 (by decide +kernel))) (hts _ (zlw 59 (by decide +kernel))) (va_eqt (hg _ zg_cs)) hA
  · exact va_Zqof (hts _ (zlw 316 (by decide +kernel))) (hts _ (zlw 61 (by decide +kernel))) (hg _ zg_si) hA
  · exact ⟨va_AO.of o4, va_AO.of o3, va_Nw.of rfl (hts _ (zlw 77 (by decide +kernel))), va_Nw.of rfl (hts _ (zlw 117 (by decide +kernel))), va_Nw.of rfl (hts _ (zlw 131 (by decide +kernel))), va_Nw.of rfl (hts _ (zlw 163 (by decide +kernel))), va_Nw.of rfl (hts _ (zlw 191 (by decide +kernel)))⟩
/-- YOUR PART: from the entry, for every script of at most 3072 ints, the law comes to its end with true ('hflags': the launch's flags, for a law that throws: no stack traces) -/
theorem whole_start {p : Program} {e : Env} {s : State} {m : MethodId} {below : List Frame} {meth : Method} {c : Code} (l : Launch) (hflags : l.flags = flags0) {b L : Nat} {xs : Nat → Int32} (hL : L ≤ 3072) (C0 : lw_At p s m meth c b L xs) : W p l e room_1 s m #[Value.ref b] below meth c s.heap [] 0 0 (lw_Z below #[Value.ref b] s) (entryFrame m ([Value.ref b] : List Value).toArray 4) := by
  obtain ⟨D, cA, ad, hC, hU, rfl, hX⟩ := zstart C0
  rw [lg_entry_eq]
  exact law_start hL p l e s m #[Value.ref (ad 3000)] below meth c D cA ad (fun q => s.heap.size ≤ q) hC ⟨rfl, hU⟩ hX ad s.heap [] _ (fun _ _ => rfl) ⟨(fun o _ => ⟨rfl, rfl, fun _ => rfl⟩), (fun o i q => by cases q)⟩ (fun k q h => by cases h) ⟨(fun i j p q h => by cases h), (fun k q h => by cases h)⟩ va_S.rf (zlh_entry (ad := ad) (vs := [.ref 3000]) (n := 4) (by decide))
