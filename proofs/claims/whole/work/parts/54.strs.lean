section zStr
variable {own : String} {cc : ByteArray} {nL : Nat} {rt : Option FieldType} {R : Room} {cs sl : Nat} {X : zXP} {E : zEP} {pc pc' : Nat} {L L' : List (Option Value)} {st : List Value} {h : zH}
theorem WG.lookupE {dflt : Int} {ps : Array (Int × Int)} {len : Nat} {x v : Int32} {off : Int} {tgt : Nat} (hx : x = v) (hdg : decode cc pc = .ok (.lookupswitch dflt ps, len)) (hs : (ps.toList.zip (ps.toList.drop 1)).all (fun (a, next) => a.1 < next.1) = true) (ho : Op.lookupswitch.offset ps.toList dflt v.toInt = off) (ht : (pc : Int) + off = (tgt : Int)) (k : WG own cc nL rt R cs sl X E tgt L st h) : WG own cc nL rt R cs sl X E pc L (.int x :: st) h := by
  subst hx
  exact WG.lookup hdg hs ho ht k
/-! the rows of String's methods -/
theorem WG.sval {i : Nat} (hi : i < 6) (ho : own = RJ0) (hdg : decode cc pc = .ok (.getfield 9, 3)) (hp : pc + 3 = pc') (k : WG own cc nL rt R cs sl X E pc' L (.ref (2000 + i) :: st) h) : WG own cc nL rt R cs sl X E pc L (.ref (1000 + i) :: st) h := by
  intro p l e s m args below meth c D cA ad A C hX H locs ls hP hD hS hl
  subst hp; subst ho
  exact vk_getf C.1 C.2.1 (C.2.2.2.2.2.2.2.2.2.1.1 i hi).2.2.1 hS C.2.2.2.2.2.1 (C.2.2.2.2.2.2.1 _ zs_val) (fun _ h => h) hdg (k p l e s m args below meth c D cA ad A C hX H locs ls hP hD hS hl)
theorem WG.scod {i : Nat} (hi : i < 6) (ho : own = RJ0) (hdg : decode cc pc = .ok (.getfield 15, 3)) (hp : pc + 3 = pc') (k : WG own cc nL rt R cs sl X E pc' L (.int 0 :: st) h) : WG own cc nL rt R cs sl X E pc L (.ref (1000 + i) :: st) h := by
  intro p l e s m args below meth c D cA ad A C hX H locs ls hP hD hS hl
  subst hp; subst ho
  exact vk_getf C.1 C.2.1 (C.2.2.2.2.2.2.2.2.2.1.1 i hi).2.1 hS C.2.2.2.2.2.1 (C.2.2.2.2.2.2.1 _ zs_cod) (fun _ h => h) hdg (k p l e s m args below meth c D cA ad A C hX H locs ls hP hD hS hl)
theorem WG.slen {i : Nat} (hi : i < 6) (hdg : decode cc pc = .ok (.arraylength, 1)) (hp : pc + 1 = pc') (k : WG own cc nL rt R cs sl X E pc' L (.int (nI (zlen.getD i 0)) :: st) h) : WG own cc nL rt R cs sl X E pc L (.ref (2000 + i) :: st) h := by
  intro p l e s m args below meth c D cA ad A C hX H locs ls hP hD hS hl
  subst hp
  exact va_tlen C.1 C.2.1 (C.2.2.2.2.2.2.2.2.2.1.1 i hi).2.2.2 hS rfl hdg (k p l e s m args below meth c D cA ad A C hX H locs ls hP hD hS hl)
theorem WG.sbal {i : Nat} {j : Int32} (hi : i < 6) (hin : vp_in j (zlen.getD i 0)) (hdg : decode cc pc = .ok (.baload, 1)) (hp : pc + 1 = pc') (k : WG own cc nL rt R cs sl X E pc' L (.int ((zbyt.getD i []).getD j.toNatClampNeg 0) :: st) h) : WG own cc nL rt R cs sl X E pc L (.int j :: .ref (2000 + i) :: st) h := by
  intro p l e s m args below meth c D cA ad A C hX H locs ls hP hD hS hl
  subst hp
  exact va_tb C.1 C.2.1 (C.2.2.2.2.2.2.2.2.2.1.1 i hi).2.2.2 hS hin rfl hdg (k p l e s m args below meth c D cA ad A C hX H locs ls hP hD hS hl)
theorem WG.scs (ho : own = RJ0) (hdg : decode cc pc = .ok (.getstatic 38, 3)) (hp : pc + 3 = pc') (k : WG own cc nL rt R cs sl X E pc' L (.int 1 :: st) h) : WG own cc nL rt R cs sl X E pc L st h := by
  intro p l e s m args below meth c D cA ad A C hX H locs ls hP hD hS hl
  subst hp; subst ho
  exact va_gets C.1 C.2.1 C.2.2.2.2.2.2.2.2.2.2.2.1 hS C.2.2.2.2.2.1 (C.2.2.2.2.2.2.1 _ zs_cs) (fun _ h => h) hdg (k p l e s m args below meth c D cA ad A C hX H locs ls hP hD hS hl)
theorem WG.i2c {x v : Int32} (hdg : decode cc pc = .ok (.i2c, 1)) (hp : pc + 1 = pc') (hv : (x.toUInt32 % 65536).toInt32 = v) (k : WG own cc nL rt R cs sl X E pc' L (.int v :: st) h) : WG own cc nL rt R cs sl X E pc L (.int x :: st) h := by
  intro p l e s m args below meth c D cA ad A C hX H locs ls hP hD hS hl
  subst hp
  exact lv_i2c C.1 C.2.1 hdg hv (k p l e s m args below meth c D cA ad A C hX H locs ls hP hD hS hl)
theorem WG.callVs {y : MethodName} {cc' : ByteArray} {nL' n idx i : Nat} {rt' : Option FieldType} {R' : Room} {as stk : List Value} {r0 : Option Value} {h0 : zH} (hC : CT y cc' nL' rt' R' (.ref (1000 + i) :: as) h (zD r0 h0)) (hm : zMV own idx y) (hB : zMB y cc' nL' rt' n) (hi : i < 6) (hy : y.cls = "java/lang/String") (hn : as.length = n) (hR : zrk cs sl nL' R' R) (hst : stk = as.reverse ++ .ref (1000 + i) :: st) (hcat : (st.map Value.category).sum ≤ 8) (hdg : decode cc pc = .ok (.invokevirtual idx, 3)) (hp : pc + 3 = pc')
    (k : WG own cc nL rt R cs sl X E pc' L (r0.toList ++ st) h0) : WG own cc nL rt R cs sl X E pc L stk h := by
  intro p l e s m args below meth c D cA ad A C hX H locs ls hP hD hS hl
  subst hp; subst hst
  obtain ⟨m1, m2, m3⟩ := hm
  obtain ⟨b1, b2, b3⟩ := hB
  obtain ⟨r1, r2, r3, r4⟩ := hR
  have hts := C.2.2.2.2.2.2.1
  have hK := C.2.2.2.2.2.2.2.1
  have hF := zfree hD hS C.2.2.2.2.2.2.2.2.1
  refine zcall_go (rest := st.map (zt ad)) (va_runV (As := as.map (zt ad)) (b := ad (1000 + i)) (C := y.cls) ⟨C.1, C.2.1, C.2.2.1, C.2.2.2.2.2.1, hts⟩ (hC l D cA ad H.size) ⟨callB_of n hts (zgoodIn b2) rfl r1 r2 (hts _ b1) (hts _ m1) b3 r3, hts _ m2, hts _ m3⟩ ⟨zblind, (by rw [hy]; exact vk_recv (adK := fun i => ad (1000 + i)) C.2.2.2.2.2.2.2.2.2.1 hi hS), fun U hU hW => ⟨rfl, by rw [hU], by rw [hU]; exact hP, va_K.moved hW.alike hK, zD_of hD (fun _ _ _ => trivial), zT_call C.2.2.2.2.2.2.2.2.2 hS hF hU hW⟩⟩ rfl (by simpa using hn) hl.1 (by simp [zt]) (lv_room (by rw [zcat]; exact hcat)) hdg r4) hS hF (fun r h' H1 locs1 hq hP' hD' hS' => ?_)
  obtain ⟨q1, q2⟩ := hq
  subst q1; subst q2
  rw [zmapr]
  exact k p l e s m args below meth c D cA ad A C hX H1 locs1 ls hP' (zD_of hD' (fun k _ q => hF _ q)) hS' hl
end zStr
theorem zsl0 : ∀ i, i < 6 → nI (zlen.getD i 0) >>> ((0 : Int32) &&& 31) = nI (zlen.getD i 0) ∧ zlen.getD i 0 < 10 ∧ (nI (zlen.getD i 0) = 0 ↔ i = 0) := by decide +kernel
def zchr (i j : Nat) : Int32 := (zbyt.getD i []).getD j 0
theorem zchr_n : ∀ i, i < 6 → ∀ j, j < zlen.getD i 0 → ((zchr i j &&& 255).toUInt32 % 65536).toInt32 = zchr i j ∧ (zchr i j).toUInt32.toUInt16.toUInt32.toInt32 = zchr i j := by decide +kernel
theorem c_J0_coder {i : Nat} (hi : i < 6) (h : zH) : K_J0_coder_7d493 [.ref (1000 + i)] h (zD (some (.int 0)) h) := by
  refine CT.of rfl rfl (Nat.le_of_ble_eq_true rfl) rfl ?_
  refine WG.scs (pc' := 3) rfl dJ0_coder_7d493_0 rfl ?_
  refine WG.if_eq (tgt := 13) (pc' := 6) dJ0_coder_7d493_3 rfl (by decide) (fun c => absurd c (by decide)) (fun _ => ?_)
  refine WG.aload_n (pc' := 7) dJ0_coder_7d493_6 rfl rfl ?_
  refine WG.scod (pc' := 10) hi rfl dJ0_coder_7d493_7 rfl ?_
  refine WG.goto (tgt := 14) dJ0_coder_7d493_10 (by decide) ?_
  exact WG.ireturn dJ0_coder_7d493_14 rfl (by first | rfl | decide) ⟨rfl, rfl⟩
theorem c_J0_isLatin1 {i : Nat} (hi : i < 6) (h : zH) : K_J0_isLatin1_aae02 [.ref (1000 + i)] h (zD (some (.int 1)) h) := by
  refine CT.of rfl rfl (Nat.le_of_ble_eq_true rfl) rfl ?_
  refine WG.scs (pc' := 3) rfl dJ0_isLatin1_aae02_0 rfl ?_
  refine WG.if_eq (tgt := 17) (pc' := 6) dJ0_isLatin1_aae02_3 rfl (by decide) (fun c => absurd c (by decide)) (fun _ => ?_)
  refine WG.aload_n (pc' := 7) dJ0_isLatin1_aae02_6 rfl rfl ?_
  refine WG.scod (pc' := 10) hi rfl dJ0_isLatin1_aae02_7 rfl ?_
  refine WG.if_ne (tgt := 17) (pc' := 13) dJ0_isLatin1_aae02_10 rfl (by decide) (fun c => absurd rfl c) (fun _ => ?_)
  refine WG.iconst (v := 1) (pc' := 14) dJ0_isLatin1_aae02_13 rfl rfl ?_
  refine WG.goto (tgt := 18) dJ0_isLatin1_aae02_14 (by decide) ?_
  exact WG.ireturn dJ0_isLatin1_aae02_18 rfl (by first | rfl | decide) ⟨rfl, rfl⟩
theorem c_J0_length {i : Nat} (hi : i < 6) (h : zH) : K_J0_length_8abf5 [.ref (1000 + i)] h (zD (some (.int (nI (zlen.getD i 0)))) h) := by
  refine CT.of rfl rfl (Nat.le_of_ble_eq_true rfl) rfl ?_
  refine WG.aload_n (pc' := 1) dJ0_length_8abf5_0 rfl rfl ?_
  refine WG.sval (pc' := 4) hi rfl dJ0_length_8abf5_1 rfl ?_
  refine WG.slen (pc' := 5) hi dJ0_length_8abf5_4 rfl ?_
  refine WG.aload_n (pc' := 6) dJ0_length_8abf5_5 rfl rfl ?_
  refine WG.callVs (c_J0_coder hi h) m_J0_335 b_J0_coder_7d493 hi rfl rfl (zrk_of rfl) rfl (Nat.le_of_ble_eq_true rfl) dJ0_length_8abf5_6 (pc' := 9) rfl ?_
  refine WG.ishr (pc' := 10) dJ0_length_8abf5_9 rfl ?_
  exact WG.ireturn dJ0_length_8abf5_10 rfl (by first | rfl | decide) ⟨by rw [(zsl0 i hi).1], rfl⟩
theorem c_J0_isEmpty {i : Nat} (hi : i < 6) (h : zH) : K_J0_isEmpty_aae02 [.ref (1000 + i)] h (zD (some (.int (zb (i = 0)))) h) := by
  refine CT.of rfl rfl (Nat.le_of_ble_eq_true rfl) rfl ?_
  refine WG.aload_n (pc' := 1) dJ0_isEmpty_aae02_0 rfl rfl ?_
  refine WG.sval (pc' := 4) hi rfl dJ0_isEmpty_aae02_1 rfl ?_
  refine WG.slen (pc' := 5) hi dJ0_isEmpty_aae02_4 rfl ?_
  refine WG.if_ne (tgt := 12) (pc' := 8) dJ0_isEmpty_aae02_5 rfl (by decide) (fun c => ?_) (fun c => ?_)
  · refine WG.iconst (v := 0) (pc' := 13) dJ0_isEmpty_aae02_12 rfl rfl ?_
    exact WG.ireturn dJ0_isEmpty_aae02_13 rfl (by first | rfl | decide) ⟨by rw [zb_f (fun z => c ((zsl0 i hi).2.2.mpr z))], rfl⟩
  · refine WG.iconst (v := 1) (pc' := 9) dJ0_isEmpty_aae02_8 rfl rfl ?_
    refine WG.goto (tgt := 13) dJ0_isEmpty_aae02_9 (by decide) ?_
    exact WG.ireturn dJ0_isEmpty_aae02_13 rfl (by first | rfl | decide) ⟨by rw [zb_t ((zsl0 i hi).2.2.mp c)], rfl⟩
/-- Preconditions.checkIndex, its third argument null or any object -/
theorem zJ3 {j n : Nat} (hj : j < n) (hn : n < 2 ^ 31) {v : Value} (hv : v = .null ∨ ∃ t, v = .ref t) (h : zH) (l : Launch) (D : va_G) (cA : Nat → ClassId) (ad : Nat → Nat) (sz : Nat) : Met l yJ3_checkIndex_8e157 (Cond.code yJ3_checkIndex_8e157 cJ3_checkIndex_8e157 3 (some .int) :: ztb) rm_J3_checkIndex_8e157
    (va_Pc [.int (nI j), .int (nI n), v] (fun U => U.heap.size = sz ∧ va_P D vwCl (zW cA ad h) U.heap ∧ va_K D vwCl (ztys cA) U ∧ va_D (fun _ => True) (zW cA ad h) ∧ zT ad (zAD ad sz) U U.heap)) (zQC D cA ad (zAD ad sz) (zD (some (.int (nI j))) h)) 0 0 (zAD ad sz) := by
  refine Met.ofW (cc := cJ3_checkIndex_8e157) (maxL := 3) (ret := some .int) rfl rfl ?_
  intro p e s m args below meth c s₁ B hml hq
  obtain ⟨rfl, hsz, hP, hK, hD0, hT⟩ := hq
  subst hsz
  have hts := atoms_spec (ws := Cond.code yJ3_checkIndex_8e157 cJ3_checkIndex_8e157 3 (some .int) :: ztb) B.pre
  have hown : s.vm.findClass RJ3 = some m.cls := findClass_of_methodNamed B.named
  have hD : va_D (zAD ad s.heap.size) (zW cA ad h) := zD_of hD0 (fun k hk _ => Or.inl ⟨k, hk, rfl⟩)
  rw [lg_entry_eq]
  have hl := lv_entry ([.int (nI j), .int (nI n), v]) (n := 3) (by rcases hv with rfl | ⟨t, rfl⟩ <;> exact Nat.le_of_ble_eq_true rfl)
  have hl2 : zlh ad ((lg_sl ([.int (nI j), .int (nI n), v]) ++ List.replicate (3 - (lg_sl ([.int (nI j), .int (nI n), v])).length) Slot.unset).toArray) 3 [some (.int (nI j)), some (.int (nI n)), none] := by
    refine ⟨hl.1, hl.2.1, fun q hq => hl.2.2 q ?_⟩
    have hq : q ∈ [((0 : Nat), Value.int (nI j)), (1, .int (nI n))] := hq
    rcases hv with rfl | ⟨t, rfl⟩
    · simp only [List.mem_cons, List.not_mem_nil, or_false] at hq
      rcases hq with rfl | rfl <;> simp [lv_args, Value.category]
    · simp only [List.mem_cons, List.not_mem_nil, or_false] at hq
      rcases hq with rfl | rfl <;> simp [lv_args, Value.category]
  have walk : W_J3_checkIndex_8e157 (zD (some (.int (nI j))) h) 0 [some (.int (nI j)), some (.int (nI n)), none] [] h := by
    refine WG.iload_n (pc' := 1) dJ3_checkIndex_8e157_0 rfl rfl ?_
    refine WG.if_lt (tgt := 9) (pc' := 4) dJ3_checkIndex_8e157_1 rfl (by decide) (fun c => absurd c (nI_pos (by omega))) (fun _ => ?_)
    refine WG.iload_n (pc' := 5) dJ3_checkIndex_8e157_4 rfl rfl ?_
    refine WG.iload_n (pc' := 6) dJ3_checkIndex_8e157_5 rfl rfl ?_
    refine WG.icmp_lt (tgt := 16) (pc' := 9) dJ3_checkIndex_8e157_6 rfl (by decide) (fun _ => ?_) (fun c => absurd (nI_lt hj hn) c)
    refine WG.iload_n (pc' := 17) dJ3_checkIndex_8e157_16 rfl rfl ?_
    exact WG.ireturn dJ3_checkIndex_8e157_17 rfl (by first | rfl | decide) ⟨rfl, rfl⟩
  exact walk p l e s m _ below meth c D cA ad (zAD ad s.heap.size) ⟨B.exec, B.bytes, hml, B.returns, B.notSynchronized, hown, fun w hw => hts w (List.mem_cons_of_mem _ hw), hK, fun q hq => Or.inr hq, hT⟩ trivial s.heap [] _ hP hD va_S.rf hl2
theorem c_J0_checkIndex {j n : Nat} (hj : j < n) (hn : n < 2 ^ 31) (h : zH) : K_J0_checkIndex_df160 [.int (nI j), .int (nI n)] h (zD none h) := by
  refine CT.of rfl rfl (Nat.le_of_ble_eq_true rfl) rfl ?_
  refine WG.iload_n (pc' := 1) dJ0_checkIndex_df160_0 rfl rfl ?_
  refine WG.iload_n (pc' := 2) dJ0_checkIndex_df160_1 rfl rfl ?_
  have rest : W_J0_checkIndex_df160 (zD none h) 8 [some (.int (nI j)), some (.int (nI n))] [.int (nI j)] h := by
    refine WG.pop (pc' := 9) dJ0_checkIndex_df160_8 rfl rfl ?_
    exact WG.vreturn dJ0_checkIndex_df160_9 rfl ⟨rfl, rfl⟩
  intro p l e s m args below meth c D cA ad A C hX H locs ls hP hD hS hl
  have hts := C.2.2.2.2.2.2.1
  have hK := C.2.2.2.2.2.2.2.1
  have hF := zfree hD hS C.2.2.2.2.2.2.2.2.1
  have go : ∀ v : Value, (v = .null ∨ ∃ t, v = .ref t) → W p l e rm_J0_checkIndex_df160 s m args below meth c H locs 0 0 (zEm (zD none h) below args s D cA ad A) (F0 m 5 ls [v, .int (nI n), .int (nI j)]) := by
    intro v hv
    obtain ⟨m1, m2⟩ := m_J0_1059
    obtain ⟨b1, b2, b3⟩ := b_J3_checkIndex_8e157
    obtain ⟨r1, r2, r3, r4⟩ : zrk 0 0 3 rm_J3_checkIndex_8e157 rm_J0_checkIndex_df160 := zrk_of rfl
    refine zcall_go (rest := []) (va_runS (As := [.int (nI j), .int (nI n), v]) ⟨C.1, C.2.1, C.2.2.1, C.2.2.2.2.2.1, hts⟩ (zJ3 hj hn hv h l D cA ad H.size) ⟨callB_of 3 hts (zgoodIn b2) rfl r1 r2 (hts _ b1) (hts _ m1) b3 r3, hts _ m2⟩ ⟨zblind, fun U hU hW => ⟨rfl, by rw [hU], by rw [hU]; exact hP, va_K.moved hW.alike hK, zD_of hD (fun _ _ _ => trivial), zT_call C.2.2.2.2.2.2.2.2.2 hS hF hU hW⟩⟩ rfl rfl hl.1 rfl (lv_room (Nat.le_of_ble_eq_true rfl)) dJ0_checkIndex_df160_5 r4) hS hF (fun r h' H1 locs1 hq hP' hD' hS' => ?_)
    obtain ⟨q1, q2⟩ := hq
    subst q1; subst q2
    exact rest p l e s m args below meth c D cA ad A C hX H1 locs1 ls hP' (zD_of hD' (fun k _ q => hF _ q)) hS' hl
  rcases C.2.2.2.2.2.2.2.2.2.2.2.2 with hZ | ⟨t, hZ⟩
  · exact va_gets C.1 C.2.1 hZ hS C.2.2.2.2.2.1 (hts _ zs_sio) (fun _ q => q) dJ0_checkIndex_df160_2 (go .null (Or.inl rfl))
  · exact va_gets C.1 C.2.1 hZ hS C.2.2.2.2.2.1 (hts _ zs_sio) (fun _ q => q) dJ0_checkIndex_df160_2 (go (.ref t) (Or.inr ⟨t, rfl⟩))
theorem c_J1_charAt {i j : Nat} (hi : i < 6) (hj : j < zlen.getD i 0) (h : zH) : K_J1_charAt_3b067 [.ref (2000 + i), .int (nI j)] h (zD (some (.int (zchr i j))) h) := by
  have hl := (zsl0 i hi).2.1
  obtain ⟨e1, e2⟩ := zchr_n i hi j hj
  refine CT.of rfl rfl (Nat.le_of_ble_eq_true rfl) rfl ?_
  refine WG.iload_n (pc' := 1) dJ1_charAt_3b067_0 rfl rfl ?_
  refine WG.aload_n (pc' := 2) dJ1_charAt_3b067_1 rfl rfl ?_
  refine WG.slen (pc' := 3) hi dJ1_charAt_3b067_2 rfl ?_
  refine WG.callSd (c_J0_checkIndex hj (by omega) h) m_J1_9 b_J0_checkIndex_df160 rfl (zrk_of rfl) rfl (Nat.le_of_ble_eq_true rfl) dJ1_charAt_3b067_3 (pc' := 6) rfl ?_
  refine WG.aload_n (pc' := 7) dJ1_charAt_3b067_6 rfl rfl ?_
  refine WG.iload_n (pc' := 8) dJ1_charAt_3b067_7 rfl rfl ?_
  refine WG.sbal (pc' := 9) hi (vp_in_nI hj (by omega)) dJ1_charAt_3b067_8 rfl ?_
  rw [nI_clamp (show j < 2 ^ 31 by omega), show (zbyt.getD i []).getD j 0 = zchr i j from rfl]
  refine WG.sipush (v := 255) (pc' := 12) dJ1_charAt_3b067_9 rfl rfl ?_
  refine WG.iand (pc' := 13) dJ1_charAt_3b067_12 rfl ?_
  refine WG.i2c (pc' := 14) dJ1_charAt_3b067_13 rfl e1 ?_
  exact WG.ireturn dJ1_charAt_3b067_14 rfl (by show Value.int _ = _; rw [e2]) ⟨rfl, rfl⟩
theorem c_J0_charAt {i j : Nat} (hi : i < 6) (hj : j < zlen.getD i 0) (h : zH) : K_J0_charAt_5068e [.ref (1000 + i), .int (nI j)] h (zD (some (.int (zchr i j))) h) := by
  obtain ⟨e1, e2⟩ := zchr_n i hi j hj
  refine CT.of rfl rfl (Nat.le_of_ble_eq_true rfl) rfl ?_
  refine WG.aload_n (pc' := 1) dJ0_charAt_5068e_0 rfl rfl ?_
  refine WG.callVs (c_J0_isLatin1 hi h) m_J0_492 b_J0_isLatin1_aae02 hi rfl rfl (zrk_of rfl) rfl (Nat.le_of_ble_eq_true rfl) dJ0_charAt_5068e_1 (pc' := 4) rfl ?_
  refine WG.if_eq (tgt := 16) (pc' := 7) dJ0_charAt_5068e_4 rfl (by decide) (fun c => absurd c (by decide)) (fun _ => ?_)
  refine WG.aload_n (pc' := 8) dJ0_charAt_5068e_7 rfl rfl ?_
  refine WG.sval (pc' := 11) hi rfl dJ0_charAt_5068e_8 rfl ?_
  refine WG.iload_n (pc' := 12) dJ0_charAt_5068e_11 rfl rfl ?_
  refine WG.callSd (c_J1_charAt hi hj h) m_J0_495 b_J1_charAt_3b067 rfl (zrk_of rfl) rfl (Nat.le_of_ble_eq_true rfl) dJ0_charAt_5068e_12 (pc' := 15) rfl ?_
  exact WG.ireturn dJ0_charAt_5068e_15 rfl (by show Value.int _ = _; rw [e2]) ⟨rfl, rfl⟩
