/-! copy: System.arraycopy on rows of longs -/
theorem zac_l : Cond.methodLink RX5 273 arraycopyName ∈ ztb := zat 771 (by decide +kernel) rfl
theorem zac_s : Cond.static arraycopyName ∈ ztb := zat 772 (by decide +kernel) rfl
theorem zac_n : Cond.native arraycopyName ∈ ztb := zat 773 (by decide +kernel) rfl
theorem zac_i : Cond.initialized "java/lang/System" ∈ ztb := zat 66 (by decide +kernel) rfl
theorem WG.copyl {cc : ByteArray} {nL : Nat} {rt : Option FieldType} {R : Room} {cs sl : Nat} {X : zXP} {E : zEP} {pc pc' : Nat} {L : List (Option Value)} {h : zH} {o0 o1 n0 n1 a b n : Nat} (hdg : decode cc pc = .ok (.invokestatic 273, 3)) (hp : pc + 3 = pc') (h0 : zSH[o0]? = some (.inr (1, n0))) (h1 : zSH[o1]? = some (.inr (1, n1))) (l0 : a + n ≤ n0) (l1 : b + n ≤ n1) (m0 : n0 < 1000) (m1 : n1 < 1000) (hfr : 1 ≤ R.frames) (hlo : nativeFrameWords "java/lang/System" "arraycopy" 5 + 11 ≤ R.locals) (k : WG RX5 cc nL rt R cs sl X E pc' L [] (zC h o1 (va_cpy (h.2 o0) (h.2 o1) a b n))) : WG RX5 cc nL rt R cs sl X E pc L [.int (nI n), .int (nI b), .ref o1, .int (nI a), .ref o0] h := by
  intro p l e s m args below meth c D cA ad A C hX H locs ls hP hD hS hl
  subst hp
  have ca : (nI a).toNatClampNeg = a := nI_clamp (by omega)
  have cb : (nI b).toNatClampNeg = b := nI_clamp (by omega)
  have cn : (nI n).toNatClampNeg = n := nI_clamp (by omega)
  have hts := C.2.2.2.2.2.2.1
  refine va_copyl C.1 C.2.1 (C.2.2.1.trans hl.1.symm) C.2.2.2.2.2.1 (hts _ zac_l) (hts _ zac_n) (hts _ zac_s) (hts _ zac_i) C.2.2.2.2.2.2.2.1 hP hD hS o0 o1 1 1 (zW_at h0) (zW_at h1) rfl rfl rfl (nI_pos (by omega)) (nI_pos (by omega)) (nI_pos (by omega)) (by rw [ca, cn]; exact l0) (by rw [cb, cn]; exact l1) (fun _ _ => rfl) hfr (by simpa using hlo) hdg (fun H locs hP hD hS => ?_)
  rw [ca, cb, cn, zW_set (h' := zC h o1 (va_cpy (h.2 o0) (h.2 o1) a b n)) h1 (by unfold zE; rw [zC_s]) (fun j hj => zC_o hj)] at hP hD
  exact k p l e s m args below meth c D cA ad A C hX H locs ls hP hD hS hl
