/-! the law's own rows: the script, the end -/
def zXL (Ls : Nat) (xs : Nat → Int32) : zXP := fun args s ad A => args = #[.ref (ad 3000)] ∧ va_X (ad 3000) Ls xs s s.heap ∧ ad 3000 < s.heap.size ∧ ¬ A (ad 3000) ∧ A = fun q => s.heap.size ≤ q
def zEL : zEP := fun below args s _ _ _ _ => lw_Z below args s
def W_law (Ls : Nat) (xs : Nat → Int32) (pc : Nat) (L : List (Option Value)) (st : List Value) (h : zH) : Prop := WG RL cL_law 4 ret room_1 101 1541 (zXL Ls xs) zEL pc L st h
section zLawRows
variable {Ls : Nat} {xs : Nat → Int32} {cc : ByteArray} {own : String} {nL : Nat} {rt : Option FieldType} {R : Room} {cs sl : Nat} {E : zEP} {pc pc' : Nat} {L : List (Option Value)} {st : List Value} {h : zH}
theorem WG.sldN {j : Nat} {i : Int32} (hj : i = nI j) (hlt : j < Ls ∧ Ls ≤ 3072) (hdg : decode cc pc = .ok (.iaload, 1)) (hp : pc + 1 = pc') (kk : WG own cc nL rt R cs sl (zXL Ls xs) E pc' L (.int (xs j) :: st) h) : WG own cc nL rt R cs sl (zXL Ls xs) E pc L (.int i :: .ref 3000 :: st) h := by
  subst hj; subst hp
  intro p l e s m args below meth c D cA ad A C hX H locs ls hP hD hS hl
  obtain ⟨x1, x2, x3, x4, x5⟩ := hX
  refine va_sld C.1 C.2.1 x2 x3 x4 hS (vp_in_nI hlt.1 (by omega)) hdg ?_
  rw [nI_clamp (by omega)]
  exact kk p l e s m args below meth c D cA ad A C ⟨x1, x2, x3, x4, x5⟩ H locs ls hP hD hS hl
theorem WG.slenN (hdg : decode cc pc = .ok (.arraylength, 1)) (hp : pc + 1 = pc') (kk : WG own cc nL rt R cs sl (zXL Ls xs) E pc' L (.int (nI Ls) :: st) h) : WG own cc nL rt R cs sl (zXL Ls xs) E pc L (.ref 3000 :: st) h := by
  subst hp
  intro p l e s m args below meth c D cA ad A C hX H locs ls hP hD hS hl
  obtain ⟨x1, x2, x3, x4, x5⟩ := hX
  exact va_slen C.1 C.2.1 x2 x3 x4 hS hdg (kk p l e s m args below meth c D cA ad A C ⟨x1, x2, x3, x4, x5⟩ H locs ls hP hD hS hl)
theorem zLend (hdg : decode code pc = .ok (.ireturn, 1)) : W_law Ls xs pc L [.int 1] h := by
  intro p l e s m args below meth c D cA ad A C hX H locs ls hP hD hS hl
  obtain ⟨x1, x2, x3, x4, x5⟩ := hX
  subst x5
  refine va_forget (fun q hq => hS.2.2 q hq) ?_
  refine W.widen (k := 600000) (n := 7302250) (by omega) (by omega) ?_
  rw [x1]
  show W p l e room_1 s m #[Value.ref (ad 3000)] below meth c H [] 600000 7302250 (lw_Z below #[Value.ref (ad 3000)] s) (F0 m pc ls [.int 1])
  exact lw_ret C.1 C.2.1 C.2.2.2.1 C.2.2.2.2.1 hdg
end zLawRows
