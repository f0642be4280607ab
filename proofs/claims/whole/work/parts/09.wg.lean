/-! the words that stay good over calls -/
def ztb : List Cond := lw_tbl.filter goodWord
theorem zin {w : Cond} (h : w ∈ lw_tbl) (g : goodWord w = true) : w ∈ ztb := List.mem_filter.mpr ⟨h, g⟩
theorem zat {w : Cond} (i : Nat) (h : lw_tbl[i]? = some w) (g : goodWord w = true) : w ∈ ztb := zin (List.mem_of_getElem? h) g
theorem zin_u {C : String} {T : u_T} {N : Nat} (h : ∀ w ∈ u_ws C T N, w ∈ lw_tbl) (g : (u_ws C T N).all goodWord = true) : ∀ w ∈ u_ws C T N, w ∈ ztb := fun w hw => zin (h w hw) (List.all_eq_true.mp g w hw)
/-! the texts of the reader's forms: their places in the class file, their letters -/
def zix (i : Nat) : Nat := [22, 70, 72, 74, 76, 78].getD i 0
def ztx (i : Nat) : String := ["", "~,~*#;", "#:~,~*#;", "#=#,#;", "#;", ";"].getD i ""
def zlen : List Nat := [0, 6, 8, 6, 2, 1]
def zbyt : List (List Int32) := [[], [126, 44, 126, 42, 35, 59], [35, 58, 126, 44, 126, 42, 35, 59], [35, 61, 35, 44, 35, 59], [35, 59], [59]]
def zT (ad : Nat → Nat) (A : Nat → Prop) (U : State) (H : Heap) : Prop :=
  vk_S 6 zlen zbyt (fun i => ad (1000 + i)) (fun i => ad (2000 + i)) A U H ∧ (∀ i, i < 6 → vk_R RX2 (zix i) (ztx i) (ad (1000 + i)) U) ∧ va_Z "java/lang/String" "COMPACT_STRINGS" "Z" (.int 1) A U H ∧ va_Zq "jdk/internal/util/Preconditions" "SIOOBE_FORMATTER" "Ljava/util/function/BiFunction;" A U H
/-- the text's facts at a callee's start -/
theorem zT_call {ad : Nat → Nat} {A B : Nat → Prop} {s U : State} {H : Heap} {locs : List Loc} (h : zT ad A s s.heap) (hS : va_S A s.heap H locs) (hB : ∀ q, B q → A q) (hU : U.heap = H) (hW : s.WarmedH U.vm) : zT ad B U U.heap := by
  obtain ⟨h1, h2, h3, h4⟩ := h
  have hk : ∀ a : Nat, a < s.heap.size → ¬ A a → H[a]? = s.heap[a]? := hS.2.1
  rw [hU]
  exact ⟨((h1.kept hk).narrow hB).moved hW.alike, fun i hi => (h2 i hi).warm hW, ((h3.kept hk).narrow hB).moved hW.alike, ((h4.kept hk).narrow hB).moved hW.alike⟩
theorem zT_same {ad : Nat → Nat} {A : Nat → Prop} {s U : State} (hv : U.vm = s.vm) (hh : U.heap = s.heap) (h : zT ad A s s.heap) : zT ad A U U.heap := by
  obtain ⟨h1, h2, h3, h4⟩ := h
  have ha : s.vm.Alike U.vm := by rw [hv]; exact Vm.Alike.refl _
  rw [hh]
  exact ⟨h1.moved ha, fun i hi => (h2 i hi).same hv, h3.moved ha, h4.moved ha⟩
abbrev zXP : Type := Array Value → State → (Nat → Nat) → (Nat → Prop) → Prop
abbrev zEP : Type := List Frame → Array Value → State → va_G → (Nat → ClassId) → (Nat → Nat) → (Nat → Prop) → State → Prop
def zCx (own : String) (cc : ByteArray) (nL : Nat) (rt : Option FieldType) (p : Program) (s : State) (m : MethodId) (args : Array Value) (meth : Method) (c : Code) (D : va_G) (cA : Nat → ClassId) (ad : Nat → Nat) (A : Nat → Prop) : Prop :=
  p.tables.exec = Jvm.exec ∧ c.code = cc ∧ c.maxLocals = nL ∧ meth.sig.returnType = rt ∧ meth.locks = false ∧ s.vm.findClass own = some m.cls ∧ (∀ w ∈ ztb, w.before args s = true) ∧ va_K D vwCl (ztys cA) s ∧ (∀ q, s.heap.size ≤ q → A q) ∧ zT ad A s s.heap
def WG (own : String) (cc : ByteArray) (nL : Nat) (rt : Option FieldType) (R : Room) (cs sl : Nat) (X : zXP) (E : zEP) (pc : Nat) (L : List (Option Value)) (st : List Value) (h : zH) : Prop :=
  ∀ (p : Program) (l : Launch) (e : Env) (s : State) (m : MethodId) (args : Array Value) (below : List Frame) (meth : Method) (c : Code) (D : va_G) (cA : Nat → ClassId) (ad : Nat → Nat) (A : Nat → Prop),
    zCx own cc nL rt p s m args meth c D cA ad A → X args s ad A → ∀ (H : Heap) (locs : List Loc) (ls : Array Slot), va_P D vwCl (zW cA ad h) H → va_D A (zW cA ad h) → va_S A s.heap H locs → zlh ad ls nL L →
    W p l e R s m args below meth c H locs cs sl (E below args s D cA ad A) (F0 m pc ls (st.map (zt ad)))
/-- a method's end -/
def zQC (D : va_G) (cA : Nat → ClassId) (ad : Nat → Nat) (A : Nat → Prop) (Q : Option Value → zH → Prop) : Array Value → State → Outcome → State → Prop := fun _ st oc t =>
  (∃ (r : Option Value) (h : zH), oc = .returned (r.map (zt ad)) ∧ Q r h ∧ va_P D vwCl (zW cA ad h) t.heap ∧ va_D A (zW cA ad h)) ∧ va_F A st t
def zEm (Q : Option Value → zH → Prop) : zEP := fun below args s D cA ad A => MQ below (zQC D cA ad A Q) args s 0 0 A
def zX0 : zXP := fun _ _ _ _ => True
def zAD (ad : Nat → Nat) (sz : Nat) : Nat → Prop := fun q => (∃ k, k < 101 ∧ q = ad k) ∨ sz ≤ q
theorem zSH_len : zSH.length = 101 := by decide +kernel
theorem zW_get {cA : Nat → ClassId} {ad : Nat → Nat} {h : zH} {k : Nat} {q : Nat × va_E} (e : (zW cA ad h)[k]? = some q) : k < 101 ∧ q.1 = ad k := by
  have hl : k < (zW cA ad h).length := (List.getElem?_eq_some_iff.mp e).1
  have hl2 : k < zSH.length := by simpa [zW] using hl
  refine ⟨by rw [← zSH_len]; exact hl2, ?_⟩
  rw [zW_at (List.getElem?_eq_getElem hl2)] at e
  cases e
  rfl
theorem zW_ex {cA : Nat → ClassId} {ad : Nat → Nat} {h : zH} {k : Nat} (hk : k < 101) : ∃ x, (zW cA ad h)[k]? = some (ad k, x) := ⟨_, zW_at (List.getElem?_eq_getElem (by rw [zSH_len]; exact hk))⟩
theorem zAD_eq (cA : Nat → ClassId) (ad : Nat → Nat) (h : zH) (sz : Nat) : va_A (zW cA ad h) sz = zAD ad sz := by
  funext q
  apply propext
  constructor
  · rintro (⟨k, x, e⟩ | e)
    · obtain ⟨a, b⟩ := zW_get e
      exact Or.inl ⟨k, a, b⟩
    · exact Or.inr e
  · rintro (⟨k, hk, e⟩ | e)
    · obtain ⟨x, hx⟩ := zW_ex (cA := cA) (ad := ad) (h := h) hk
      exact Or.inl ⟨k, x, by rw [hx, e]⟩
    · exact Or.inr e
/-- the addresses are apart whatever the cells hold -/
theorem zD_of {A B : Nat → Prop} {cA : Nat → ClassId} {ad : Nat → Nat} {h h' : zH} (hD : va_D A (zW cA ad h)) (hB : ∀ k, k < 101 → A (ad k) → B (ad k)) : va_D B (zW cA ad h') := by
  refine ⟨fun i j p q hi hj e => ?_, fun k q hk => ?_⟩
  · obtain ⟨a1, a2⟩ := zW_get hi
    obtain ⟨b1, b2⟩ := zW_get hj
    obtain ⟨x, hx⟩ := zW_ex (cA := cA) (ad := ad) (h := h) a1
    obtain ⟨y, hy⟩ := zW_ex (cA := cA) (ad := ad) (h := h) b1
    exact hD.1 i j _ _ hx hy (by dsimp only; rw [← a2, ← b2]; exact e)
  · obtain ⟨a1, a2⟩ := zW_get hk
    obtain ⟨x, hx⟩ := zW_ex (cA := cA) (ad := ad) (h := h) a1
    rw [a2]
    exact hB k a1 (hD.2 k _ hx)
/-- a method's contract: from the heap h with the arguments as it returns, and Q of answer and heap -/
def CT (y : MethodName) (cc : ByteArray) (nL : Nat) (rt : Option FieldType) (R : Room) (as : List Value) (h : zH) (Q : Option Value → zH → Prop) : Prop :=
  ∀ (l : Launch) (D : va_G) (cA : Nat → ClassId) (ad : Nat → Nat) (sz : Nat), Met l y (Cond.code y cc nL rt :: ztb) R
    (va_Pc (as.map (zt ad)) (fun U => U.heap.size = sz ∧ va_P D vwCl (zW cA ad h) U.heap ∧ va_K D vwCl (ztys cA) U ∧ va_D (fun _ => True) (zW cA ad h) ∧ zT ad (zAD ad sz) U U.heap)) (zQC D cA ad (zAD ad sz) Q) 0 0 (zAD ad sz)
theorem zblind {as : List Value} {D : va_G} {cA : Nat → ClassId} {ad : Nat → Nat} {h : zH} {sz : Nat} : FrameBlind (va_Pc as (fun U => U.heap.size = sz ∧ va_P D vwCl (zW cA ad h) U.heap ∧ va_K D vwCl (ztys cA) U ∧ va_D (fun _ => True) (zW cA ad h) ∧ zT ad (zAD ad sz) U U.heap)) := by
  intro a U g mk q
  obtain ⟨q0, q1, qP, qK, qD, qT⟩ := q
  exact ⟨q0, q1, qP, va_K.moved (u := U) (U := U.calling g mk a) (Vm.Alike.refl U.vm) qK, qD, zT_same (s := U) rfl rfl qT⟩
/-- where the locals stand at the entry -/
def zent : Nat → List Value → List (Option Value)
  | n, [] => List.replicate n none
  | n, .long v :: vs => some (.long v) :: none :: zent (n - 2) vs
  | n, .double v :: vs => some (.double v) :: none :: zent (n - 2) vs
  | n, v :: vs => some v :: zent (n - 1) vs
theorem zg_rep : ∀ (n i : Nat), zg (List.replicate n none) i = none := by
  intro n
  induction n with
  | zero => intro i; rfl
  | succ n ih => intro i; cases i with
    | zero => rfl
    | succ i => exact ih i
theorem zent_in {ad : Nat → Nat} : ∀ (vs : List Value) (n b j : Nat) (v : Value), zg (zent n vs) j = some v → (b + j, zt ad v) ∈ lv_args b (vs.map (zt ad)) := by
  intro vs
  induction vs with
  | nil => intro n b j v h; simp [zent, zg_rep] at h
  | cons w t ih =>
    intro n b j v h
    have one : ∀ (hc : w.category = 1), zg (some w :: zent (n - 1) t) j = some v → (b + j, zt ad v) ∈ lv_args b ((w :: t).map (zt ad)) := by
      intro hc h
      cases j with
      | zero => simp [zg] at h; subst h; simp [lv_args]
      | succ j =>
        simp only [zg] at h
        have := ih (n - 1) (b + 1) j v h
        simp only [List.map_cons, lv_args, zt_cat, hc]
        refine List.mem_cons_of_mem _ ?_
        rw [if_neg (by decide), show b + (j + 1) = b + 1 + j by omega]
        exact this
    have two : ∀ (hc : w.category = 2), zg (some w :: none :: zent (n - 2) t) j = some v → (b + j, zt ad v) ∈ lv_args b ((w :: t).map (zt ad)) := by
      intro hc h
      match j with
      | 0 => simp [zg] at h; subst h; simp [lv_args]
      | 1 => simp [zg] at h
      | j + 2 =>
        simp only [zg] at h
        have := ih (n - 2) (b + 2) j v h
        simp only [List.map_cons, lv_args, zt_cat, hc]
        refine List.mem_cons_of_mem _ ?_
        rw [if_pos trivial, show b + (j + 2) = b + 2 + j by omega]
        exact this
    cases w with
    | long x => exact two rfl h
    | double x => exact two rfl h
    | int x => exact one rfl h
    | float x => exact one rfl h
    | null => exact one rfl h
    | ref x => exact one rfl h
    | retAddr x => exact one rfl h
theorem zlh_entry {ad : Nat → Nat} {vs : List Value} {n : Nat} (hn : ((vs.map Value.category).sum) ≤ n) : zlh ad ((lg_sl (vs.map (zt ad)) ++ List.replicate (n - (lg_sl (vs.map (zt ad))).length) Slot.unset).toArray) n (zent n vs) := by
  have hlen : ∀ vs : List Value, (lg_sl (vs.map (zt ad))).length = (vs.map Value.category).sum := by
    intro vs
    induction vs with
    | nil => rfl
    | cons w t ih =>
      have h1 : lg_sl ((w :: t).map (zt ad)) = (if (zt ad w).category = 2 then [Slot.val (zt ad w), .second] else [.val (zt ad w)]) ++ lg_sl (t.map (zt ad)) := by simp [lg_sl]
      rw [h1, List.length_append, ih, zt_cat]
      rcases lv_cat w with h | h <;> simp [h]
  have h := lv_entry (vs.map (zt ad)) (n := n) (by rw [hlen]; exact hn)
  refine ⟨h.1, h.2.1, fun q hq => h.2.2 q ?_⟩
  obtain ⟨v, hv, e⟩ := zprs_of hq
  obtain ⟨j, w⟩ := q
  dsimp only at hv e
  subst e
  have := zent_in (ad := ad) vs n 0 j v hv
  rwa [Nat.zero_add] at this
/-- a contract out of a walk -/
theorem CT.of {y : MethodName} {own : String} {cc : ByteArray} {nL : Nat} {rt : Option FieldType} {R : Room} {as : List Value} {L : List (Option Value)} {h : zH} {Q : Option Value → zH → Prop} (hy : plainName y.cls = true) (ho : y.cls = own) (hn : (as.map Value.category).sum ≤ nL) (hL : zent nL as = L)
    (k : WG own cc nL rt R 0 0 zX0 (zEm Q) 0 L [] h) : CT y cc nL rt R as h Q := by
  intro l D cA ad sz
  refine Met.ofW (cc := cc) (maxL := nL) (ret := rt) hy rfl ?_
  intro p e s m args below meth c s₁ B hml hv
  obtain ⟨rfl, hsz, hP, hK, hD0, hT⟩ := hv
  subst hsz
  have hts := atoms_spec (ws := Cond.code y cc nL rt :: ztb) B.pre
  have hown : s.vm.findClass own = some m.cls := ho ▸ findClass_of_methodNamed B.named
  have hD : va_D (zAD ad s.heap.size) (zW cA ad h) := zD_of hD0 (fun k hk _ => Or.inl ⟨k, hk, rfl⟩)
  rw [lg_entry_eq]
  subst hL
  exact k p l e s m (as.map (zt ad)).toArray below meth c D cA ad (zAD ad s.heap.size) ⟨B.exec, B.bytes, hml, B.returns, B.notSynchronized, hown, fun w hw => hts w (List.mem_cons_of_mem _ hw), hK, fun q hq => Or.inr hq, hT⟩ trivial s.heap [] _ hP hD va_S.rf (zlh_entry hn)
theorem CT.mono {y : MethodName} {cc : ByteArray} {nL : Nat} {rt : Option FieldType} {R : Room} {as : List Value} {h : zH} {Q Q' : Option Value → zH → Prop} (k : CT y cc nL rt R as h Q) (hq : ∀ r h', Q r h' → Q' r h') : CT y cc nL rt R as h Q' := by
  intro l D cA ad sz p e ha hc hk s m args below hf happ hP hK
  obtain ⟨n, o, h1, h2, h3, ⟨⟨r, h9, e1, e2, e3⟩, e4⟩, h5⟩ := k l D cA ad sz p e ha hc hk s m args below hf happ hP hK
  exact ⟨n, o, h1, h2, h3, ⟨⟨r, h9, e1, hq _ _ e2, e3⟩, e4⟩, h5⟩

