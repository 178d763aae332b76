section MMO
variable {p : Program} {l : Launch} {e : Env} {R : Room} {s : State} {m : MethodId} {args : Array Value} {below : List Frame} {meth : Method} {c : Code} {H : Heap} {locs : List Loc} {cells slots : Nat} {Q : State → Prop}
variable {cc : ByteArray} {pc nL : Nat} {ls : Array Slot} {rest : List Value} {G : mm_G} {A : Nat → Prop} {M : mm_M} {Ts : List Cond} {own : String}
theorem mm_news (S : CallFix p m c cc nL s args Ts own) (hC : mm_C G A s) (hA : ∀ q, s.heap.size ≤ q → A q) (hR : mm_R G s A M H locs) {n index : Nat} (hcl : Cond.classLink own index "ForkWatch$Statement" ∈ Ts) (hn : n ≤ 1000000) (hcells : cells + 1 ≤ R.cells) (hslots : slots + n ≤ R.slots) (hdg : decode cc pc = .ok (.anewarray index, 3))
    (kk : ∀ (q : Nat) (H1 : Heap) (M1 : mm_M), M q = none → M1 q = some (sa G n (fun _ => none)) → mm_fr [] M M1 → mm_R G s A M1 H1 locs → W p l e R s m args below meth c H1 locs (cells + 1) (slots + n) Q (F0 m (pc + 3) ls (.ref q :: rest))) : W p l e R s m args below meth c H locs cells slots Q (F0 m pc ls (.int (nI n) :: rest)) := by
  obtain ⟨⟨ws, hP, hD, hw⟩, hS⟩ := hR
  refine va_newq S.1 S.2.1 S.2.2.2.1 (S.2.2.2.2 _ hcl) hC.2.2.2.2.1.2.1.1 hC.1 hP hD hS hA (nI_pos (by omega)) (nI_clamp (by omega)) (by omega) hcells hslots hdg (fun q cA H1 hK1 hP1 hD1 hS1 => ?_)
  have e1 := va_nmO (hK1.2 3 (cA, .object "ForkWatch$Statement") rfl).2 rfl
  have e2 := va_nmO (hC.1.2 1 (G.2.1.2.1, .object "ForkWatch$Statement") rfl).2 rfl
  have e : cA = G.2.1.2.1 := Option.some.inj (e1.symm.trans e2)
  subst e
  exact kk q H1 _ (mm_push hD1 hw).2 (va_up_self ..) (mm_frn (mm_push hD1 hw).2) ⟨⟨_, hP1, hD1, (mm_push hD1 hw).1⟩, hS1⟩
theorem mm_newob (S : CallFix p m c cc nL s args Ts own) (hC : mm_C G A s) (hA : ∀ q, s.heap.size ≤ q → A q) (hR : mm_R G s A M H locs) {n index : Nat} (hcl : Cond.classLink own index "java/lang/Object" ∈ Ts) (hn : n ≤ 1000000) (hcells : cells + 1 ≤ R.cells) (hslots : slots + n ≤ R.slots) (hdg : decode cc pc = .ok (.anewarray index, 3))
    (kk : ∀ (q : Nat) (H1 : Heap) (M1 : mm_M), M q = none → M1 q = some (oa G n (fun _ => none)) → mm_fr [] M M1 → mm_R G s A M1 H1 locs → W p l e R s m args below meth c H1 locs (cells + 1) (slots + n) Q (F0 m (pc + 3) ls (.ref q :: rest))) : W p l e R s m args below meth c H locs cells slots Q (F0 m pc ls (.int (nI n) :: rest)) := by
  obtain ⟨⟨ws, hP, hD, hw⟩, hS⟩ := hR
  refine va_newq S.1 S.2.1 S.2.2.2.1 (S.2.2.2.2 _ hcl) hC.2.2.2.2.1.2.1.2 hC.1 hP hD hS hA (nI_pos (by omega)) (nI_clamp (by omega)) (by omega) hcells hslots hdg (fun q cA H1 hK1 hP1 hD1 hS1 => ?_)
  have e1 := va_nmO (hK1.2 3 (cA, .object "java/lang/Object") rfl).2 rfl
  have e2 := va_nmO (hC.1.2 2 (G.2.1.2.2, .object "java/lang/Object") rfl).2 rfl
  have e : cA = G.2.1.2.2 := Option.some.inj (e1.symm.trans e2)
  subst e
  exact kk q H1 _ (mm_push hD1 hw).2 (va_up_self ..) (mm_frn (mm_push hD1 hw).2) ⟨⟨_, hP1, hD1, (mm_push hD1 hw).1⟩, hS1⟩
/-- an object into an array of Object: said castable -/
theorem mm_oast (S : CallFix p m c cc nL s args Ts own) (hC : mm_C G A s) (hR : mm_R G s A M H locs) {a n : Nat} {f : Nat → Option Nat} (ha : M a = some (oa G n f)) {v ci : Nat} {r : vw_C} {fs : List Value} (hv : M v = some (ob ci fs)) (hc : vwCl[ci]? = some r) (hca : va_Nw (.castable r.1 "java/lang/Object") s) {j : Nat} (hj : j < n) (hn : n < 2 ^ 31) (hdg : decode cc pc = .ok (.aastore, 1))
    (kk : ∀ (H1 : Heap) (locs1 : List Loc) (M1 : mm_M), M1 a = some (oa G n (va_up f j (some v))) → mm_fr [a] M M1 → mm_R G s A M1 H1 locs1 → W p l e R s m args below meth c H1 locs1 cells slots Q (F0 m (pc + 1) ls rest)) : W p l e R s m args below meth c H locs cells slots Q (F0 m pc ls (.ref v :: .int (nI j) :: .ref a :: rest)) := by
  obtain ⟨⟨ws, hP, hD, hw⟩, hS⟩ := hR
  obtain ⟨i, hi⟩ := List.getElem?_of_mem ((hw _ _).mp ha)
  obtain ⟨i2, hi2⟩ := List.getElem?_of_mem ((hw _ _).mp hv)
  refine va_astqO S.1 S.2.1 hC.1 hP hD hS i 2 i2 ci hi rfl hca hi2 hc (vp_in_nI hj hn) hdg (fun H1 locs1 hP1 hD1 hS1 => ?_)
  rw [nI_clamp (Nat.lt_trans hj hn)] at hP1 hD1
  exact kk H1 locs1 _ (va_up_self ..) mm_fru ⟨⟨_, hP1, hD1, mm_set hD hi hw⟩, hS1⟩
/-- checkcast of an object of that very kind -/
theorem mm_cast (S : CallFix p m c cc nL s args Ts own) (hC : mm_C G A s) (hR : mm_R G s A M H locs) {a ci index : Nat} {r : vw_C} {fs : List Value} (ha : M a = some (ob ci fs)) (hc : vwCl[ci]? = some r) (hcl : Cond.classLink own index r.1 ∈ Ts) (hdg : decode cc pc = .ok (.checkcast index, 3))
    (kk : W p l e R s m args below meth c H locs cells slots Q (F0 m (pc + 3) ls (.ref a :: rest))) : W p l e R s m args below meth c H locs cells slots Q (F0 m pc ls (.ref a :: rest)) := by
  obtain ⟨⟨ws, hP, hD, hw⟩, hS⟩ := hR
  obtain ⟨i, hi⟩ := List.getElem?_of_mem ((hw _ _).mp ha)
  exact va_castS S.1 S.2.1 S.2.2.2.1 (S.2.2.2.2 _ hcl) (hC.1.1 ci r hc).2 (va_recv hC.1 hP hc hi) hdg kk
theorem mm_casti (S : CallFix p m c cc nL s args Ts own) (hC : mm_C G A s) (hR : mm_R G s A M H locs) {a n index : Nat} {f : Nat → Int32} (ha : M a = some (ia G n f)) (hcl : Cond.classLink own index "[I" ∈ Ts) (hdg : decode cc pc = .ok (.checkcast index, 3))
    (kk : W p l e R s m args below meth c H locs cells slots Q (F0 m (pc + 3) ls (.ref a :: rest))) : W p l e R s m args below meth c H locs cells slots Q (F0 m pc ls (.ref a :: rest)) := by
  obtain ⟨⟨ws, hP, hD, hw⟩, hS⟩ := hR
  obtain ⟨i, hi⟩ := List.getElem?_of_mem ((hw _ _).mp ha)
  exact va_castA S.1 S.2.1 S.2.2.2.1 (S.2.2.2.2 _ hcl) hP i hi (hC.1.2 0 (G.2.1.1, .int) rfl).2 hdg kk
theorem mm_clone (S : CallFix p m c cc nL s args Ts own) (hC : mm_C G A s) (hA : ∀ q, s.heap.size ≤ q → A q) (hR : mm_R G s A M H locs) (hls : ls.size = nL) {a n index : Nat} {f : Nat → Int32} (ha : M a = some (ia G n f)) (h1 : Cond.methodLink own index ⟨"[I", "clone", "()Ljava/lang/Object;"⟩ ∈ Ts) (h2 : Cond.sameMethod "[I" "java/lang/Object" "clone" "()Ljava/lang/Object;" ∈ Ts) (h3 : Cond.native ⟨"java/lang/Object", "clone", "()Ljava/lang/Object;"⟩ ∈ Ts) (h4 : Cond.instanceMethod ⟨"java/lang/Object", "clone", "()Ljava/lang/Object;"⟩ ∈ Ts) (h5 : Cond.selects "[I" ⟨"[I", "clone", "()Ljava/lang/Object;"⟩ ⟨"java/lang/Object", "clone", "()Ljava/lang/Object;"⟩ ∈ Ts)
    (hframes : 1 ≤ R.frames) (hlocals : (rest.map fun v => v.category).sum + 14 ≤ R.locals) (hcells : cells + 1 ≤ R.cells) (hslots : slots + n ≤ R.slots) (hdg : decode cc pc = .ok (.invokevirtual index, 3))
    (kk : ∀ (q : Nat) (H1 : Heap) (M1 : mm_M), M q = none → M1 q = some (ia G n f) → mm_fr [] M M1 → mm_R G s A M1 H1 locs → W p l e R s m args below meth c H1 locs (cells + 1) (slots + n) Q (F0 m (pc + 3) ls (.ref q :: rest))) : W p l e R s m args below meth c H locs cells slots Q (F0 m pc ls (.ref a :: rest)) := by
  obtain ⟨⟨ws, hP, hD, hw⟩, hS⟩ := hR
  obtain ⟨i, hi⟩ := List.getElem?_of_mem ((hw _ _).mp ha)
  refine va_clone S.1 S.2.1 (by rw [hls]; exact S.2.2.1) S.2.2.2.1 (S.2.2.2.2 _ h1) (S.2.2.2.2 _ h2) (S.2.2.2.2 _ h3) (S.2.2.2.2 _ h4) (S.2.2.2.2 _ h5) hC.2.2.2.2.1.2.2.2.2 hC.1 hP hD hS hA i 0 hi rfl (hC.1.2 0 (G.2.1.1, .int) rfl).2 (fun j v hv => ?_) hframes hlocals hcells hslots hdg (fun q H1 hK1 hP1 hD1 hS1 => kk q H1 _ (mm_push hD1 hw).2 (va_up_self ..) (mm_frn (mm_push hD1 hw).2) ⟨⟨_, hP1, hD1, (mm_push hD1 hw).1⟩, hS1⟩)
  have hlt := (Array.getElem?_eq_some_iff.mp hv).1
  have hlt' : j < n := by
    have e : (vp_cell G.2.1.1 (n, .inl f)).slots.size = n := arrV_size _ _ _
    omega
  have hv2 : (arrV G.2.1.1 n (fun j => .int (f j))).slots[j]? = some v := hv
  rw [arrV_read _ _ hlt'] at hv2
  cases hv2
  rfl
theorem mm_gempty (S : CallFix p m c cc nL s args Ts own) (hC : mm_C G A s) (hR : mm_R G s A M H locs) {index : Nat} (hl : Cond.fieldLink own index RJx4a65c "DEFAULTCAPACITY_EMPTY_ELEMENTDATA" "[Ljava/lang/Object;" ∈ Ts) (hdg : decode cc pc = .ok (.getstatic index, 3))
    (kk : W p l e R s m args below meth c H locs cells slots Q (F0 m (pc + 3) ls (.ref G.2.2.2.2.1 :: rest))) : W p l e R s m args below meth c H locs cells slots Q (F0 m pc ls rest) :=
  va_gets S.1 S.2.1 hC.2.2.2.1.1 hR.2 S.2.2.2.1 (S.2.2.2.2 _ hl) (fun _ h => h) hdg kk
theorem mm_lempty (S : CallFix p m c cc nL s args Ts own) (hC : mm_C G A s) (hR : mm_R G s A M H locs) (hdg : decode cc pc = .ok (.arraylength, 1))
    (kk : W p l e R s m args below meth c H locs cells slots Q (F0 m (pc + 1) ls (.int (nI 0) :: rest))) : W p l e R s m args below meth c H locs cells slots Q (F0 m pc ls (.ref G.2.2.2.2.1 :: rest)) :=
  va_tlen S.1 S.2.1 hC.2.2.2.1.2 hR.2 rfl hdg kk
theorem mm_Cempty (hC : mm_C G A s) (hR : mm_R G s A M H locs) : M G.2.2.2.2.1 = none := by
  obtain ⟨cell, h1, h2, h3, h4, h5, h6, h7⟩ := hC.2.2.2.1.2
  cases hq : M G.2.2.2.2.1 with
  | none => rfl
  | some e => exact absurd (hR.1.in hq).1 h7
theorem mm_max (S : CallFix p m c cc nL s args Ts own) (hls : ls.size = nL) {index : Nat} (h1 : Cond.methodLink own index Lib.Math.max.name ∈ Ts) (h2 : Cond.static Lib.Math.max.name ∈ Ts) (h3 : Cond.initialized "java/lang/Math" ∈ Ts) (h4 : Cond.code Lib.Math.max.name Lib.Math.max.code 2 (some .int) ∈ Ts) (hframes : 1 ≤ R.frames) (hlocals : (rest.map fun v => v.category).sum + 13 ≤ R.locals) (hc : cells ≤ R.cells) (hs : slots ≤ R.slots) {x y : Nat} (hx : x < 2 ^ 31) (hy : y < 2 ^ 31) (hdg : decode cc pc = .ok (.invokestatic index, 3))
    (kk : W p l e R s m args below meth c H locs cells slots Q (F0 m (pc + 3) ls (.int (nI (max x y)) :: rest))) : W p l e R s m args below meth c H locs cells slots Q (F0 m pc ls (.int (nI y) :: .int (nI x) :: rest)) := by
  refine va_mmax S.1 S.2.1 (by rw [hls]; exact S.2.2.1) S.2.2.2.1 (S.2.2.2.2 _ h1) (S.2.2.2.2 _ h2) (S.2.2.2.2 _ h3) (S.2.2.2.2 _ h4) hframes hlocals hc hs hdg ?_
  have e : (if nI x < nI y then nI y else nI x) = nI (max x y) := by
    by_cases h : x < y
    · rw [if_pos ((nI_ltI hx hy).mpr h), Nat.max_eq_right (by omega)]
    · rw [if_neg (fun z => h ((nI_ltI hx hy).mp z)), Nat.max_eq_left (by omega)]
  rw [e]
  exact kk
theorem mm_min (S : CallFix p m c cc nL s args Ts own) (hls : ls.size = nL) {index : Nat} (h1 : Cond.methodLink own index Lib.Math.min.name ∈ Ts) (h2 : Cond.static Lib.Math.min.name ∈ Ts) (h3 : Cond.initialized "java/lang/Math" ∈ Ts) (h4 : Cond.code Lib.Math.min.name Lib.Math.min.code 2 (some .int) ∈ Ts) (hframes : 1 ≤ R.frames) (hlocals : (rest.map fun v => v.category).sum + 13 ≤ R.locals) (hc : cells ≤ R.cells) (hs : slots ≤ R.slots) {x y : Nat} (hx : x < 2 ^ 31) (hy : y < 2 ^ 31) (hdg : decode cc pc = .ok (.invokestatic index, 3))
    (kk : W p l e R s m args below meth c H locs cells slots Q (F0 m (pc + 3) ls (.int (nI (min x y)) :: rest))) : W p l e R s m args below meth c H locs cells slots Q (F0 m pc ls (.int (nI y) :: .int (nI x) :: rest)) := by
  refine va_mmin S.1 S.2.1 (by rw [hls]; exact S.2.2.1) S.2.2.2.1 (S.2.2.2.2 _ h1) (S.2.2.2.2 _ h2) (S.2.2.2.2 _ h3) (S.2.2.2.2 _ h4) hframes hlocals hc hs hdg ?_
  have e : (if nI y < nI x then nI y else nI x) = nI (min x y) := by
    by_cases h : y < x
    · rw [if_pos ((nI_ltI hy hx).mpr h), Nat.min_eq_right (by omega)]
    · rw [if_neg (fun z => h ((nI_ltI hy hx).mp z)), Nat.min_eq_left (by omega)]
  rw [e]
  exact kk
/-- arraycopy between arrays of Object whose elements are Operations -/
theorem mm_copyo (S : CallFix p m c cc nL s args Ts own) (hC : mm_C G A s) (hR : mm_R G s A M H locs) (hls : ls.size = nL) {a0 a1 n0 n1 index : Nat} {f g : Nat → Option Nat} (ha0 : M a0 = some (oa G n0 f)) (ha1 : M a1 = some (oa G n1 g)) (hl : Cond.methodLink own index arraycopyName ∈ Ts) (hnat : Cond.native arraycopyName ∈ Ts) (hstat : Cond.static arraycopyName ∈ Ts) (hini : Cond.initialized "java/lang/System" ∈ Ts)
    {sp dp n : Nat} (h4 : sp + n ≤ n0) (h5 : dp + n ≤ n1) (hb0 : n0 < 2 ^ 31) (hb1 : n1 < 2 ^ 31) (hel : ∀ i, i < n → ∀ y, f (sp + i) = some y → ∃ fs, M y = some (ob 4 fs)) (hframes : 1 ≤ R.frames) (hlocals : (rest.map fun v => v.category).sum + (nativeFrameWords "java/lang/System" "arraycopy" 5 + 11) ≤ R.locals) (hdg : decode cc pc = .ok (.invokestatic index, 3))
    (kk : ∀ (H1 : Heap) (locs1 : List Loc) (M1 : mm_M), M1 a1 = some (oa G n1 (va_cpy f g sp dp n)) → mm_fr [a1] M M1 → mm_R G s A M1 H1 locs1 → W p l e R s m args below meth c H1 locs1 cells slots Q (F0 m (pc + 3) ls rest)) : W p l e R s m args below meth c H locs cells slots Q (F0 m pc ls (.int (nI n) :: .int (nI dp) :: .ref a1 :: .int (nI sp) :: .ref a0 :: rest)) := by
  obtain ⟨⟨ws, hP, hD, hw⟩, hS⟩ := hR
  obtain ⟨i0, hi0⟩ := List.getElem?_of_mem ((hw _ _).mp ha0)
  obtain ⟨i1, hi1⟩ := List.getElem?_of_mem ((hw _ _).mp ha1)
  have e1 : (nI sp).toNatClampNeg = sp := nI_clamp (by omega)
  have e2 : (nI dp).toNatClampNeg = dp := nI_clamp (by omega)
  have e3 : (nI n).toNatClampNeg = n := nI_clamp (by omega)
  refine va_copyM S.1 S.2.1 (by rw [hls]; exact S.2.2.1) S.2.2.2.1 (S.2.2.2.2 _ hl) (S.2.2.2.2 _ hnat) (S.2.2.2.2 _ hstat) (S.2.2.2.2 _ hini) hC.1 hP hD hS i0 i1 2 2 hi0 hi1 rfl rfl (nI_pos (by omega)) (nI_pos (by omega)) (nI_pos (by omega)) (by rw [e1, e3]; exact h4) (by rw [e2, e3]; exact h5) (fun i hi y hy => ?_) hframes hlocals hdg (fun H1 locs1 hP1 hD1 hS1 => ?_)
  · rw [e3] at hi
    rw [e1] at hy
    obtain ⟨fs, hfs⟩ := hel i hi y hy
    obtain ⟨i2, hi2⟩ := List.getElem?_of_mem ((hw _ _).mp hfs)
    refine va_rAny (r := (RX3, TX3, 5)) hC.1 hP hi2 rfl (fun comp c0 g1 g2 => ?_)
    obtain ⟨c1, t1, f1, f2, f3⟩ := Cond.castable_spec (va_Nw.use (A := args) rfl hC.2.2.2.2.1.2.2.1.2)
    cases g1.symm.trans f2
    cases g2.symm.trans f1
    exact f3
  · rw [e1, e2, e3] at hP1 hD1
    exact kk H1 locs1 _ (va_up_self ..) mm_fru ⟨⟨_, hP1, hD1, mm_set hD hi1 hw⟩, hS1⟩
end MMO
