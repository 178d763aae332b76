section MMR
variable {p : Program} {l : Launch} {e : Env} {R : Room} {s : State} {m : MethodId} {args : Array Value} {below : List Frame} {meth : Method} {c : Code} {H : Heap} {locs : List Loc} {cells slots : Nat} {Q : State → Prop}
variable {cc : ByteArray} {pc nL : Nat} {ls : Array Slot} {rest : List Value} {G : mm_G} {A : Nat → Prop} {M : mm_M} {Ts : List Cond} {own : String}
theorem mm_get (S : CallFix p m c cc nL s args Ts own) (hC : mm_C G A s) (hR : mm_R G s A M H locs) {a ci N index : Nat} {C ref : String} {T : u_T} {fs : List Value} (k : Nat) {v : Value} (ha : M a = some (.inr (ci, fs))) (hin : ∀ w ∈ u_ws C T N, w ∈ Ts) (hc : vwCl[ci]? = some (C, T, N)) (hk : k < N) (hl : Cond.fieldLink own index ref (T k).2.1 (T k).2.2.1 ∈ Ts) (hsame : ∀ x, s.fieldFound? (T k).1 (T k).2.1 (T k).2.2.1 = some x → s.fieldFound? ref (T k).2.1 (T k).2.2.1 = some x) (hv : fs[k]? = some v) (hdg : decode cc pc = .ok (.getfield index, 3))
    (kk : W p l e R s m args below meth c H locs cells slots Q (F0 m (pc + 3) ls (v :: rest))) : W p l e R s m args below meth c H locs cells slots Q (F0 m pc ls (.ref a :: rest)) := by
  obtain ⟨⟨ws, hP, hD, hw⟩, hS⟩ := hR
  obtain ⟨j, hj⟩ := List.getElem?_of_mem ((hw _ _).mp ha)
  exact va_get S.1 S.2.1 S.2.2.2.2 hin S.2.2.2.1 hC.1 hP j hj hc k hk (S.2.2.2.2 _ hl) hsame hv hdg kk
theorem mm_put (S : CallFix p m c cc nL s args Ts own) (hC : mm_C G A s) (hR : mm_R G s A M H locs) {a ci N index : Nat} {C ref : String} {T : u_T} {fs : List Value} (k : Nat) {v : Value} (ha : M a = some (.inr (ci, fs))) (hin : ∀ w ∈ u_ws C T N, w ∈ Ts) (hc : vwCl[ci]? = some (C, T, N)) {ty0 : Nat → FieldType} (hty : ∀ k, k < N → parseFieldDescriptor (T k).2.2.1 = some (ty0 k)) (hnm : ∀ a, a < N → ∀ b, b < N → a ≠ b → (T a).2.1 ≠ (T b).2.1) (hk : k < N) (hl : Cond.fieldLink own index ref (T k).2.1 (T k).2.2.1 ∈ Ts) (hsame : ∀ x, s.fieldFound? (T k).1 (T k).2.1 (T k).2.2.1 = some x → s.fieldFound? ref (T k).2.1 (T k).2.2.1 = some x) (hfin : (T k).2.2.2 = false) (hn : narrow (ty0 k) v = v) (hfit : fits (ty0 k) v = true) (hlen : k < fs.length) (hdg : decode cc pc = .ok (.putfield index, 3))
    (kk : ∀ (H1 : Heap) (locs1 : List Loc), ∀ M1 : mm_M, M1 a = some (.inr (ci, fs.set k v)) → mm_fr [a] M M1 → mm_R G s A M1 H1 locs1 → W p l e R s m args below meth c H1 locs1 cells slots Q (F0 m (pc + 3) ls rest)) : W p l e R s m args below meth c H locs cells slots Q (F0 m pc ls (v :: .ref a :: rest)) := by
  obtain ⟨⟨ws, hP, hD, hw⟩, hS⟩ := hR
  obtain ⟨j, hj⟩ := List.getElem?_of_mem ((hw _ _).mp ha)
  exact va_put S.1 S.2.1 S.2.2.2.2 hin ty0 hty hnm S.2.2.2.1 hC.1 hP hD hS j hj hc k hk (S.2.2.2.2 _ hl) hsame hfin (hty k hk) hn hfit hlen hdg (fun H1 locs1 hP1 hD1 hS1 => kk H1 locs1 _ (va_up_self ..) mm_fru ⟨⟨_, hP1, hD1, mm_set hD hj hw⟩, hS1⟩)
theorem mm_putF (S : CallFix p m c cc nL s args Ts own) (hC : mm_C G A s) (hR : mm_R G s A M H locs) {a ci N index : Nat} {C ref : String} {T : u_T} {fs : List Value} (k : Nat) {v : Value} (ha : M a = some (.inr (ci, fs))) (hin : ∀ w ∈ u_ws C T N, w ∈ Ts) (hc : vwCl[ci]? = some (C, T, N)) {ty0 : Nat → FieldType} (hty : ∀ k, k < N → parseFieldDescriptor (T k).2.2.1 = some (ty0 k)) (hnm : ∀ a, a < N → ∀ b, b < N → a ≠ b → (T a).2.1 ≠ (T b).2.1) (hk : k < N) (hl : Cond.fieldLink own index ref (T k).2.1 (T k).2.2.1 ∈ Ts) (hsame : ∀ x, s.fieldFound? (T k).1 (T k).2.1 (T k).2.2.1 = some x → s.fieldFound? ref (T k).2.1 (T k).2.2.1 = some x) (hfin : (T k).2.2.2 = true) (hin2 : meth.name = "<init>") (hdecl : (T k).1 = own) (hn : narrow (ty0 k) v = v) (hfit : fits (ty0 k) v = true) (hlen : k < fs.length) (hdg : decode cc pc = .ok (.putfield index, 3))
    (kk : ∀ (H1 : Heap) (locs1 : List Loc), ∀ M1 : mm_M, M1 a = some (.inr (ci, fs.set k v)) → mm_fr [a] M M1 → mm_R G s A M1 H1 locs1 → W p l e R s m args below meth c H1 locs1 cells slots Q (F0 m (pc + 3) ls rest)) : W p l e R s m args below meth c H locs cells slots Q (F0 m pc ls (v :: .ref a :: rest)) := by
  obtain ⟨⟨ws, hP, hD, hw⟩, hS⟩ := hR
  obtain ⟨j, hj⟩ := List.getElem?_of_mem ((hw _ _).mp ha)
  exact va_putF S.1 S.2.1 S.2.2.2.2 hin ty0 hty hnm S.2.2.2.1 hC.1 hP hD hS j hj hc k hk (S.2.2.2.2 _ hl) hsame hfin hin2 hdecl (hty k hk) hn hfit hlen hdg (fun H1 locs1 hP1 hD1 hS1 => kk H1 locs1 _ (va_up_self ..) mm_fru ⟨⟨_, hP1, hD1, mm_set hD hj hw⟩, hS1⟩)
theorem mm_iald (S : CallFix p m c cc nL s args Ts own) (hC : mm_C G A s) (hR : mm_R G s A M H locs) {a n : Nat} {f : Nat → Int32} (ha : M a = some (ia G n f)) {j : Nat} (hj : j < n) (hn : n < 2 ^ 31) (hdg : decode cc pc = .ok (.iaload, 1))
    (kk : W p l e R s m args below meth c H locs cells slots Q (F0 m (pc + 1) ls (.int (f j) :: rest))) : W p l e R s m args below meth c H locs cells slots Q (F0 m pc ls (.int (nI j) :: .ref a :: rest)) := by
  obtain ⟨⟨ws, hP, hD, hw⟩, hS⟩ := hR
  obtain ⟨i, hi⟩ := List.getElem?_of_mem ((hw _ _).mp ha)
  refine va_iald S.1 S.2.1 hC.1 hP i 0 hi rfl (vp_in_nI hj hn) hdg ?_
  rw [nI_clamp (Nat.lt_trans hj hn)]
  exact kk
theorem mm_iast (S : CallFix p m c cc nL s args Ts own) (hC : mm_C G A s) (hR : mm_R G s A M H locs) {a n : Nat} {f : Nat → Int32} (ha : M a = some (ia G n f)) {j : Nat} {x : Int32} (hj : j < n) (hn : n < 2 ^ 31) (hdg : decode cc pc = .ok (.iastore, 1))
    (kk : ∀ (H1 : Heap) (locs1 : List Loc), ∀ M1 : mm_M, M1 a = some (ia G n (upd f j x)) → mm_fr [a] M M1 → mm_R G s A M1 H1 locs1 → W p l e R s m args below meth c H1 locs1 cells slots Q (F0 m (pc + 1) ls rest)) : W p l e R s m args below meth c H locs cells slots Q (F0 m pc ls (.int x :: .int (nI j) :: .ref a :: rest)) := by
  obtain ⟨⟨ws, hP, hD, hw⟩, hS⟩ := hR
  obtain ⟨i, hi⟩ := List.getElem?_of_mem ((hw _ _).mp ha)
  refine va_iast S.1 S.2.1 hC.1 hP hD hS i 0 hi rfl (vp_in_nI hj hn) hdg (fun H1 locs1 hP1 hD1 hS1 => ?_)
  rw [nI_clamp (Nat.lt_trans hj hn)] at hP1 hD1
  exact kk H1 locs1 _ (va_up_self ..) mm_fru ⟨⟨_, hP1, hD1, mm_set hD hi hw⟩, hS1⟩
theorem mm_ilen (S : CallFix p m c cc nL s args Ts own) (hC : mm_C G A s) (hR : mm_R G s A M H locs) {a n : Nat} {f : Nat → Int32} (ha : M a = some (ia G n f)) (hdg : decode cc pc = .ok (.arraylength, 1))
    (kk : W p l e R s m args below meth c H locs cells slots Q (F0 m (pc + 1) ls (.int (nI n) :: rest))) : W p l e R s m args below meth c H locs cells slots Q (F0 m pc ls (.ref a :: rest)) := by
  obtain ⟨⟨ws, hP, hD, hw⟩, hS⟩ := hR
  obtain ⟨i, hi⟩ := List.getElem?_of_mem ((hw _ _).mp ha)
  exact va_alen S.1 S.2.1 hC.1 hP i 0 hi rfl rfl hdg kk
theorem mm_olen (S : CallFix p m c cc nL s args Ts own) (hC : mm_C G A s) (hR : mm_R G s A M H locs) {a n : Nat} {f : Nat → Option Nat} (ha : M a = some (oa G n f)) (hdg : decode cc pc = .ok (.arraylength, 1))
    (kk : W p l e R s m args below meth c H locs cells slots Q (F0 m (pc + 1) ls (.int (nI n) :: rest))) : W p l e R s m args below meth c H locs cells slots Q (F0 m pc ls (.ref a :: rest)) := by
  obtain ⟨⟨ws, hP, hD, hw⟩, hS⟩ := hR
  obtain ⟨i, hi⟩ := List.getElem?_of_mem ((hw _ _).mp ha)
  exact va_alen S.1 S.2.1 hC.1 hP i 2 hi rfl rfl hdg kk
theorem mm_sald (S : CallFix p m c cc nL s args Ts own) (hC : mm_C G A s) (hR : mm_R G s A M H locs) {a n : Nat} {f : Nat → Option Nat} (ha : M a = some (sa G n f)) {j : Nat} (hj : j < n) (hn : n < 2 ^ 31) {v : Value} (hv : va_rf (f j) = v) (hdg : decode cc pc = .ok (.aaload, 1))
    (kk : W p l e R s m args below meth c H locs cells slots Q (F0 m (pc + 1) ls (v :: rest))) : W p l e R s m args below meth c H locs cells slots Q (F0 m pc ls (.int (nI j) :: .ref a :: rest)) := by
  obtain ⟨⟨ws, hP, hD, hw⟩, hS⟩ := hR
  obtain ⟨i, hi⟩ := List.getElem?_of_mem ((hw _ _).mp ha)
  refine va_aldq S.1 S.2.1 hC.1 hP i 1 hi rfl (vp_in_nI hj hn) hdg ?_
  rw [nI_clamp (Nat.lt_trans hj hn), hv]
  exact kk
theorem mm_oald (S : CallFix p m c cc nL s args Ts own) (hC : mm_C G A s) (hR : mm_R G s A M H locs) {a n : Nat} {f : Nat → Option Nat} (ha : M a = some (oa G n f)) {j : Nat} (hj : j < n) (hn : n < 2 ^ 31) {v : Value} (hv : va_rf (f j) = v) (hdg : decode cc pc = .ok (.aaload, 1))
    (kk : W p l e R s m args below meth c H locs cells slots Q (F0 m (pc + 1) ls (v :: rest))) : W p l e R s m args below meth c H locs cells slots Q (F0 m pc ls (.int (nI j) :: .ref a :: rest)) := by
  obtain ⟨⟨ws, hP, hD, hw⟩, hS⟩ := hR
  obtain ⟨i, hi⟩ := List.getElem?_of_mem ((hw _ _).mp ha)
  refine va_aldq S.1 S.2.1 hC.1 hP i 2 hi rfl (vp_in_nI hj hn) hdg ?_
  rw [nI_clamp (Nat.lt_trans hj hn), hv]
  exact kk
/-- a Statement into an array of them -/
theorem mm_sast (S : CallFix p m c cc nL s args Ts own) (hC : mm_C G A s) (hR : mm_R G s A M H locs) {a n : Nat} {f : Nat → Option Nat} (ha : M a = some (sa G n f)) {v : Nat} {fs : List Value} (hv : M v = some (ob 6 fs)) {j : Nat} (hj : j < n) (hn : n < 2 ^ 31) (hdg : decode cc pc = .ok (.aastore, 1))
    (kk : ∀ (H1 : Heap) (locs1 : List Loc), ∀ M1 : mm_M, M1 a = some (sa G n (va_up f j (some v))) → mm_fr [a] M M1 → mm_R G s A M1 H1 locs1 → W p l e R s m args below meth c H1 locs1 cells slots Q (F0 m (pc + 1) ls rest)) : W p l e R s m args below meth c H locs cells slots Q (F0 m pc ls (.ref v :: .int (nI j) :: .ref a :: rest)) := by
  obtain ⟨⟨ws, hP, hD, hw⟩, hS⟩ := hR
  obtain ⟨i, hi⟩ := List.getElem?_of_mem ((hw _ _).mp ha)
  obtain ⟨i2, hi2⟩ := List.getElem?_of_mem ((hw _ _).mp hv)
  refine va_astq (r := (RX5, TX5, 1)) S.1 S.2.1 hC.1 hP hD hS i 1 i2 6 hi rfl hi2 rfl (vp_in_nI hj hn) hdg (fun H1 locs1 hP1 hD1 hS1 => ?_)
  rw [nI_clamp (Nat.lt_trans hj hn)] at hP1 hD1
  exact kk H1 locs1 _ (va_up_self ..) mm_fru ⟨⟨_, hP1, hD1, mm_set hD hi hw⟩, hS1⟩
theorem mm_newi (S : CallFix p m c cc nL s args Ts own) (hC : mm_C G A s) (hA : ∀ q, s.heap.size ≤ q → A q) (hR : mm_R G s A M H locs) (harr : Cond.arrayClass (newarray.typeOf .int) ∈ Ts) {n : Nat} (hn : n ≤ 134217728) (hcells : cells + 1 ≤ R.cells) (hslots : slots + n ≤ R.slots) (hdg : decode cc pc = .ok (.newarray .int, 2))
    (kk : ∀ (q : Nat) (H1 : Heap), ∀ M1 : mm_M, M q = none → M1 q = some (ia G n (fun _ => 0)) → mm_fr [] M M1 → mm_R G s A M1 H1 locs → W p l e R s m args below meth c H1 locs (cells + 1) (slots + n) Q (F0 m (pc + 2) ls (.ref q :: rest))) : W p l e R s m args below meth c H locs cells slots Q (F0 m pc ls (.int (nI n) :: rest)) := by
  obtain ⟨⟨ws, hP, hD, hw⟩, hS⟩ := hR
  refine va_newa (ty := .int) (a0 := (n, .inl (fun _ => 0))) S.1 S.2.1 (S.2.2.2.2 _ harr) rfl hC.1 hP hD hS hA (fun cA => rfl) (nI_pos (by omega)) (nI_clamp (by omega)) (by show n * 4 ≤ _; omega) hcells hslots hdg (fun q cA H1 hK1 hP1 hD1 hS1 => ?_)
  have h1 := (hK1.2 3 (cA, .int) rfl).2
  have h2 := (hC.1.2 0 (G.2.1.1, .int) rfl).2
  have e : cA = G.2.1.1 := Option.some.inj (h1.symm.trans h2)
  subst e
  exact kk q H1 _ (mm_push hD1 hw).2 (va_up_self ..) (mm_frn (mm_push hD1 hw).2) ⟨⟨_, hP1, hD1, (mm_push hD1 hw).1⟩, hS1⟩
theorem mm_new (S : CallFix p m c cc nL s args Ts own) (hC : mm_C G A s) (hA : ∀ q, s.heap.size ≤ q → A q) (hR : mm_R G s A M H locs) {ci N index : Nat} {C : String} {T : u_T} {fs : List Value} (hin : ∀ w ∈ u_ws C T N, w ∈ Ts) (hc : vwCl[ci]? = some (C, T, N)) {ty0 : Nat → FieldType} (hty : ∀ k, k < N → parseFieldDescriptor (T k).2.2.1 = some (ty0 k)) (hcl : Cond.classLink own index C ∈ Ts) (hinst : Cond.instantiable C N ∈ Ts) (hini : Cond.initialized C ∈ Ts) (hfs : ∀ j, j < N → defaultValue (ty0 j) = vp_V fs j) (hcells : cells + 1 ≤ R.cells) (hslots : slots + N ≤ R.slots) (hdg : decode cc pc = .ok (.new index, 3))
    (kk : ∀ (q : Nat) (H1 : Heap), ∀ M1 : mm_M, M q = none → M1 q = some (.inr (ci, fs)) → mm_fr [] M M1 → mm_R G s A M1 H1 locs → W p l e R s m args below meth c H1 locs (cells + 1) (slots + N) Q (F0 m (pc + 3) ls (.ref q :: rest))) : W p l e R s m args below meth c H locs cells slots Q (F0 m pc ls rest) := by
  obtain ⟨⟨ws, hP, hD, hw⟩, hS⟩ := hR
  exact va_new S.1 S.2.1 S.2.2.2.2 hin ty0 hty S.2.2.2.1 (S.2.2.2.2 _ hcl) (S.2.2.2.2 _ hinst) (S.2.2.2.2 _ hini) hC.1 hP hD hS hA hc hfs hcells hslots hdg (fun q H1 hP1 hD1 hS1 => kk q H1 _ (mm_push hD1 hw).2 (va_up_self ..) (mm_frn (mm_push hD1 hw).2) ⟨⟨_, hP1, hD1, (mm_push hD1 hw).1⟩, hS1⟩)
theorem mm_copy (S : CallFix p m c cc nL s args Ts own) (hC : mm_C G A s) (hR : mm_R G s A M H locs) (hls : ls.size = nL) {a0 a1 n0 n1 index : Nat} {f g : Nat → Int32} (ha0 : M a0 = some (ia G n0 f)) (ha1 : M a1 = some (ia G n1 g)) (hl : Cond.methodLink own index arraycopyName ∈ Ts) (hnat : Cond.native arraycopyName ∈ Ts) (hstat : Cond.static arraycopyName ∈ Ts) (hini : Cond.initialized "java/lang/System" ∈ Ts)
    {sp dp n : Nat} (h4 : sp + n ≤ n0) (h5 : dp + n ≤ n1) (hb0 : n0 < 2 ^ 31) (hb1 : n1 < 2 ^ 31) (hframes : 1 ≤ R.frames) (hlocals : (rest.map fun v => v.category).sum + (nativeFrameWords "java/lang/System" "arraycopy" 5 + 11) ≤ R.locals) (hdg : decode cc pc = .ok (.invokestatic index, 3))
    (kk : ∀ (H1 : Heap) (locs1 : List Loc), ∀ M1 : mm_M, M1 a1 = some (ia G n1 (va_cpy f g sp dp n)) → mm_fr [a1] M M1 → mm_R G s A M1 H1 locs1 → W p l e R s m args below meth c H1 locs1 cells slots Q (F0 m (pc + 3) ls rest)) : W p l e R s m args below meth c H locs cells slots Q (F0 m pc ls (.int (nI n) :: .int (nI dp) :: .ref a1 :: .int (nI sp) :: .ref a0 :: rest)) := by
  obtain ⟨⟨ws, hP, hD, hw⟩, hS⟩ := hR
  obtain ⟨i0, hi0⟩ := List.getElem?_of_mem ((hw _ _).mp ha0)
  obtain ⟨i1, hi1⟩ := List.getElem?_of_mem ((hw _ _).mp ha1)
  have e1 : (nI sp).toNatClampNeg = sp := nI_clamp (by omega)
  have e2 : (nI dp).toNatClampNeg = dp := nI_clamp (by omega)
  have e3 : (nI n).toNatClampNeg = n := nI_clamp (by omega)
  refine va_copyi S.1 S.2.1 (by rw [hls]; exact S.2.2.1) S.2.2.2.1 (S.2.2.2.2 _ hl) (S.2.2.2.2 _ hnat) (S.2.2.2.2 _ hstat) (S.2.2.2.2 _ hini) hC.1 hP hD hS i0 i1 0 0 hi0 hi1 rfl rfl rfl (nI_pos (by omega)) (nI_pos (by omega)) (nI_pos (by omega)) (by rw [e1, e3]; exact h4) (by rw [e2, e3]; exact h5) (fun _ _ => rfl) hframes hlocals hdg (fun H1 locs1 hP1 hD1 hS1 => ?_)
  rw [e1, e2, e3] at hP1 hD1
  exact kk H1 locs1 _ (va_up_self ..) mm_fru ⟨⟨_, hP1, hD1, mm_set hD hi1 hw⟩, hS1⟩
theorem mm_eqi {x y : Int32} (h : x = y) (kk : W p l e R s m args below meth c H locs cells slots Q (F0 m pc ls (.int y :: rest))) : W p l e R s m args below meth c H locs cells slots Q (F0 m pc ls (.int x :: rest)) := h ▸ kk
theorem mm_eql {x y : Int64} (h : x = y) (kk : W p l e R s m args below meth c H locs cells slots Q (F0 m pc ls (.long y :: rest))) : W p l e R s m args below meth c H locs cells slots Q (F0 m pc ls (.long x :: rest)) := h ▸ kk
theorem mm_preS (hC : mm_C G A s) (hA : ∀ q, s.heap.size ≤ q → A q) (hR : mm_R G s A M H locs) (As : List Value) : PreS s H (va_Pc As (mm_pre G M H.size)) As :=
  ⟨mm_blind As, fun U hU hW => ⟨rfl, by rw [hU], by rw [hU]; exact hR.1.weaken (fun _ _ => trivial), hC.move hR.2 hU hW (hR.sub hA)⟩⟩
theorem mm_preV (hC : mm_C G A s) (hA : ∀ q, s.heap.size ≤ q → A q) (hR : mm_R G s A M H locs) (As : List Value) {b ci : Nat} {q : vw_C} {fs : List Value} (hb : M b = some (.inr (ci, fs))) (hc : vwCl[ci]? = some q) : PreV s H q.1 b (va_Pc (.ref b :: As) (mm_pre G M H.size)) As := by
  refine ⟨mm_blind _, ?_, fun U hU hW => ⟨rfl, by rw [hU], by rw [hU]; exact hR.1.weaken (fun _ _ => trivial), hC.move hR.2 hU hW (hR.sub hA)⟩⟩
  obtain ⟨⟨ws, hP, hD, hw⟩, hS⟩ := hR
  obtain ⟨j, hj⟩ := List.getElem?_of_mem ((hw _ _).mp hb)
  exact va_recv hC.1 hP hc hj
variable {mc ms : Nat} {st0 : List Value} {a : Array Value}
theorem mm_callv {post : mm_M → Prop} (hA : ∀ q, s.heap.size ≤ q → A q) (hR : mm_R G s A M H locs) (hr : va_Run p l e R s m args below meth c H locs cells slots mc ms (F0 m pc ls st0) rest (va_Qv post (fun M' t => mm_H G (mm_A M H.size) M' t.heap) (mm_A M H.size) a) (mm_A M H.size))
    (kk : ∀ (M' : mm_M) (H1 : Heap) (locs1 : List Loc), post M' → mm_R G s A M' H1 locs1 → W p l e R s m args below meth c H1 locs1 (cells + mc) (slots + ms) Q (F0 m (pc + 3) ls rest)) : W p l e R s m args below meth c H locs cells slots Q (F0 m pc ls st0) :=
  va_callv hr hR.2 (fun q _ h => hR.sub hA q h) (hR.sub hA) (fun u t H1 locs1 ht _ hw hB _ _ hS => kk u H1 locs1 hw ⟨(ht ▸ hB).weaken (hR.sub hA), hS⟩)
theorem mm_calli {post : Int32 → mm_M → Prop} (hA : ∀ q, s.heap.size ≤ q → A q) (hR : mm_R G s A M H locs) (hr : va_Run p l e R s m args below meth c H locs cells slots mc ms (F0 m pc ls st0) rest (va_Qi post (fun M' t => mm_H G (mm_A M H.size) M' t.heap) (mm_A M H.size) a) (mm_A M H.size))
    (kk : ∀ (r : Int32) (M' : mm_M) (H1 : Heap) (locs1 : List Loc), post r M' → mm_R G s A M' H1 locs1 → W p l e R s m args below meth c H1 locs1 (cells + mc) (slots + ms) Q (F0 m (pc + 3) ls (.int r :: rest))) : W p l e R s m args below meth c H locs cells slots Q (F0 m pc ls st0) :=
  va_calli hr hR.2 (fun q _ h => hR.sub hA q h) (hR.sub hA) (fun r u t H1 locs1 ht _ hw hB _ _ hS => kk r u H1 locs1 hw ⟨(ht ▸ hB).weaken (hR.sub hA), hS⟩)
theorem mm_calll {post : Int64 → mm_M → Prop} (hA : ∀ q, s.heap.size ≤ q → A q) (hR : mm_R G s A M H locs) (hr : va_Run p l e R s m args below meth c H locs cells slots mc ms (F0 m pc ls st0) rest (va_Ql post (fun M' t => mm_H G (mm_A M H.size) M' t.heap) (mm_A M H.size) a) (mm_A M H.size))
    (kk : ∀ (r : Int64) (M' : mm_M) (H1 : Heap) (locs1 : List Loc), post r M' → mm_R G s A M' H1 locs1 → W p l e R s m args below meth c H1 locs1 (cells + mc) (slots + ms) Q (F0 m (pc + 3) ls (.long r :: rest))) : W p l e R s m args below meth c H locs cells slots Q (F0 m pc ls st0) :=
  va_calll hr hR.2 (fun q _ h => hR.sub hA q h) (hR.sub hA) (fun r u t H1 locs1 ht _ hw hB _ _ hS => kk r u H1 locs1 hw ⟨(ht ▸ hB).weaken (hR.sub hA), hS⟩)
theorem mm_callq {post : Option Nat → mm_M → Prop} (hA : ∀ q, s.heap.size ≤ q → A q) (hR : mm_R G s A M H locs) (hr : va_Run p l e R s m args below meth c H locs cells slots mc ms (F0 m pc ls st0) rest (va_Qq post (fun M' t => mm_H G (mm_A M H.size) M' t.heap) (mm_A M H.size) a) (mm_A M H.size))
    (kk : ∀ (r : Option Nat) (M' : mm_M) (H1 : Heap) (locs1 : List Loc), post r M' → mm_R G s A M' H1 locs1 → W p l e R s m args below meth c H1 locs1 (cells + mc) (slots + ms) Q (F0 m (pc + 3) ls (va_rf r :: rest))) : W p l e R s m args below meth c H locs cells slots Q (F0 m pc ls st0) :=
  va_callq hr hR.2 (fun q _ h => hR.sub hA q h) (hR.sub hA) (fun r u t H1 locs1 ht _ hw hB _ _ hS => kk r u H1 locs1 hw ⟨(ht ▸ hB).weaken (hR.sub hA), hS⟩)
theorem mm_vret {post : mm_M → Prop} (S : CallFix p m c cc nL s args Ts own) (hr : meth.sig.returnType = none) (hlocks : meth.locks = false) (hR : mm_R G s A M H locs) (hp : post M) (hdg : decode cc pc = .ok (.return_, 1)) : W p l e R s m args below meth c H locs cells slots (MQ below (va_Qv post (fun M' t => mm_H G A M' t.heap) A) args s cells slots A) (F0 m pc ls []) :=
  W.vret S.1 S.2.1 hr (fun t ht hW => ⟨⟨M, rfl, hp, by show mm_H G A M t.heap; rw [ht]; exact hR.1⟩, hR.2.F ht⟩) hR.2.2.2 hdg hlocks
theorem mm_iret {post : Int32 → mm_M → Prop} {v : Int32} (S : CallFix p m c cc nL s args Ts own) (hr : meth.sig.returnType = some .int) (hlocks : meth.locks = false) (hR : mm_R G s A M H locs) (hp : post v M) (hdg : decode cc pc = .ok (.ireturn, 1)) : W p l e R s m args below meth c H locs cells slots (MQ below (va_Qi post (fun M' t => mm_H G A M' t.heap) A) args s cells slots A) (F0 m pc ls [.int v]) :=
  W.iret S.1 S.2.1 hr (fun t ht hW => ⟨⟨v, M, rfl, hp, by show mm_H G A M t.heap; rw [ht]; exact hR.1⟩, hR.2.F ht⟩) hR.2.2.2 hdg hlocks
theorem mm_zret {post : Int32 → mm_M → Prop} {v : Int32} (S : CallFix p m c cc nL s args Ts own) (hr : meth.sig.returnType = some .boolean) (hlocks : meth.locks = false) (hv : narrow .boolean (.int v) = .int v) (hR : mm_R G s A M H locs) (hp : post v M) (hdg : decode cc pc = .ok (.ireturn, 1)) : W p l e R s m args below meth c H locs cells slots (MQ below (va_Qi post (fun M' t => mm_H G A M' t.heap) A) args s cells slots A) (F0 m pc ls [.int v]) :=
  W.zret S.1 S.2.1 hr hv (fun t ht hW => ⟨⟨v, M, rfl, hp, by show mm_H G A M t.heap; rw [ht]; exact hR.1⟩, hR.2.F ht⟩) hR.2.2.2 hdg hlocks
theorem mm_lret {post : Int64 → mm_M → Prop} {v : Int64} (S : CallFix p m c cc nL s args Ts own) (hr : meth.sig.returnType = some .long) (hlocks : meth.locks = false) (hR : mm_R G s A M H locs) (hp : post v M) (hdg : decode cc pc = .ok (.lreturn, 1)) : W p l e R s m args below meth c H locs cells slots (MQ below (va_Ql post (fun M' t => mm_H G A M' t.heap) A) args s cells slots A) (F0 m pc ls [.long v]) :=
  W.lret S.1 S.2.1 hr (fun t ht hW => ⟨⟨v, M, rfl, hp, by show mm_H G A M t.heap; rw [ht]; exact hR.1⟩, hR.2.F ht⟩) hR.2.2.2 hdg hlocks
theorem mm_aret {post : Option Nat → mm_M → Prop} {v : Option Nat} {rt : FieldType} (S : CallFix p m c cc nL s args Ts own) (hr : meth.sig.returnType = some rt) (hrt : (∃ n, rt = .object n) ∨ ∃ t, rt = .array t) (hlocks : meth.locks = false) (hR : mm_R G s A M H locs) (hp : post v M) (hdg : decode cc pc = .ok (.areturn, 1)) : W p l e R s m args below meth c H locs cells slots (MQ below (va_Qq post (fun M' t => mm_H G A M' t.heap) A) args s cells slots A) (F0 m pc ls [va_rf v]) :=
  W.aret S.1 S.2.1 hr hrt (va_rf_or v) (fun t ht hW => ⟨⟨v, M, rfl, hp, by show mm_H G A M t.heap; rw [ht]; exact hR.1⟩, hR.2.F ht⟩) hR.2.2.2 hdg hlocks
end MMR
/-- a contract, entered -/
theorem mm_enter {l : Launch} {y : MethodName} {ws ws' : List Cond} {rm : Room} {Qc : Array Value → State → Outcome → State → Prop} {mc ms : Nat} {cc : ByteArray} {maxL : Nat} {ret : Option FieldType} {G : mm_G} {M : mm_M} {sz : Nat} (av : List Value)
    (hy : plainFor y = true) (hw : ws = Cond.code y cc maxL ret :: ws') (hlen : (lg_sl av).length ≤ maxL)
    (body : ∀ (p : Program) (e : Env) (s : State) (m : MethodId) (below : List Frame) (meth : Method) (c : Code) (ls : Array Slot), CallFix p m c cc maxL s av.toArray ws y.cls → meth.sig.returnType = ret → meth.locks = false → meth.name = y.name → (∀ q, s.heap.size ≤ q → mm_A M sz q) → mm_C G (mm_A M sz) s → mm_R G s (mm_A M sz) M s.heap [] → lv_has ls maxL (lv_args 0 av) →
      W p l e rm s m av.toArray below meth c s.heap [] 0 0 (MQ below Qc av.toArray s mc ms (mm_A M sz)) (F0 m 0 ls [])) : Met l y ws rm (va_Pc av (mm_pre G M sz)) Qc mc ms (mm_A M sz) := by
  refine va_MetF (cc := cc) (maxL := maxL) (ret := ret) hy hw ?_
  intro p e s m args below meth c s₁ B hml hv
  obtain ⟨rfl, hsz, hH, hC⟩ := hv
  subst hsz
  rw [lg_entry_eq]
  refine body p e s m below meth c _ ⟨B.exec, B.bytes, hml, findClass_of_methodNamed B.named, atoms_spec (ws := ws) B.pre⟩ B.returns B.notSynchronized (name_of_methodNamed B.named B.method).1 (fun q h => Or.inr h) hC ⟨?_, va_S.rf⟩ (lv_entry av hlen)
  obtain ⟨ws', h1, h2, h3⟩ := hH
  exact ⟨ws', h1, ⟨h2.1, fun k q hk => Or.inl (by rw [(h3 q.1 q.2).mpr (List.mem_of_getElem? hk)]; exact fun h => by cases h)⟩, h3⟩
/-- contracts: what comes back, and the memory behind it -/
abbrev mm_v (l : Launch) (y : MethodName) (ws : List Cond) (rm : Room) (G : mm_G) (av : List Value) (M : mm_M) (sz : Nat) (post : mm_M → Prop) : Prop := Met l y ws rm (va_Pc av (mm_pre G M sz)) (va_Qv post (fun M' t => mm_H G (mm_A M sz) M' t.heap) (mm_A M sz)) rm.cells rm.slots (mm_A M sz)
abbrev mm_i (l : Launch) (y : MethodName) (ws : List Cond) (rm : Room) (G : mm_G) (av : List Value) (M : mm_M) (sz : Nat) (post : Int32 → mm_M → Prop) : Prop := Met l y ws rm (va_Pc av (mm_pre G M sz)) (va_Qi post (fun M' t => mm_H G (mm_A M sz) M' t.heap) (mm_A M sz)) rm.cells rm.slots (mm_A M sz)
abbrev mm_l (l : Launch) (y : MethodName) (ws : List Cond) (rm : Room) (G : mm_G) (av : List Value) (M : mm_M) (sz : Nat) (post : Int64 → mm_M → Prop) : Prop := Met l y ws rm (va_Pc av (mm_pre G M sz)) (va_Ql post (fun M' t => mm_H G (mm_A M sz) M' t.heap) (mm_A M sz)) rm.cells rm.slots (mm_A M sz)
abbrev mm_q (l : Launch) (y : MethodName) (ws : List Cond) (rm : Room) (G : mm_G) (av : List Value) (M : mm_M) (sz : Nat) (post : Option Nat → mm_M → Prop) : Prop := Met l y ws rm (va_Pc av (mm_pre G M sz)) (va_Qq post (fun M' t => mm_H G (mm_A M sz) M' t.heap) (mm_A M sz)) rm.cells rm.slots (mm_A M sz)
theorem mm_dec {a c : Nat} (h : c ≤ a) : nI a + -(nI c) = nI (a - c) := by rw [← Int32.sub_eq_add_neg]; exact pk_sub h
section MMT
variable {p : Program} {l : Launch} {e : Env} {R : Room} {s : State} {m : MethodId} {args : Array Value} {below : List Frame} {meth : Method} {c : Code} {H : Heap} {locs : List Loc} {cells slots : Nat} {Q : State → Prop}
variable {cc : ByteArray} {pc nL : Nat} {ls : Array Slot} {rest : List Value} {G : mm_G} {A : Nat → Prop} {M : mm_M} {Ts : List Cond} {own : String}
theorem mm_gstart (S : CallFix p m c cc nL s args Ts own) (hC : mm_C G A s) (hR : mm_R G s A M H locs) {index : Nat} (hl : Cond.fieldLink own index RX4 "START" "[I" ∈ Ts) (hdg : decode cc pc = .ok (.getstatic index, 3))
    (kk : W p l e R s m args below meth c H locs cells slots Q (F0 m (pc + 3) ls (.ref G.2.2.1 :: rest))) : W p l e R s m args below meth c H locs cells slots Q (F0 m pc ls rest) :=
  va_gets S.1 S.2.1 hC.2.1.1 hR.2 S.2.2.2.1 (S.2.2.2.2 _ hl) (fun _ h => h) hdg kk
theorem mm_ground (S : CallFix p m c cc nL s args Ts own) (hC : mm_C G A s) (hR : mm_R G s A M H locs) {index : Nat} (hl : Cond.fieldLink own index RX4 "ROUND" "[I" ∈ Ts) (hdg : decode cc pc = .ok (.getstatic index, 3))
    (kk : W p l e R s m args below meth c H locs cells slots Q (F0 m (pc + 3) ls (.ref G.2.2.2.1 :: rest))) : W p l e R s m args below meth c H locs cells slots Q (F0 m pc ls rest) :=
  va_gets S.1 S.2.1 hC.2.2.1.1 hR.2 S.2.2.2.1 (S.2.2.2.2 _ hl) (fun _ h => h) hdg kk
theorem mm_tround (S : CallFix p m c cc nL s args Ts own) (hC : mm_C G A s) (hR : mm_R G s A M H locs) {j : Nat} (hj : j < 64) (hdg : decode cc pc = .ok (.iaload, 1))
    (kk : W p l e R s m args below meth c H locs cells slots Q (F0 m (pc + 1) ls (.int (k_round j) :: rest))) : W p l e R s m args below meth c H locs cells slots Q (F0 m pc ls (.int (nI j) :: .ref G.2.2.2.1 :: rest)) :=
  va_ti S.1 S.2.1 hC.2.2.1.2 hR.2 (vp_in_nI hj (by decide)) (by show Value.int (k_round (nI j).toNatClampNeg) = _; rw [nI_clamp (by omega)]) hdg kk
theorem mm_lstart (S : CallFix p m c cc nL s args Ts own) (hC : mm_C G A s) (hR : mm_R G s A M H locs) (hdg : decode cc pc = .ok (.arraylength, 1))
    (kk : W p l e R s m args below meth c H locs cells slots Q (F0 m (pc + 1) ls (.int (nI 8) :: rest))) : W p l e R s m args below meth c H locs cells slots Q (F0 m pc ls (.ref G.2.2.1 :: rest)) :=
  va_tlen S.1 S.2.1 hC.2.1.2 hR.2 rfl hdg kk
end MMT
