/-! ===== the memory layer (own): a world as a function from addresses to cells; every row of the kit that reads, writes, makes or calls, over such a function ===== -/
abbrev mm_M : Type := Nat → Option va_E
/-- the numbers and slots; the classes of int[], Statement[], Object[]; the addresses of START, ROUND, the empty list's array, the mirror object of Object[] -/
abbrev mm_G : Type := va_G × (ClassId × ClassId × ClassId) × (Nat × Nat × Nat × Nat)
abbrev mm_tys (G : mm_G) : List (ClassId × FieldType) := [(G.2.1.1, .int), (G.2.1.2.1, .object "ForkWatch$Statement"), (G.2.1.2.2, .object "java/lang/Object")]
abbrev ia (G : mm_G) (n : Nat) (f : Nat → Int32) : va_E := .inl (G.2.1.1, n, .inl f)
abbrev sa (G : mm_G) (n : Nat) (f : Nat → Option Nat) : va_E := .inl (G.2.1.2.1, n, .inr (.inr (.inr (.inr f))))
abbrev oa (G : mm_G) (n : Nat) (f : Nat → Option Nat) : va_E := .inl (G.2.1.2.2, n, .inr (.inr (.inr (.inr f))))
abbrev ob (ci : Nat) (fs : List Value) : va_E := .inr (ci, fs)
def mm_w (M : mm_M) (ws : va_W) : Prop := ∀ (a : Nat) (e : va_E), M a = some e ↔ (a, e) ∈ ws
def mm_H (G : mm_G) (A : Nat → Prop) (M : mm_M) (H : Heap) : Prop := ∃ ws : va_W, va_P G.1 vwCl ws H ∧ va_D A ws ∧ mm_w M ws
def mm_R (G : mm_G) (s : State) (A : Nat → Prop) (M : mm_M) (H : Heap) (locs : List Loc) : Prop := mm_H G A M H ∧ va_S A s.heap H locs
def mm_A (M : mm_M) (sz : Nat) : Nat → Prop := fun q => M q ≠ none ∨ sz ≤ q
/-- the tables of SHA-256 -/
def k_begin : Nat → Int32 := fun j => ([1779033703, -1150833019, 1013904242, -1521486534, 1359893119, -1694144372, 528734635, 1541459225] : List Int32).getD j 0
def k_round : Nat → Int32 := fun j => ([1116352408, 1899447441, -1245643825, -373957723, 961987163, 1508970993, -1841331548, -1424204075, -670586216, 310598401, 607225278, 1426881987, 1925078388, -2132889090, -1680079193, -1046744716, -459576895, -272742522, 264347078, 604807628, 770255983, 1249150122, 1555081692, 1996064986, -1740746414, -1473132947, -1341970488, -1084653625, -958395405, -710438585, 113926993, 338241895, 666307205, 773529912, 1294757372, 1396182291, 1695183700, 1986661051, -2117940946, -1838011259, -1564481375, -1474664885, -1035236496, -949202525, -778901479, -694614492, -200395387, 275423344, 430227734, 506948616, 659060556, 883997877, 958139571, 1322822218, 1537002063, 1747873779, 1955562222, 2024104815, -2067236844, -1933114872, -1866530822, -1538233109, -1090935817, -965641998] : List Int32).getD j 0
/-- the links between nest mates -/
def mm_nw : List Cond := [.methodLinkNest RX8 9 yX4_init "ForkWatch", .methodLinkNest RX8 18 yX2_init "ForkWatch", .methodLinkNest RX2 11 yX4_init "ForkWatch", .methodLinkNest RX8 58 yX1_init "ForkWatch", .methodLinkNest RX1 24 yX0_init "ForkWatch", .methodLinkNest RX7 19 yX0_init "ForkWatch", .methodLinkNest RX7 26 yX6_init "ForkWatch", .methodLinkNest RX6 29 yX8_sameRow "ForkWatch", .methodLinkNest RX0 30 yX8_sameRow "ForkWatch"]
/-- what no method of ours changes: classes, static tables, the Class object, links between nest mates -/
def mm_C (G : mm_G) (A : Nat → Prop) (U : State) : Prop :=
  va_K G.1 vwCl (mm_tys G) U ∧ (va_Z RX4 "START" "[I" (.ref G.2.2.1) A U U.heap ∧ va_T .int G.2.2.1 8 (fun j => .int (k_begin j)) A U U.heap) ∧ (va_Z RX4 "ROUND" "[I" (.ref G.2.2.2.1) A U U.heap ∧ va_T .int G.2.2.2.1 64 (fun j => .int (k_round j)) A U U.heap) ∧
  (va_Z RJx4a65c "DEFAULTCAPACITY_EMPTY_ELEMENTDATA" "[Ljava/lang/Object;" (.ref G.2.2.2.2.1) A U U.heap ∧ va_T (.object "java/lang/Object") G.2.2.2.2.1 0 (fun _ => .null) A U U.heap) ∧ (va_Mi "[Ljava/lang/Object;" G.2.2.2.2.2 U ∧ (va_AO "ForkWatch$Statement" U ∧ va_AO "java/lang/Object" U) ∧ (va_Nw (.castable "ForkWatch$World" "java/lang/Object") U ∧ va_Nw (.castable "ForkWatch$Operation" "java/lang/Object") U) ∧ va_Dc U ∧ va_Nw (.castable "[I" "java/lang/Cloneable") U) ∧ ∀ w ∈ mm_nw, va_Nw w U
def mm_pre (G : mm_G) (M : mm_M) (sz : Nat) (U : State) : Prop := U.heap.size = sz ∧ mm_H G (fun _ => True) M U.heap ∧ mm_C G (mm_A M sz) U
theorem mm_C.move {G : mm_G} {A B : Nat → Prop} {s U : State} {H : Heap} {locs : List Loc} (hC : mm_C G A s) (hS : va_S A s.heap H locs) (hU : U.heap = H) (hW : s.WarmedH U.vm) (hAB : ∀ q, B q → A q) : mm_C G B U := by
  obtain ⟨h1, ⟨h2, h3⟩, ⟨h4, h5⟩, ⟨h6, h7⟩, ⟨h8, ⟨k1, k2⟩, ⟨k3, k4⟩, k5, k6⟩, h9⟩ := hC
  subst hU
  have hvm := hW.alike
  have h9' : ∀ w ∈ mm_nw, va_Nw w U := by
    intro w hw
    have h := h9 w hw
    simp only [mm_nw, List.mem_cons, List.not_mem_nil, or_false] at hw
    rcases hw with rfl | rfl | rfl | rfl | rfl | rfl | rfl | rfl | rfl <;> exact h.warmM hW
  exact ⟨h1.moved hvm, ⟨((h2.moved hvm).kept hS.2.1).narrow hAB, ((h3.moved hvm).kept hS.2.1).narrow hAB⟩, ⟨((h4.moved hvm).kept hS.2.1).narrow hAB, ((h5.moved hvm).kept hS.2.1).narrow hAB⟩, ⟨((h6.moved hvm).kept hS.2.1).narrow hAB, ((h7.moved hvm).kept hS.2.1).narrow hAB⟩, ⟨h8.moved hvm, ⟨k1.moved hvm, k2.moved hvm⟩, ⟨k3.warmC hW, k4.warmC hW⟩, k5.moved hvm, k6.warmC hW⟩, h9'⟩
theorem mm_H.weaken {G : mm_G} {A B : Nat → Prop} {M : mm_M} {H : Heap} (h : mm_H G A M H) (hAB : ∀ q, A q → B q) : mm_H G B M H := by
  obtain ⟨ws, h1, h2, h3⟩ := h
  exact ⟨ws, h1, h2.weaken (fun _ _ _ h => hAB _ h), h3⟩
theorem mm_H.in {G : mm_G} {A : Nat → Prop} {M : mm_M} {H : Heap} (h : mm_H G A M H) {a : Nat} {e : va_E} (ha : M a = some e) : A a ∧ a < H.size := by
  obtain ⟨ws, h1, h2, h3⟩ := h
  obtain ⟨k, hk⟩ := List.getElem?_of_mem ((h3 a e).mp ha)
  exact ⟨h2.2 k _ hk, (h1 k _ hk).lt⟩
theorem mm_H.lt {G : mm_G} {A : Nat → Prop} {M : mm_M} {H : Heap} (h : mm_H G A M H) {a : Nat} (ha : M a ≠ none) : A a ∧ a < H.size := by
  cases hq : M a with
  | none => exact absurd hq ha
  | some e => exact h.in hq
theorem mm_R.sub {G : mm_G} {s : State} {A : Nat → Prop} {M : mm_M} {H : Heap} {locs : List Loc} (hR : mm_R G s A M H locs) (hA : ∀ q, s.heap.size ≤ q → A q) : ∀ q, mm_A M H.size q → A q := by
  intro q h
  rcases h with h | h
  · exact (hR.1.lt h).1
  · exact hA q (Nat.le_trans hR.2.1 h)
theorem mm_set {A : Nat → Prop} {M : mm_M} {ws : va_W} {k a : Nat} {e0 e : va_E} (hD : va_D A ws) (hk : ws[k]? = some (a, e0)) (hw : mm_w M ws) : mm_w (va_up M a (some e)) (ws.set k (a, e)) := by
  have hlt := (List.getElem?_eq_some_iff.mp hk).1
  intro b f
  constructor
  · intro h
    by_cases hb : b = a
    · subst hb
      rw [va_up_self] at h
      cases h
      exact List.mem_of_getElem? (i := k) (by rw [List.getElem?_set_self hlt])
    · rw [va_up_ne _ _ hb] at h
      obtain ⟨j, hj⟩ := List.getElem?_of_mem ((hw b f).mp h)
      have hjk : k ≠ j := by
        intro q
        subst q
        rw [hk] at hj
        cases hj
        exact hb rfl
      exact List.mem_of_getElem? (i := j) (by rw [List.getElem?_set_ne hjk]; exact hj)
  · intro h
    obtain ⟨j, hj⟩ := List.getElem?_of_mem h
    by_cases hjk : k = j
    · subst hjk
      rw [List.getElem?_set_self hlt] at hj
      cases hj
      exact va_up_self ..
    · rw [List.getElem?_set_ne hjk] at hj
      have hb : b ≠ a := by
        intro q
        subst q
        exact hjk (hD.1 k j _ _ hk hj rfl)
      rw [va_up_ne _ _ hb]
      exact (hw b f).mpr (List.mem_of_getElem? hj)
theorem mm_push {A : Nat → Prop} {M : mm_M} {ws : va_W} {q : Nat} {e : va_E} (hD : va_D A (ws ++ [(q, e)])) (hw : mm_w M ws) : mm_w (va_up M q (some e)) (ws ++ [(q, e)]) ∧ M q = none := by
  have hn : M q = none := by
    cases hq : M q with
    | none => rfl
    | some f =>
      obtain ⟨j, hj⟩ := List.getElem?_of_mem ((hw q f).mp hq)
      have hlt := (List.getElem?_eq_some_iff.mp hj).1
      have h1 : (ws ++ [(q, e)])[j]? = some (q, f) := by rw [List.getElem?_append_left hlt]; exact hj
      have h2 : (ws ++ [(q, e)])[ws.length]? = some (q, e) := by rw [List.getElem?_append_right (Nat.le_refl _), Nat.sub_self]; rfl
      have h3 := hD.1 j ws.length _ _ h1 h2 rfl
      omega
  refine ⟨fun b f => ⟨fun h => ?_, fun h => ?_⟩, hn⟩
  · by_cases hb : b = q
    · subst hb
      rw [va_up_self] at h
      cases h
      exact List.mem_append_right _ List.mem_cons_self
    · rw [va_up_ne _ _ hb] at h
      exact List.mem_append_left _ ((hw b f).mp h)
  · rcases List.mem_append.mp h with h' | h'
    · have h2 := (hw b f).mpr h'
      have hb : b ≠ q := by
        intro z
        rw [z, hn] at h2
        cases h2
      rw [va_up_ne _ _ hb]
      exact h2
    · have h1 := List.mem_singleton.mp h'
      cases h1
      exact va_up_self ..
theorem mm_blind {G : mm_G} {M : mm_M} {sz : Nat} (av : List Value) : FrameBlind (va_Pc av (mm_pre G M sz)) := by
  intro a U g mk q
  obtain ⟨q0, q1, q2, q3⟩ := q
  exact ⟨q0, q1, q2, mm_C.move (H := U.heap) (locs := []) q3 va_S.rf rfl (State.WarmedH.refl U) (fun _ h => h)⟩
/-- the frame: what was there stays, but at the addresses of L -/
def mm_fr (L : List Nat) (M M' : mm_M) : Prop := ∀ (q : Nat) (e : va_E), M q = some e → q ∉ L → M' q = some e
theorem mm_fr.rf {L : List Nat} {M : mm_M} : mm_fr L M M := fun _ _ h _ => h
theorem mm_fr.up {L : List Nat} {M M' : mm_M} (h : mm_fr L M M') {L' : List Nat} (hs : ∀ q, q ∈ L → q ∈ L') : mm_fr L' M M' := fun q e hq hn => h q e hq (fun z => hn (hs q z))
theorem mm_fr.tr {L1 L : List Nat} {M M1 M2 : mm_M} (h1 : mm_fr L M M1) (h2 : mm_fr L1 M1 M2) (s1 : ∀ q, q ∈ L1 → q ∈ L ∨ M q = none) : mm_fr L M M2 := fun q e hq hn => h2 q e (h1 q e hq hn) (fun z => (s1 q z).elim hn (fun y => by rw [hq] at y; cases y))
theorem mm_fr.none {L : List Nat} {M M1 : mm_M} (h : mm_fr L M M1) {q : Nat} (hq : M1 q = none) (hL : ∀ a, a ∈ L → M1 a ≠ none) : M q = none := by
  cases hc : M q with
  | none => rfl
  | some e =>
    by_cases hm : q ∈ L
    · exact absurd hq (hL q hm)
    · rw [h q e hc hm] at hq
      cases hq
theorem mm_o0 {M : mm_M} : ∀ a, a ∈ ([] : List Nat) → M a ≠ none := fun _ h => absurd h List.not_mem_nil
theorem mm_oc {M : mm_M} {a : Nat} {e : va_E} {L : List Nat} (h : M a = some e) (hL : ∀ x, x ∈ L → M x ≠ none) : ∀ x, x ∈ a :: L → M x ≠ none := fun x hx => (List.mem_cons.mp hx).elim (fun z => by rw [z, h]; exact fun y => by cases y) (hL x)
theorem mm_fr.at {L : List Nat} {M M' : mm_M} (h : mm_fr L M M') {b : Nat} {e : va_E} (hb : M b = some e) (hn : b ∉ L) : M' b = some e := h b e hb hn
theorem mm_fru {M : mm_M} {a : Nat} {e : va_E} : mm_fr [a] M (va_up M a (some e)) := fun q _ h hq => by
  rw [va_up_ne _ _ (fun z => hq (by rw [z]; exact List.mem_cons_self))]
  exact h
theorem mm_frn {M : mm_M} {a : Nat} {e : va_E} (hn : M a = none) : mm_fr [] M (va_up M a (some e)) := fun q _ h _ => by
  rw [va_up_ne _ _ (fun z => by rw [z, hn] at h; cases h)]
  exact h
theorem mm_n0 {a : Nat} : a ∉ ([] : List Nat) := List.not_mem_nil
theorem mm_nc {a b : Nat} {L : List Nat} (h : a ≠ b) (hL : a ∉ L) : a ∉ b :: L := fun z => (List.mem_cons.mp z).elim h hL
theorem mm_i0 {L : List Nat} {M : mm_M} : ∀ q, q ∈ ([] : List Nat) → q ∈ L ∨ M q = none := fun _ h => absurd h List.not_mem_nil
theorem mm_ic {a : Nat} {L1 L : List Nat} {M : mm_M} (k : Nat) (ha : L[k]? = some a) (h : ∀ q, q ∈ L1 → q ∈ L ∨ M q = none) : ∀ q, q ∈ a :: L1 → q ∈ L ∨ M q = none := fun q hq => (List.mem_cons.mp hq).elim (fun z => by rw [z]; exact Or.inl (List.mem_of_getElem? ha)) (h q)
theorem mm_in {a : Nat} {L1 L : List Nat} {M : mm_M} (ha : M a = none) (h : ∀ q, q ∈ L1 → q ∈ L ∨ M q = none) : ∀ q, q ∈ a :: L1 → q ∈ L ∨ M q = none := fun q hq => (List.mem_cons.mp hq).elim (fun z => by rw [z]; exact Or.inr ha) (h q)
theorem mm_neoi {M : mm_M} {a b : Nat} {x : Nat × List Value} {y : ClassId × vp_A} (ha : M a = some (.inr x)) (hb : M b = some (.inl y)) : a ≠ b := fun e => by rw [e, hb] at ha; cases ha
theorem mm_neoo {M : mm_M} {a b c d : Nat} {x y : List Value} (ha : M a = some (.inr (c, x))) (hb : M b = some (.inr (d, y))) (h : c ≠ d) : a ≠ b := fun e => by rw [e, hb] at ha; cases ha; exact h rfl
theorem mm_nelen {G : mm_G} {M : mm_M} {a b n k : Nat} {f g : Nat → Int32} (ha : M a = some (ia G n f)) (hb : M b = some (ia G k g)) (h : n ≠ k) : a ≠ b := fun e => by rw [e, hb] at ha; cases ha; exact h rfl
theorem mm_nenew {M : mm_M} {a b : Nat} {e : va_E} (ha : M a = some e) (hb : M b = none) : a ≠ b := fun z => by rw [z, hb] at ha; cases ha
