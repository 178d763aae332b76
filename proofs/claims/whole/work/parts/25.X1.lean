set_option maxHeartbeats 4000000 in
set_option maxRecDepth 100000 in
/-- Arrays.copyOf(row, n) -/
theorem c_J7_copyOf_59c91 (l : Launch) (G : mm_G) (M : mm_M) (sz : Nat) (y k len : Nat) (r : Nat → Int32) (h1 : M y = some (ia G k r)) (hlen : len ≤ k) (hk : k ≤ 100) : mm_q l yJ7_copyOf_59c91 wsJ7_copyOf_59c91 ({ frames := 1, cells := 1, slots := 100, locals := 30 } : Room) G ([.ref y, .int (nI len)] : List Value) M sz (fun x M' => ∃ q g, x = some q ∧ M q = none ∧ M' q = some (ia G len g) ∧ (∀ i, i < len → g i = r i) ∧ mm_fr [] M M') := by
  refine mm_enter (cc := cJ7_copyOf_59c91) (maxL := 3) (ret := (some (.array .int))) _ (by decide) rfl (Nat.le_of_ble_eq_true rfl) ?_
  intro p0 e0 s m0 be0 me0 c0 ls S hr hlocks hname hA hC hR hl
  have hx := S.1
  have hb := S.2.1
  have hl : lv_has ls 3 [(0, .ref y), (1, .int (nI len))] := hl
  have hF : mm_fr [] M M := mm_fr.rf
  refine lv_iload_n hx hb dJ7_copyOf_59c91_0 rfl (lv_at hl 1 rfl) ?_
  refine lv_aload_n hx hb dJ7_copyOf_59c91_1 rfl (lv_at hl 0 rfl) ?_
  refine mm_ilen S hC hR h1 dJ7_copyOf_59c91_2 ?_
  refine lv_icmp_ne (tgt := 14) hx hb dJ7_copyOf_59c91_3 (by decide) (fun c1 => ?_) (fun c1 => ?_)
  · have c1 : len ≠ k := fun z => c1 (congrArg nI z)
    refine lv_iload_n hx hb dJ7_copyOf_59c91_14 rfl (lv_at hl 1 rfl) ?_
    refine mm_newi S hC hA hR (by decide +kernel) (n := len) (by omega) (Nat.le_of_ble_eq_true rfl) (by show 0 + len ≤ 100; omega) dJ7_copyOf_59c91_15 (fun q H M1 z3 h2 f2 hR => ?_)
    have n_y_q : y ≠ q := mm_nenew h1 z3
    have nn_q : M q = none := hF.none z3 mm_o0
    have h1 := f2.at h1 mm_n0
    have h2 : M1 q = some (ia G len (fun _ => 0)) := h2
    have hF := hF.tr f2 mm_i0
    refine lv_astore_n (lv' := [(2, .ref q), (0, .ref y), (1, .int (nI len))]) hx hb dJ7_copyOf_59c91_17 rfl hl (by decide) rfl (fun ls hl => ?_)
    refine lv_aload_n hx hb dJ7_copyOf_59c91_18 rfl (lv_at hl 1 rfl) ?_
    refine lv_iconst (v := nI 0) hx hb dJ7_copyOf_59c91_19 (by decide) ?_
    refine lv_aload_n hx hb dJ7_copyOf_59c91_20 rfl (lv_at hl 0 rfl) ?_
    refine lv_iconst (v := nI 0) hx hb dJ7_copyOf_59c91_21 (by decide) ?_
    refine lv_aload_n hx hb dJ7_copyOf_59c91_22 rfl (lv_at hl 1 rfl) ?_
    refine mm_ilen S hC hR h1 dJ7_copyOf_59c91_23 ?_
    refine lv_iload_n hx hb dJ7_copyOf_59c91_24 rfl (lv_at hl 2 rfl) ?_
    refine mm_min (rest := [.int (nI 0), .ref q, .int (nI 0), .ref y]) S hl.1 (by decide +kernel) (by decide +kernel) (by decide +kernel) (by decide +kernel) (Nat.le_of_ble_eq_true rfl) (Nat.le_of_ble_eq_true rfl) (by show 0 + 1 ≤ 1; omega) (by show 0 + len ≤ 100; omega) (x := k) (y := len) (by omega) (by omega) dJ7_copyOf_59c91_25 ?_
    refine mm_eqi (congrArg nI (show min k len = len by omega)) ?_
    refine mm_copy S hC hR hl.1 h1 h2 (by decide +kernel) (by decide +kernel) (by decide +kernel) (by decide +kernel) (sp := 0) (dp := 0) (n := len) (by omega) (by omega) (by omega) (by omega) (Nat.le_of_ble_eq_true rfl) (Nat.le_of_ble_eq_true rfl) dJ7_copyOf_59c91_28 (fun H locs M4 g6 f5 hR => ?_)
    have h1 := f5.at h1 (mm_nc n_y_q mm_n0)
    have h2 : M4 q = some (ia G len (va_cpy r (fun _ => 0) 0 0 len)) := g6
    have hF := hF.tr f5 (mm_in nn_q mm_i0)
    refine lv_aload_n hx hb dJ7_copyOf_59c91_31 rfl (lv_at hl 0 rfl) ?_
    refine W.widen (k := 1) (n := 100) (by omega) (by omega) ?_
    exact mm_aret (v := some q) S hr (Or.inr ⟨_, rfl⟩) hlocks hR ⟨q, _, rfl, nn_q, h2, fun i hi => by unfold va_cpy; rw [if_pos (by omega)]; congr 1; omega, hF⟩ dJ7_copyOf_59c91_32
  · have c1 : len = k := (nI_eq (a := len) (b := k) (by omega) (by omega)).mp c1
    subst c1
    refine lv_aload_n hx hb dJ7_copyOf_59c91_6 rfl (lv_at hl 0 rfl) ?_
    refine mm_clone S hC hA hR hl.1 h1 (by decide +kernel) (by decide +kernel) (by decide +kernel) (by decide +kernel) (by decide +kernel) (Nat.le_of_ble_eq_true rfl) (Nat.le_of_ble_eq_true rfl) (Nat.le_of_ble_eq_true rfl) (by show 0 + len ≤ 100; omega) dJ7_copyOf_59c91_7 (fun q H M7 z7 h2 f7 hR => ?_)
    have n_y_q : y ≠ q := mm_nenew h1 z7
    have nn_q : M q = none := hF.none z7 mm_o0
    have h1 := f7.at h1 mm_n0
    have h2 : M7 q = some (ia G len r) := h2
    have hF := hF.tr f7 mm_i0
    refine mm_casti S hC hR h2 (by decide +kernel) dJ7_copyOf_59c91_10 ?_
    refine W.widen (k := 1) (n := 100) (by show 0 + 1 ≤ 1; omega) (by show 0 + len ≤ 100; omega) ?_
    exact mm_aret (v := some q) S hr (Or.inr ⟨_, rfl⟩) hlocks hR ⟨q, _, rfl, nn_q, h2, fun i _ => rfl, hF⟩ dJ7_copyOf_59c91_13

/-! ===== ForkWatch$History: the operations that were well ===== -/
/-- one operation: does it write, whose, which number, which file, how long, what -/
abbrev OpT : Type := Int32 × Nat × Nat × Nat × Nat × (Nat → Int32)
def opOk (o : OpT) : Prop := (o.1 = 0 ∨ o.1 = 1) ∧ o.2.1 < 4 ∧ o.2.2.2.1 < 16 ∧ o.2.2.2.2.1 ≤ 12
def opAt (G : mm_G) (M : mm_M) (O Y : Nat) (o : OpT) : Prop := M O = some (ob 4 [.int o.1, .int (nI o.2.1), .int (nI o.2.2.1), .int (nI o.2.2.2.1), .ref Y]) ∧ (∃ g, M Y = some (ia G o.2.2.2.2.1 g) ∧ ∀ i, i < o.2.2.2.2.1 → g i = o.2.2.2.2.2 i) ∧ opOk o
/-- the list of them -/
def opsA (G : mm_G) (M : mm_M) (Ls E no : Nat) (O Y : Nat → Nat) (op : Nat → OpT) : Prop :=
  (∃ mc, M Ls = some (ob 0 [.int mc, .ref E, .int (nI no)])) ∧ ((no = 0 ∧ E = G.2.2.2.2.1) ∨ ∃ (cap : Nat) (f : Nat → Option Nat), M E = some (oa G cap f) ∧ no ≤ cap ∧ 1 ≤ cap ∧ cap ≤ 1000 ∧ ∀ i, i < no → f i = some (O i)) ∧ ∀ i, i < no → opAt G M (O i) (Y i) (op i)
theorem opAt.out {G : mm_G} {M M' : mm_M} {O Y : Nat} {o : OpT} {L : List Nat} (h : opAt G M O Y o) (ff : mm_fr L M M') (h1 : O ∉ L) (h2 : Y ∉ L) : opAt G M' O Y o := by
  obtain ⟨a, ⟨g, b, c⟩, d⟩ := h
  exact ⟨ff.at a h1, ⟨g, ff.at b h2, c⟩, d⟩
theorem opsA.out {G : mm_G} {M M' : mm_M} {Ls E no : Nat} {O Y : Nat → Nat} {op : Nat → OpT} {L : List Nat} (h : opsA G M Ls E no O Y op) (ff : mm_fr L M M') (h1 : Ls ∉ L) (h2 : E ∉ L) (h3 : ∀ i, i < no → O i ∉ L ∧ Y i ∉ L) : opsA G M' Ls E no O Y op := by
  obtain ⟨⟨mc, a⟩, b, c⟩ := h
  refine ⟨⟨mc, ff.at a h1⟩, ?_, fun i hi => (c i hi).out ff (h3 i hi).1 (h3 i hi).2⟩
  rcases b with b | ⟨cap, f, b1, b2⟩
  · exact Or.inl b
  · exact Or.inr ⟨cap, f, ff.at b1 h2, b2⟩
theorem opsA.fr0 {G : mm_G} {M M' : mm_M} {Ls E no : Nat} {O Y : Nat → Nat} {op : Nat → OpT} (h : opsA G M Ls E no O Y op) (ff : mm_fr [] M M') : opsA G M' Ls E no O Y op := h.out ff mm_n0 mm_n0 (fun _ _ => ⟨mm_n0, mm_n0⟩)
def cnt (f : Nat → Int32) (o : OpT) : Prop := (nI o.2.2.1).toInt64 ≤ ct f o.2.1
/-- the store behind i operations -/
noncomputable def st_go (f : Nat → Int32) (op : Nat → OpT) (fc fl : Nat → Int32) : Nat → (Nat → Int32) × (Nat → Int32)
  | 0 => (fc, fl)
  | i + 1 => @ite _ (cnt f (op i) ∧ (op i).1 = 1) (Classical.propDecidable _) (va_cpy (op i).2.2.2.2.2 (st_go f op fc fl i).1 0 ((op i).2.2.2.1 * 12) (op i).2.2.2.2.1, upd (st_go f op fc fl i).2 (op i).2.2.2.1 (nI (op i).2.2.2.2.1)) (st_go f op fc fl i)
theorem st_y {f : Nat → Int32} {op : Nat → OpT} {fc fl : Nat → Int32} {i : Nat} (h : cnt f (op i) ∧ (op i).1 = 1) : st_go f op fc fl (i + 1) = (va_cpy (op i).2.2.2.2.2 (st_go f op fc fl i).1 0 ((op i).2.2.2.1 * 12) (op i).2.2.2.2.1, upd (st_go f op fc fl i).2 (op i).2.2.2.1 (nI (op i).2.2.2.2.1)) := @if_pos _ (Classical.propDecidable _) h _ _ _
theorem st_n {f : Nat → Int32} {op : Nat → OpT} {fc fl : Nat → Int32} {i : Nat} (h : ¬ (cnt f (op i) ∧ (op i).1 = 1)) : st_go f op fc fl (i + 1) = st_go f op fc fl i := @if_neg _ (Classical.propDecidable _) h _ _ _
def hold (s : (Nat → Int32) × (Nat → Int32)) (o : OpT) : Prop := s.2 o.2.2.2.1 = nI o.2.2.2.2.1 ∧ ∀ i, i < o.2.2.2.2.1 → s.1 (o.2.2.2.1 * 12 + i) = o.2.2.2.2.2 i
def ansP (f : Nat → Int32) (op : Nat → OpT) (fc fl : Nat → Int32) (a no : Nat) : Prop := ∀ i, i < no → (op i).2.1 = a → cnt f (op i) ∧ hold (st_go f op fc fl (i + 1)) (op i)
/-- neither of two beginnings goes on behind its end -/
def endP (f g : Nat → Int32) (op : Nat → OpT) (i : Nat) : Prop := ∃ j, j < i ∧ cnt g (op j) ∧ ¬ cnt f (op j)
def begP (f g : Nat → Int32) (op : Nat → OpT) (no : Nat) : Prop := ∀ i, i < no → ¬ ((cnt f (op i) ∧ endP f g op i) ∨ (cnt g (op i) ∧ endP g f op i))
