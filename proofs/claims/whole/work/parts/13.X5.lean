/-! ===== ForkWatch$Statement ===== -/
/-- four bytes as a number: the machine's own form -/
def ct_go (f : Nat → Int32) (k : Nat) : Nat → Int64
  | 0 => 0
  | i + 1 => (ct_go f k i <<< ((nI 8).toInt64 &&& 63)) ||| (f (4 + 4 * k + i)).toInt64
def ct (f : Nat → Int32) (k : Nat) : Int64 := ct_go f k 4
/-- a number as four bytes -/
def sc_go (f : Nat → Int32) (k : Nat) (v : Int64) : Nat → Nat → Int32
  | 0 => f
  | i + 1 => upd (sc_go f k v i) (4 + 4 * k + i) ((v.toUInt64 >>> ((nI (24 - 8 * i)).toInt64.toUInt64 &&& Int64.toUInt64 63)).toInt64.toInt32 &&& nI 255)
def sc (f : Nat → Int32) (k : Nat) (v : Int64) : Nat → Int32 := sc_go f k v 4
/-- no count above the other's -/
def na (f g : Nat → Int32) : Prop := ∀ k, k < 4 → ct f k ≤ ct g k
/-- a truth as the machine has it -/
def bq (r : Int32) (P : Prop) : Prop := (r = 1 ∧ P) ∨ (r = 0 ∧ ¬ P)

set_option maxHeartbeats 4000000 in
set_option maxRecDepth 100000 in
/-- Statement(client) -/
theorem c_X5_init (l : Launch) (G : mm_G) (M : mm_M) (sz : Nat) (h : Nat) (x : Int32) (h1 : M h = some (ob 6 [.null]))  : mm_v l yX5_init wsX5_init ({ frames := 1, cells := 1, slots := 84, locals := 12 } : Room) G ([.ref h, .int x] : List Value) M sz (fun M' => ∃ b, M b = none ∧ M' h = some (ob 6 [.ref b]) ∧ M' b = some (ia G 84 (upd (fun _ => 0) 0 x)) ∧ mm_fr [h] M M') := by
  refine mm_enter (cc := cX5_init) (maxL := 2) (ret := none) _ (by decide) rfl (Nat.le_of_ble_eq_true rfl) ?_
  intro p e s m below meth c ls S hr hlocks hname hA hC hR hl
  have hx := S.1
  have hb := S.2.1
  have hl : lv_has ls 2 [(0, .ref h), (1, .int x)] := hl
  have hin : meth.name = "<init>" := hname
  have inRX5 : ∀ w ∈ wsX50, w ∈ wsX5_init := by decide +kernel
  have hF : mm_fr [h] M M := mm_fr.rf
  refine lv_aload_n hx hb dX5_init_0 rfl (lv_at hl 0 rfl) ?_
  refine W.objInit hx hb S.2.2.2.1 (S.2.2.2.2 (.methodLink RX5 3 objectInit) (by decide +kernel)) (S.2.2.2.2 (.instanceMethod objectInit) (by decide +kernel)) (S.2.2.2.2 (.code objectInit ⟨#[0xb1]⟩ 1 none) (by decide +kernel)) rfl (by rw [S.2.2.1]; exact hl.1) rfl dX5_init_1 (Nat.le_of_ble_eq_true rfl) (Nat.le_of_ble_eq_true rfl) ?_
  refine W.eq (g2 := F0 m 4 ls []) rfl ?_
  refine lv_aload_n hx hb dX5_init_4 rfl (lv_at hl 0 rfl) ?_
  refine lv_bipush (v := nI 84) hx hb dX5_init_5 (by decide) ?_
  refine mm_newi S hC hA hR (by decide +kernel) (n := 84) (by omega) (Nat.le_of_ble_eq_true rfl) (Nat.le_of_ble_eq_true rfl) dX5_init_7 (fun b H M1 z3 h2 f2 hR => ?_)
  have n_h_b : h ≠ b := mm_nenew h1 z3
  have nn_b : M b = none := hF.none z3 (mm_oc h1 mm_o0)
  have h1 := f2.at h1 mm_n0
  have h2 : M1 b = some (ia G 84 (fun _ => 0)) := h2
  have hF := hF.tr f2 mm_i0
  refine mm_putF S hC hR (C := RX5) (T := TX5) (N := 1) (ref := "ForkWatch$Statement") 0 h1 inRX5 rfl tyX5_ok nmX5 (by decide) (by decide +kernel) (fun _ h9 => h9) rfl hin rfl rfl rfl (Nat.le_of_ble_eq_true rfl) dX5_init_9 (fun H locs M4 g6 f5 hR => ?_)
  have h2 := f5.at h2 (mm_nc (Ne.symm n_h_b) mm_n0)
  have h1 : M4 h = some (ob 6 [.ref b]) := g6
  have hF := hF.tr f5 (mm_ic 0 rfl mm_i0)
  refine lv_aload_n hx hb dX5_init_12 rfl (lv_at hl 0 rfl) ?_
  refine mm_get S hC hR (C := RX5) (T := TX5) (N := 1) (ref := "ForkWatch$Statement") (v := .ref b) 0 h1 inRX5 rfl (by decide) (by decide +kernel) (fun _ h9 => h9) rfl dX5_init_13 ?_
  refine lv_iconst (v := nI 0) hx hb dX5_init_16 (by decide) ?_
  refine lv_iload_n hx hb dX5_init_17 rfl (lv_at hl 1 rfl) ?_
  refine mm_iast S hC hR h2 (j := 0) (by omega) (by omega) dX5_init_18 (fun H locs M7 g9 f8 hR => ?_)
  have h1 := f8.at h1 (mm_nc n_h_b mm_n0)
  have h2 : M7 b = some (ia G 84 (upd (fun _ => 0) 0 x)) := g9
  have hF := hF.tr f8 (mm_in nn_b mm_i0)
  exact mm_vret S hr hlocks hR ⟨b, nn_b, h1, h2, hF⟩ dX5_init_19

set_option maxHeartbeats 4000000 in
set_option maxRecDepth 100000 in
/-- become(other): the bytes are copied -/
theorem c_X5_become (l : Launch) (G : mm_G) (M : mm_M) (sz : Nat) (h b h' b' : Nat) (f f' : Nat → Int32) (h1 : M h = some (ob 6 [.ref b])) (h2 : M b = some (ia G 84 f)) (h3 : M h' = some (ob 6 [.ref b'])) (h4 : M b' = some (ia G 84 f'))  : mm_v l yX5_become wsX5_become ({ frames := 1, cells := 0, slots := 0, locals := 30 } : Room) G ([.ref h, .ref h'] : List Value) M sz (fun M' => M' b = some (ia G 84 (va_cpy f' f 0 0 84)) ∧ mm_fr [b] M M') := by
  refine mm_enter (cc := cX5_become) (maxL := 2) (ret := none) _ (by decide) rfl (Nat.le_of_ble_eq_true rfl) ?_
  intro p e s m below meth c ls S hr hlocks hname hA hC hR hl
  have hx := S.1
  have hb := S.2.1
  have hl : lv_has ls 2 [(0, .ref h), (1, .ref h')] := hl
  have inRX5 : ∀ w ∈ wsX50, w ∈ wsX5_become := by decide +kernel
  have hF : mm_fr [b] M M := mm_fr.rf
  refine lv_aload_n hx hb dX5_become_0 rfl (lv_at hl 1 rfl) ?_
  refine mm_get S hC hR (C := RX5) (T := TX5) (N := 1) (ref := "ForkWatch$Statement") (v := .ref b') 0 h3 inRX5 rfl (by decide) (by decide +kernel) (fun _ h9 => h9) rfl dX5_become_1 ?_
  refine lv_iconst (v := nI 0) hx hb dX5_become_4 (by decide) ?_
  refine lv_aload_n hx hb dX5_become_5 rfl (lv_at hl 0 rfl) ?_
  refine mm_get S hC hR (C := RX5) (T := TX5) (N := 1) (ref := "ForkWatch$Statement") (v := .ref b) 0 h1 inRX5 rfl (by decide) (by decide +kernel) (fun _ h9 => h9) rfl dX5_become_6 ?_
  refine lv_iconst (v := nI 0) hx hb dX5_become_9 (by decide) ?_
  refine lv_bipush (v := nI 84) hx hb dX5_become_10 (by decide) ?_
  refine mm_copy S hC hR hl.1 h4 h2 (by decide +kernel) (by decide +kernel) (by decide +kernel) (by decide +kernel) (sp := 0) (dp := 0) (n := 84) (by omega) (by omega) (by omega) (by omega) (Nat.le_of_ble_eq_true rfl) (Nat.le_of_ble_eq_true rfl) dX5_become_12 (fun H locs M10 g12 f11 hR => ?_)
  have h1 := f11.at h1 (mm_nc (mm_neoi h1 h2) mm_n0)
  have h3 := f11.at h3 (mm_nc (mm_neoi h3 h2) mm_n0)
  have h2 : M10 b = some (ia G 84 (va_cpy f' f 0 0 84)) := g12
  have hF := hF.tr f11 (mm_ic 0 rfl mm_i0)
  exact mm_vret S hr hlocks hR ⟨h2, hF⟩ dX5_become_15

set_option maxHeartbeats 4000000 in
set_option maxRecDepth 100000 in
/-- four bytes of a statement, as a number without a sign -/
theorem c_X5_countOf (l : Launch) (G : mm_G) (M : mm_M) (sz : Nat) (h b k : Nat) (f : Nat → Int32) (h1 : M h = some (ob 6 [.ref b])) (h2 : M b = some (ia G 84 f)) (hk : k < 4) : mm_l l yX5_countOf wsX5_countOf ({ frames := 0, cells := 0, slots := 0, locals := 0 } : Room) G ([.ref h, .int (nI k)] : List Value) M sz (fun r M' => r = ct f k ∧ mm_fr [] M M') := by
  refine mm_enter (cc := cX5_countOf) (maxL := 5) (ret := (some .long)) _ (by decide) rfl (Nat.le_of_ble_eq_true rfl) ?_
  intro p e s m below meth c ls S hr hlocks hname hA hC hR hl
  have hx := S.1
  have hb := S.2.1
  have hl : lv_has ls 5 [(0, .ref h), (1, .int (nI k))] := hl
  have inRX5 : ∀ w ∈ wsX50, w ∈ wsX5_countOf := by decide +kernel
  have hF : mm_fr [] M M := mm_fr.rf
  refine lv_lconst (v := 0) hx hb dX5_countOf_0 (by decide) ?_
  refine lv_lstore_n (lv' := [(2, .long 0), (0, .ref h), (1, .int (nI k))]) hx hb dX5_countOf_1 rfl hl (by decide) rfl (fun ls hl => ?_)
  refine lv_iconst (v := nI 0) hx hb dX5_countOf_2 (by decide) ?_
  refine lv_istore (lv' := [(4, .int (nI 0)), (2, .long 0), (0, .ref h), (1, .int (nI k))]) hx hb dX5_countOf_3 hl (by decide) rfl (fun ls hl => ?_)
  have loop : ∀ (n : Nat) (i : Nat) (ls : Array Slot), (4 < i + n) → (i ≤ 4) → lv_has ls 5 [(0, .ref h), (1, .int (nI k)), (2, .long (ct_go f k i)), (4, .int (nI i))] → W p l e ({ frames := 0, cells := 0, slots := 0, locals := 0 } : Room) s m ([.ref h, .int (nI k)] : List Value).toArray below meth c s.heap [] 0 0 (MQ below (va_Ql (fun r M' => r = ct f k ∧ mm_fr [] M M') (fun M' t => mm_H G (mm_A M sz) M' t.heap) (mm_A M sz)) ([.ref h, .int (nI k)] : List Value).toArray s 0 0 (mm_A M sz)) (F0 m 5 ls []) := by
    intro n
    induction n with
    | zero =>
      intro i ls hn hi hl
      omega
    | succ n ih =>
      intro i ls hn hi hl
      refine lv_iload hx hb dX5_countOf_5 (lv_at hl 3 rfl) ?_
      refine lv_iconst (v := nI 4) hx hb dX5_countOf_7 (by decide) ?_
      refine lv_icmp_ge (tgt := 37) hx hb dX5_countOf_8 (by decide) (fun c13 => ?_) (fun c13 => ?_)
      · have c13 : 4 ≤ i := (nI_leI (by omega) (by omega)).mp c13
        have e4 : i = 4 := by omega
        subst e4
        refine lv_lload_n hx hb dX5_countOf_37 rfl (lv_at hl 2 rfl) ?_
        exact mm_lret S hr hlocks hR ⟨rfl, hF⟩ dX5_countOf_38
      · have c13 : ¬ (4 ≤ i) := fun z => c13 ((nI_leI (by omega) (by omega)).mpr z)
        refine lv_lload_n hx hb dX5_countOf_11 rfl (lv_at hl 2 rfl) ?_
        refine lv_bipush (v := nI 8) hx hb dX5_countOf_12 (by decide) ?_
        refine lv_lshl hx hb dX5_countOf_14 rfl ?_
        refine lv_aload_n hx hb dX5_countOf_15 rfl (lv_at hl 0 rfl) ?_
        refine mm_get S hC hR (C := RX5) (T := TX5) (N := 1) (ref := "ForkWatch$Statement") (v := .ref b) 0 h1 inRX5 rfl (by decide) (by decide +kernel) (fun _ h9 => h9) rfl dX5_countOf_16 ?_
        refine lv_iconst (v := nI 4) hx hb dX5_countOf_19 (by decide) ?_
        refine lv_iconst (v := nI 4) hx hb dX5_countOf_20 (by decide) ?_
        refine lv_iload_n hx hb dX5_countOf_21 rfl (lv_at hl 1 rfl) ?_
        refine lv_imul hx hb dX5_countOf_22 ?_
        refine mm_eqi (pk_mul _ _) ?_
        refine lv_iadd hx hb dX5_countOf_23 ?_
        refine mm_eqi (nI_add _ _) ?_
        refine lv_iload hx hb dX5_countOf_24 (lv_at hl 3 rfl) ?_
        refine lv_iadd hx hb dX5_countOf_26 ?_
        refine mm_eqi (nI_add _ _) ?_
        refine mm_iald S hC hR h2 (j := (4 + (4 * k) + i)) (by omega) (by omega) dX5_countOf_27 ?_
        refine lv_i2l hx hb dX5_countOf_28 rfl ?_
        refine lv_lor hx hb dX5_countOf_29 ?_
        refine lv_lstore_n (lv' := [(2, .long (((ct_go f k i) <<< ((nI 8).toInt64 &&& 63)) ||| ((f (4 + (4 * k) + i)).toInt64))), (0, .ref h), (1, .int (nI k)), (4, .int (nI i))]) hx hb dX5_countOf_30 rfl hl (by decide) rfl (fun ls hl => ?_)
        refine lv_iinc (v := (nI (i + 1))) (lv' := [(4, .int (nI (i + 1))), (2, .long (((ct_go f k i) <<< ((nI 8).toInt64 &&& 63)) ||| ((f (4 + (4 * k) + i)).toInt64))), (0, .ref h), (1, .int (nI k))]) hx hb dX5_countOf_31 hl (k := 3) rfl (by rw [show Int32.ofInt 1 = nI 1 from by decide]; exact nI_add _ _) (by decide) rfl (fun ls hl => ?_)
        refine lv_goto (tgt := 5) hx hb dX5_countOf_34 (by decide) ?_
        exact ih (i + 1) ls (by omega) (by omega) (lv_sub hl [2, 3, 1, 0] rfl)
  exact loop 5 0 ls (by omega) (by omega) (lv_sub hl [2, 3, 1, 0] rfl)

set_option maxHeartbeats 4000000 in
set_option maxRecDepth 100000 in
/-- a number into four bytes of a statement -/
theorem c_X5_setCount (l : Launch) (G : mm_G) (M : mm_M) (sz : Nat) (h b k : Nat) (f : Nat → Int32) (v : Int64) (h1 : M h = some (ob 6 [.ref b])) (h2 : M b = some (ia G 84 f)) (hk : k < 4) : mm_v l yX5_setCount wsX5_setCount ({ frames := 0, cells := 0, slots := 0, locals := 0 } : Room) G ([.ref h, .int (nI k), .long v] : List Value) M sz (fun M' => M' b = some (ia G 84 (sc f k v)) ∧ mm_fr [b] M M') := by
  refine mm_enter (cc := cX5_setCount) (maxL := 5) (ret := none) _ (by decide) rfl (Nat.le_of_ble_eq_true rfl) ?_
  intro p e s m below meth c ls S hr hlocks hname hA hC hR hl
  have hx := S.1
  have hb := S.2.1
  have hl : lv_has ls 5 [(0, .ref h), (1, .int (nI k)), (2, .long v)] := hl
  have inRX5 : ∀ w ∈ wsX50, w ∈ wsX5_setCount := by decide +kernel
  have hF : mm_fr [b] M M := mm_fr.rf
  refine lv_iconst (v := nI 0) hx hb dX5_setCount_0 (by decide) ?_
  refine lv_istore (lv' := [(4, .int (nI 0)), (0, .ref h), (1, .int (nI k)), (2, .long v)]) hx hb dX5_setCount_1 hl (by decide) rfl (fun ls hl => ?_)
  have loop : ∀ (n : Nat) (i : Nat) (M1 : mm_M) (H : Heap) (locs : List Loc) (ls : Array Slot), 4 < i + n → i ≤ 4 → M1 h = some (ob 6 [.ref b]) → M1 b = some (ia G 84 (sc_go f k v i)) → mm_fr [b] M M1 → mm_R G s (mm_A M sz) M1 H locs → lv_has ls 5 [(0, .ref h), (1, .int (nI k)), (2, .long v), (4, .int (nI i))] → W p l e ({ frames := 0, cells := 0, slots := 0, locals := 0 } : Room) s m ([.ref h, .int (nI k), .long v] : List Value).toArray below meth c H locs 0 0 (MQ below (va_Qv (fun M' => M' b = some (ia G 84 (sc f k v)) ∧ mm_fr [b] M M') (fun M' t => mm_H G (mm_A M sz) M' t.heap) (mm_A M sz)) ([.ref h, .int (nI k), .long v] : List Value).toArray s 0 0 (mm_A M sz)) (F0 m 3 ls []) := by
    intro n
    induction n with
    | zero =>
      intro i M1 H locs ls hn hi h1 h2 hF hR hl
      omega
    | succ n ih =>
      intro i M1 H locs ls hn hi h1 h2 hF hR hl
      refine lv_iload hx hb dX5_setCount_3 (lv_at hl 3 rfl) ?_
      refine lv_iconst (v := nI 4) hx hb dX5_setCount_5 (by decide) ?_
      refine lv_icmp_ge (tgt := 43) hx hb dX5_setCount_6 (by decide) (fun c14 => ?_) (fun c14 => ?_)
      · have c14 : 4 ≤ i := (nI_leI (by omega) (by omega)).mp c14
        have e4 : i = 4 := by omega
        subst e4
        exact mm_vret S hr hlocks hR ⟨h2, hF⟩ dX5_setCount_43
      · have c14 : ¬ (4 ≤ i) := fun z => c14 ((nI_leI (by omega) (by omega)).mpr z)
        refine lv_aload_n hx hb dX5_setCount_9 rfl (lv_at hl 0 rfl) ?_
        refine mm_get S hC hR (C := RX5) (T := TX5) (N := 1) (ref := "ForkWatch$Statement") (v := .ref b) 0 h1 inRX5 rfl (by decide) (by decide +kernel) (fun _ h9 => h9) rfl dX5_setCount_10 ?_
        refine lv_iconst (v := nI 4) hx hb dX5_setCount_13 (by decide) ?_
        refine lv_iconst (v := nI 4) hx hb dX5_setCount_14 (by decide) ?_
        refine lv_iload_n hx hb dX5_setCount_15 rfl (lv_at hl 1 rfl) ?_
        refine lv_imul hx hb dX5_setCount_16 ?_
        refine mm_eqi (pk_mul _ _) ?_
        refine lv_iadd hx hb dX5_setCount_17 ?_
        refine mm_eqi (nI_add _ _) ?_
        refine lv_iload hx hb dX5_setCount_18 (lv_at hl 3 rfl) ?_
        refine lv_iadd hx hb dX5_setCount_20 ?_
        refine mm_eqi (nI_add _ _) ?_
        refine lv_lload_n hx hb dX5_setCount_21 rfl (lv_at hl 2 rfl) ?_
        refine lv_bipush (v := nI 24) hx hb dX5_setCount_22 (by decide) ?_
        refine lv_bipush (v := nI 8) hx hb dX5_setCount_24 (by decide) ?_
        refine lv_iload hx hb dX5_setCount_26 (lv_at hl 3 rfl) ?_
        refine lv_imul hx hb dX5_setCount_28 ?_
        refine mm_eqi (pk_mul _ _) ?_
        refine lv_isub hx hb dX5_setCount_29 ?_
        refine mm_eqi (pk_sub (by omega)) ?_
        refine lv_lushr hx hb dX5_setCount_30 rfl ?_
        refine lv_l2i hx hb dX5_setCount_31 rfl ?_
        refine lv_sipush (v := nI 255) hx hb dX5_setCount_32 (by decide) ?_
        refine lv_iand hx hb dX5_setCount_35 ?_
        refine mm_iast S hC hR h2 (j := (4 + (4 * k) + i)) (by omega) (by omega) dX5_setCount_36 (fun H locs M15 g17 f16 hR => ?_)
        have h1 := f16.at h1 (mm_nc (mm_neoi h1 h2) mm_n0)
        have h2 : M15 b = some (ia G 84 (upd (sc_go f k v i) (4 + (4 * k) + i) ((((v.toUInt64 >>> ((nI (24 - (8 * i))).toInt64.toUInt64 &&& Int64.toUInt64 63)).toInt64).toInt32) &&& (nI 255)))) := g17
        have hF := hF.tr f16 (mm_ic 0 rfl mm_i0)
        refine lv_iinc (v := (nI (i + 1))) (lv' := [(4, .int (nI (i + 1))), (0, .ref h), (1, .int (nI k)), (2, .long v)]) hx hb dX5_setCount_37 hl (k := 3) rfl (by rw [show Int32.ofInt 1 = nI 1 from by decide]; exact nI_add _ _) (by decide) rfl (fun ls hl => ?_)
        refine lv_goto (tgt := 3) hx hb dX5_setCount_40 (by decide) ?_
        exact ih (i + 1) _ H locs ls (by omega) (by omega) h1 h2 hF hR (lv_sub hl [1, 2, 3, 0] rfl)
  exact loop 5 0 _ _ _ ls (by omega) (by omega) h1 h2 hF hR (lv_sub hl [1, 2, 3, 0] rfl)

set_option maxHeartbeats 4000000 in
set_option maxRecDepth 100000 in
/-- no count above the other statement's -/
theorem c_X5_isNotAbove (l : Launch) (G : mm_G) (M : mm_M) (sz : Nat) (h b h' b' : Nat) (f f' : Nat → Int32) (h1 : M h = some (ob 6 [.ref b])) (h2 : M b = some (ia G 84 f)) (h3 : M h' = some (ob 6 [.ref b'])) (h4 : M b' = some (ia G 84 f'))  : mm_i l yX5_isNotAbove wsX5_isNotAbove ({ frames := 1, cells := 0, slots := 0, locals := 24 } : Room) G ([.ref h, .ref h'] : List Value) M sz (fun r M' => bq r (na f f') ∧ mm_fr [] M M') := by
  refine mm_enter (cc := cX5_isNotAbove) (maxL := 3) (ret := (some .boolean)) _ (by decide) rfl (Nat.le_of_ble_eq_true rfl) ?_
  intro p e s m below meth c ls S hr hlocks hname hA hC hR hl
  have hx := S.1
  have hb := S.2.1
  have hl : lv_has ls 3 [(0, .ref h), (1, .ref h')] := hl
  have inRX5 : ∀ w ∈ wsX50, w ∈ wsX5_isNotAbove := by decide +kernel
  have hF : mm_fr [] M M := mm_fr.rf
  refine lv_iconst (v := nI 0) hx hb dX5_isNotAbove_0 (by decide) ?_
  refine lv_istore_n (lv' := [(2, .int (nI 0)), (0, .ref h), (1, .ref h')]) hx hb dX5_isNotAbove_1 rfl hl (by decide) rfl (fun ls hl => ?_)
  have loop : ∀ (n : Nat) (k : Nat) (M1 : mm_M) (H : Heap) (locs : List Loc) (ls : Array Slot), 4 < k + n → k ≤ 4 → (∀ j, j < k → ct f j ≤ ct f' j) → M1 h = some (ob 6 [.ref b]) → M1 b = some (ia G 84 f) → M1 h' = some (ob 6 [.ref b']) → M1 b' = some (ia G 84 f') → mm_fr [] M M1 → mm_R G s (mm_A M sz) M1 H locs → lv_has ls 3 [(0, .ref h), (1, .ref h'), (2, .int (nI k))] → W p l e ({ frames := 1, cells := 0, slots := 0, locals := 24 } : Room) s m ([.ref h, .ref h'] : List Value).toArray below meth c H locs 0 0 (MQ below (va_Qi (fun r M' => bq r (na f f') ∧ mm_fr [] M M') (fun M' t => mm_H G (mm_A M sz) M' t.heap) (mm_A M sz)) ([.ref h, .ref h'] : List Value).toArray s 0 0 (mm_A M sz)) (F0 m 2 ls []) := by
    intro n
    induction n with
    | zero =>
      intro k M1 H locs ls hn hk hle h1 h2 h3 h4 hF hR hl
      omega
    | succ n ih =>
      intro k M1 H locs ls hn hk hle h1 h2 h3 h4 hF hR hl
      refine lv_iload_n hx hb dX5_isNotAbove_2 rfl (lv_at hl 2 rfl) ?_
      refine lv_iconst (v := nI 4) hx hb dX5_isNotAbove_3 (by decide) ?_
      refine lv_icmp_ge (tgt := 29) hx hb dX5_isNotAbove_4 (by decide) (fun c18 => ?_) (fun c18 => ?_)
      · have c18 : 4 ≤ k := (nI_leI (by omega) (by omega)).mp c18
        refine lv_iconst (v := nI 1) hx hb dX5_isNotAbove_29 (by decide) ?_
        exact mm_zret S hr hlocks (by decide) hR ⟨Or.inl ⟨rfl, fun j hj => hle j (by omega)⟩, hF⟩ dX5_isNotAbove_30
      · have c18 : ¬ (4 ≤ k) := fun z => c18 ((nI_leI (by omega) (by omega)).mpr z)
        refine lv_aload_n hx hb dX5_isNotAbove_7 rfl (lv_at hl 0 rfl) ?_
        refine lv_iload_n hx hb dX5_isNotAbove_8 rfl (lv_at hl 2 rfl) ?_
        refine mm_calll hA hR (va_runV (As := [.int (nI k)]) (rest := []) S (c_X5_countOf l G M1 H.size h b k f h1 h2 (by omega)) (cwV 1 S.2.2.2.2 gX5_isNotAbove_X5_countOf rfl rfl rfl (by decide +kernel) ⟨Nat.le_of_ble_eq_true rfl, Nat.le_of_ble_eq_true rfl⟩) (mm_preV hC hA hR _ h1 rfl) rfl rfl hl.1 rfl (lv_room (Nat.le_of_ble_eq_true rfl)) dX5_isNotAbove_9 ⟨Nat.le_of_ble_eq_true rfl, Nat.le_of_ble_eq_true rfl⟩) (fun r19 M20 H locs hp hR => ?_)
        obtain ⟨e1, f1⟩ := hp
        have h1 := f1.at h1 mm_n0
        have h2 := f1.at h2 mm_n0
        have h3 := f1.at h3 mm_n0
        have h4 := f1.at h4 mm_n0
        have hF := hF.tr f1 mm_i0
        refine lv_aload_n hx hb dX5_isNotAbove_12 rfl (lv_at hl 1 rfl) ?_
        refine lv_iload_n hx hb dX5_isNotAbove_13 rfl (lv_at hl 2 rfl) ?_
        refine mm_calll hA hR (va_runV (As := [.int (nI k)]) (rest := [.long r19]) S (c_X5_countOf l G M20 H.size h' b' k f' h3 h4 (by omega)) (cwV 1 S.2.2.2.2 gX5_isNotAbove_X5_countOf rfl rfl rfl (by decide +kernel) ⟨Nat.le_of_ble_eq_true rfl, Nat.le_of_ble_eq_true rfl⟩) (mm_preV hC hA hR _ h3 rfl) rfl rfl hl.1 rfl (lv_room (Nat.le_of_ble_eq_true rfl)) dX5_isNotAbove_14 ⟨Nat.le_of_ble_eq_true rfl, Nat.le_of_ble_eq_true rfl⟩) (fun r21 M22 H locs hp hR => ?_)
        obtain ⟨e2, f2⟩ := hp
        have h1 := f2.at h1 mm_n0
        have h2 := f2.at h2 mm_n0
        have h3 := f2.at h3 mm_n0
        have h4 := f2.at h4 mm_n0
        have hF := hF.tr f2 mm_i0
        refine W.lcmp hx hb dX5_isNotAbove_17 ?_
        refine lv_if_le (tgt := 23) hx hb dX5_isNotAbove_18 (by decide) (fun cc => ?_) (fun cc => ?_)
        · skip
          have cc := (lg_cmp_le _ _).mp cc
          rw [e1, e2] at cc
          refine lv_iinc (v := (nI (k + 1))) (lv' := [(2, .int (nI (k + 1))), (0, .ref h), (1, .ref h')]) hx hb dX5_isNotAbove_23 hl (k := 2) rfl (by rw [show Int32.ofInt 1 = nI 1 from by decide]; exact nI_add _ _) (by decide) rfl (fun ls hl => ?_)
          refine lv_goto (tgt := 2) hx hb dX5_isNotAbove_26 (by decide) ?_
          exact ih (k + 1) _ H locs ls (by omega) (by omega) (lt_s hle cc) h1 h2 h3 h4 hF hR (lv_sub hl [1, 2, 0] rfl)
        · skip
          have cc : ¬ ct f k ≤ ct f' k := fun z => cc ((lg_cmp_le _ _).mpr (by rw [e1, e2]; exact z))
          refine lv_iconst (v := nI 0) hx hb dX5_isNotAbove_21 (by decide) ?_
          exact mm_zret S hr hlocks (by decide) hR ⟨Or.inr ⟨rfl, fun z => cc (z k (by omega))⟩, hF⟩ dX5_isNotAbove_22
  exact loop 5 0 _ _ _ ls (by omega) (by omega) (fun j hj => absurd hj (Nat.not_lt_zero j)) h1 h2 h3 h4 hF hR (lv_sub hl [1, 2, 0] rfl)

set_option maxHeartbeats 4000000 in
set_option maxRecDepth 100000 in
/-- one of two statements is not above the other -/
theorem c_X5_isInLineWith (l : Launch) (G : mm_G) (M : mm_M) (sz : Nat) (h b h' b' : Nat) (f f' : Nat → Int32) (h1 : M h = some (ob 6 [.ref b])) (h2 : M b = some (ia G 84 f)) (h3 : M h' = some (ob 6 [.ref b'])) (h4 : M b' = some (ia G 84 f'))  : mm_i l yX5_isInLineWith wsX5_isInLineWith ({ frames := 2, cells := 0, slots := 0, locals := 48 } : Room) G ([.ref h, .ref h'] : List Value) M sz (fun r M' => bq r (na f f' ∨ na f' f) ∧ mm_fr [] M M') := by
  refine mm_enter (cc := cX5_isInLineWith) (maxL := 2) (ret := (some .boolean)) _ (by decide) rfl (Nat.le_of_ble_eq_true rfl) ?_
  intro p e s m below meth c ls S hr hlocks hname hA hC hR hl
  have hx := S.1
  have hb := S.2.1
  have hl : lv_has ls 2 [(0, .ref h), (1, .ref h')] := hl
  have inRX5 : ∀ w ∈ wsX50, w ∈ wsX5_isInLineWith := by decide +kernel
  have hF : mm_fr [] M M := mm_fr.rf
  refine lv_aload_n hx hb dX5_isInLineWith_0 rfl (lv_at hl 0 rfl) ?_
  refine lv_aload_n hx hb dX5_isInLineWith_1 rfl (lv_at hl 1 rfl) ?_
  refine mm_calli hA hR (va_runV (As := [.ref h']) (rest := []) S (c_X5_isNotAbove l G M _ h b h' b' f f' h1 h2 h3 h4) (cwV 1 S.2.2.2.2 gX5_isInLineWith_X5_isNotAbove rfl rfl rfl (by decide +kernel) ⟨Nat.le_of_ble_eq_true rfl, Nat.le_of_ble_eq_true rfl⟩) (mm_preV hC hA hR _ h1 rfl) rfl rfl hl.1 rfl (lv_room (Nat.le_of_ble_eq_true rfl)) dX5_isInLineWith_2 ⟨Nat.le_of_ble_eq_true rfl, Nat.le_of_ble_eq_true rfl⟩) (fun r23 M24 H locs hp hR => ?_)
  obtain ⟨q1, f1⟩ := hp
  have h1 := f1.at h1 mm_n0
  have h2 := f1.at h2 mm_n0
  have h3 := f1.at h3 mm_n0
  have h4 := f1.at h4 mm_n0
  have hF := hF.tr f1 mm_i0
  rcases q1 with ⟨e1, q1⟩ | ⟨e1, q1⟩ <;> subst e1
  · skip
    refine lv_if_ne (tgt := 16) hx hb dX5_isInLineWith_5 (by decide) (fun _ => ?_) (fun z => by first | exact absurd z (by decide) | exact absurd (by decide) z)
    refine lv_iconst (v := nI 1) hx hb dX5_isInLineWith_16 (by decide) ?_
    refine lv_goto (tgt := 21) hx hb dX5_isInLineWith_17 (by decide) ?_
    exact mm_zret S hr hlocks (by decide) hR ⟨Or.inl ⟨rfl, Or.inl q1⟩, hF⟩ dX5_isInLineWith_21
  · skip
    refine lv_if_ne (tgt := 16) hx hb dX5_isInLineWith_5 (by decide) (fun z => by first | exact absurd z (by decide) | exact absurd (by decide) z) (fun _ => ?_)
    refine lv_aload_n hx hb dX5_isInLineWith_8 rfl (lv_at hl 1 rfl) ?_
    refine lv_aload_n hx hb dX5_isInLineWith_9 rfl (lv_at hl 0 rfl) ?_
    refine mm_calli hA hR (va_runV (As := [.ref h]) (rest := []) S (c_X5_isNotAbove l G M24 _ h' b' h b f' f h3 h4 h1 h2) (cwV 1 S.2.2.2.2 gX5_isInLineWith_X5_isNotAbove rfl rfl rfl (by decide +kernel) ⟨Nat.le_of_ble_eq_true rfl, Nat.le_of_ble_eq_true rfl⟩) (mm_preV hC hA hR _ h3 rfl) rfl rfl hl.1 rfl (lv_room (Nat.le_of_ble_eq_true rfl)) dX5_isInLineWith_10 ⟨Nat.le_of_ble_eq_true rfl, Nat.le_of_ble_eq_true rfl⟩) (fun r25 M26 H locs hp hR => ?_)
    obtain ⟨q2, f2⟩ := hp
    have h1 := f2.at h1 mm_n0
    have h2 := f2.at h2 mm_n0
    have h3 := f2.at h3 mm_n0
    have h4 := f2.at h4 mm_n0
    have hF := hF.tr f2 mm_i0
    rcases q2 with ⟨e2, q2⟩ | ⟨e2, q2⟩ <;> subst e2
    · skip
      refine lv_if_eq (tgt := 20) hx hb dX5_isInLineWith_13 (by decide) (fun z => by first | exact absurd z (by decide) | exact absurd (by decide) z) (fun _ => ?_)
      refine lv_iconst (v := nI 1) hx hb dX5_isInLineWith_16 (by decide) ?_
      refine lv_goto (tgt := 21) hx hb dX5_isInLineWith_17 (by decide) ?_
      exact mm_zret S hr hlocks (by decide) hR ⟨Or.inl ⟨rfl, Or.inr q2⟩, hF⟩ dX5_isInLineWith_21
    · skip
      refine lv_if_eq (tgt := 20) hx hb dX5_isInLineWith_13 (by decide) (fun _ => ?_) (fun z => by first | exact absurd z (by decide) | exact absurd (by decide) z)
      refine lv_iconst (v := nI 0) hx hb dX5_isInLineWith_20 (by decide) ?_
      exact mm_zret S hr hlocks (by decide) hR ⟨Or.inr ⟨rfl, fun z => z.elim q1 q2⟩, hF⟩ dX5_isInLineWith_21
