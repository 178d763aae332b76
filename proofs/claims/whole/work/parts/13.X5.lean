/-! ===== ForkWatch$Statement ===== -/
/-- four bytes as a number: the machine's own form -/
def ct_go (f : Nat → Int32) (k : Nat) : Nat → Int64
  | 0 => 0
  | i + 1 => (ct_go f k i <<< ((nI 8).toInt64 &&& 63)) ||| (f (4 + 4 * k + i)).toInt64
def ct (f : Nat → Int32) (k : Nat) : Int64 := ct_go f k 4

set_option maxHeartbeats 4000000 in
set_option maxRecDepth 100000 in
/-- four bytes of a statement, as a number without a sign -/
theorem c_X5_countOf (l : Launch) (G : mm_G) (M : mm_M) (sz : Nat) (h b k : Nat) (f : Nat → Int32) (h1 : M h = some (ob 6 [.ref b])) (h2 : M b = some (ia G 84 f)) (hk : k < 4) : mm_l l yX5_countOf wsX5_countOf ({ frames := 0, cells := 0, slots := 0, locals := 0 } : Room) G ([.ref h, .int (nI k)] : List Value) M sz (fun r M' => r = ct f k ∧ mm_fr [] M M') := by
  refine mm_enter (cc := cX5_countOf) (maxL := 5) (ret := (some .long)) _ (by decide) rfl (Nat.le_of_ble_eq_true rfl) ?_
  intro p e s m below meth c ls S hr hlocks hname hA hC hR hl
  have hx := S.1
  have hb := S.2.1
  have hl : lv_has ls 5 [(0, .ref h), (1, .int (nI k))] := hl
  have inRX5 : ∀ w ∈ wsX50, w ∈ wsX5_countOf := by decide +kernel
  have hF : mm_fr [] M M := mm_fr.rf
  refine lv_lconst (v := 0) hx hb dX5_countOf_0 (by decide) ?_
  refine lv_lstore_n (lv' := [(2, .long 0), (0, .ref h), (1, .int (nI k))]) hx hb dX5_countOf_1 rfl hl (by decide) rfl (fun ls hl => ?_)
  refine lv_iconst (v := nI 0) hx hb dX5_countOf_2 (by decide) ?_
  refine lv_istore (lv' := [(4, .int (nI 0)), (2, .long 0), (0, .ref h), (1, .int (nI k))]) hx hb dX5_countOf_3 hl (by decide) rfl (fun ls hl => ?_)
  have loop : ∀ (n : Nat) (i : Nat) (ls : Array Slot), (4 < i + n) → (i ≤ 4) → lv_has ls 5 [(0, .ref h), (1, .int (nI k)), (2, .long (ct_go f k i)), (4, .int (nI i))] → W p l e ({ frames := 0, cells := 0, slots := 0, locals := 0 } : Room) s m ([.ref h, .int (nI k)] : List Value).toArray below meth c s.heap [] 0 0 (MQ below (va_Ql (fun r M' => r = ct f k ∧ mm_fr [] M M') (fun M' t => mm_H G (mm_A M sz) M' t.heap) (mm_A M sz)) ([.ref h, .int (nI k)] : List Value).toArray s 0 0 (mm_A M sz)) (F0 m 5 ls []) := by
    intro n
    induction n with
    | zero =>
      intro i ls hn hi hl
      omega
    | succ n ih =>
      intro i ls hn hi hl
      refine lv_iload hx hb dX5_countOf_5 (lv_at hl 3 rfl) ?_
      refine lv_iconst (v := nI 4) hx hb dX5_countOf_7 (by decide) ?_
      refine lv_icmp_ge (tgt := 37) hx hb dX5_countOf_8 (by decide) (fun c1 => ?_) (fun c1 => ?_)
      · have c1 : 4 ≤ i := (nI_leI (by omega) (by omega)).mp c1
        have e4 : i = 4 := by omega
        subst e4
        refine lv_lload_n hx hb dX5_countOf_37 rfl (lv_at hl 2 rfl) ?_
        exact mm_lret S hr hlocks hR ⟨rfl, hF⟩ dX5_countOf_38
      · have c1 : ¬ (4 ≤ i) := fun z => c1 ((nI_leI (by omega) (by omega)).mpr z)
        refine lv_lload_n hx hb dX5_countOf_11 rfl (lv_at hl 2 rfl) ?_
        refine lv_bipush (v := nI 8) hx hb dX5_countOf_12 (by decide) ?_
        refine lv_lshl hx hb dX5_countOf_14 rfl ?_
        refine lv_aload_n hx hb dX5_countOf_15 rfl (lv_at hl 0 rfl) ?_
        refine mm_get S hC hR (C := RX5) (T := TX5) (N := 1) (ref := "ForkWatch$Statement") (v := .ref b) 0 h1 inRX5 rfl (by decide) (by decide +kernel) (fun _ h9 => h9) rfl dX5_countOf_16 ?_
        refine lv_iconst (v := nI 4) hx hb dX5_countOf_19 (by decide) ?_
        refine lv_iconst (v := nI 4) hx hb dX5_countOf_20 (by decide) ?_
        refine lv_iload_n hx hb dX5_countOf_21 rfl (lv_at hl 1 rfl) ?_
        refine lv_imul hx hb dX5_countOf_22 ?_
        refine mm_eqi (pk_mul _ _) ?_
        refine lv_iadd hx hb dX5_countOf_23 ?_
        refine mm_eqi (nI_add _ _) ?_
        refine lv_iload hx hb dX5_countOf_24 (lv_at hl 3 rfl) ?_
        refine lv_iadd hx hb dX5_countOf_26 ?_
        refine mm_eqi (nI_add _ _) ?_
        refine mm_iald S hC hR h2 (j := (4 + (4 * k) + i)) (by omega) (by omega) dX5_countOf_27 ?_
        refine lv_i2l hx hb dX5_countOf_28 rfl ?_
        refine lv_lor hx hb dX5_countOf_29 ?_
        refine lv_lstore_n (lv' := [(2, .long (((ct_go f k i) <<< ((nI 8).toInt64 &&& 63)) ||| ((f (4 + (4 * k) + i)).toInt64))), (0, .ref h), (1, .int (nI k)), (4, .int (nI i))]) hx hb dX5_countOf_30 rfl hl (by decide) rfl (fun ls hl => ?_)
        refine lv_iinc (v := (nI (i + 1))) (lv' := [(4, .int (nI (i + 1))), (2, .long (((ct_go f k i) <<< ((nI 8).toInt64 &&& 63)) ||| ((f (4 + (4 * k) + i)).toInt64))), (0, .ref h), (1, .int (nI k))]) hx hb dX5_countOf_31 hl (k := 3) rfl (by rw [show Int32.ofInt 1 = nI 1 from by decide]; exact nI_add _ _) (by decide) rfl (fun ls hl => ?_)
        refine lv_goto (tgt := 5) hx hb dX5_countOf_34 (by decide) ?_
        exact ih (i + 1) ls (by omega) (by omega) (lv_sub hl [2, 3, 1, 0] rfl)
  exact loop 5 0 ls (by omega) (by omega) (lv_sub hl [2, 3, 1, 0] rfl)
