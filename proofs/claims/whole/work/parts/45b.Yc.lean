set_option maxHeartbeats 4000000 in
set_option maxRecDepth 100000 in
/-- placeOf(world, client) -/
theorem c_X9_placeOf (l : Launch) (G : mm_G) (M : mm_M) (sz : Nat) (j c : Nat)   : mm_i l yX9_placeOf wsX9_placeOf ({ frames := 0, cells := 0, slots := 0, locals := 0 } : Room) G ([.int (nI j), .int (nI c)] : List Value) M sz (fun r M' => r = nI (84 * (4 * j + c)) ∧ M = M') := by
  refine mm_enter (cc := cX9_placeOf) (maxL := 2) (ret := (some .int)) _ (by decide) rfl (Nat.le_of_ble_eq_true rfl) ?_
  intro p0 e0 s m0 be0 me0 c0 ls S hr hlocks hname hA hC hR hl
  have hx := S.1
  have hb := S.2.1
  have hl : lv_has ls 2 [(0, .int (nI j)), (1, .int (nI c))] := hl
  have hF : mm_fr [] M M := mm_fr.rf
  refine lv_bipush (v := nI 84) hx hb dX9_placeOf_0 (by decide) ?_
  refine lv_iconst (v := nI 4) hx hb dX9_placeOf_2 (by decide) ?_
  refine lv_iload_n hx hb dX9_placeOf_3 rfl (lv_at hl 0 rfl) ?_
  refine lv_imul hx hb dX9_placeOf_4 ?_
  refine mm_eqi (pk_mul _ _) ?_
  refine lv_iload_n hx hb dX9_placeOf_5 rfl (lv_at hl 1 rfl) ?_
  refine lv_iadd hx hb dX9_placeOf_6 ?_
  refine mm_eqi (nI_add _ _) ?_
  refine lv_imul hx hb dX9_placeOf_7 ?_
  refine mm_eqi (pk_mul _ _) ?_
  exact mm_iret S hr hlocks hR ⟨rfl, rfl⟩ dX9_placeOf_8

set_option maxHeartbeats 4000000 in
set_option maxRecDepth 100000 in
/-- countAt(row, from, k) -/
theorem c_X9_countAt (l : Launch) (G : mm_G) (M : mm_M) (sz : Nat) (a len o k : Nat) (f : Nat → Int32) (h1 : M a = some (ia G len f)) (ho : o + 20 ≤ len) (hlen : len < 2 ^ 31) (hk : k < 4) : mm_l l yX9_countAt wsX9_countAt ({ frames := 0, cells := 0, slots := 0, locals := 0 } : Room) G ([.ref a, .int (nI o), .int (nI k)] : List Value) M sz (fun r M' => r = ct (shf f o) k ∧ M = M') := by
  refine mm_enter (cc := cX9_countAt) (maxL := 6) (ret := (some .long)) _ (by decide) rfl (Nat.le_of_ble_eq_true rfl) ?_
  intro p0 e0 s m0 be0 me0 c0 ls S hr hlocks hname hA hC hR hl
  have hx := S.1
  have hb := S.2.1
  have hl : lv_has ls 6 [(0, .ref a), (1, .int (nI o)), (2, .int (nI k))] := hl
  have hF : mm_fr [] M M := mm_fr.rf
  refine lv_lconst (v := 0) hx hb dX9_countAt_0 (by decide) ?_
  refine lv_lstore_n (lv' := [(3, .long 0), (0, .ref a), (1, .int (nI o)), (2, .int (nI k))]) hx hb dX9_countAt_1 rfl hl (by decide) rfl (fun ls hl => ?_)
  refine lv_iconst (v := nI 0) hx hb dX9_countAt_2 (by decide) ?_
  refine lv_istore (lv' := [(5, .int (nI 0)), (3, .long 0), (0, .ref a), (1, .int (nI o)), (2, .int (nI k))]) hx hb dX9_countAt_3 hl (by decide) rfl (fun ls hl => ?_)
  have loop : ∀ (n : Nat) (i : Nat) (ls : Array Slot), (4 < i + n) → (i ≤ 4) → lv_has ls 6 [(0, .ref a), (1, .int (nI o)), (2, .int (nI k)), (3, .long (ct_go (shf f o) k i)), (5, .int (nI i))] → W p0 l e0 ({ frames := 0, cells := 0, slots := 0, locals := 0 } : Room) s m0 ([.ref a, .int (nI o), .int (nI k)] : List Value).toArray be0 me0 c0 s.heap [] 0 0 (MQ be0 (va_Ql (fun r M' => r = ct (shf f o) k ∧ M = M') (fun M' t => mm_H G (mm_A M sz) M' t.heap) (mm_A M sz)) ([.ref a, .int (nI o), .int (nI k)] : List Value).toArray s 0 0 (mm_A M sz)) (F0 m0 5 ls []) := by
    intro n
    induction n with
    | zero =>
      intro i ls hn hi hl
      omega
    | succ n ih =>
      intro i ls hn hi hl
      refine lv_iload hx hb dX9_countAt_5 (lv_at hl 4 rfl) ?_
      refine lv_iconst (v := nI 4) hx hb dX9_countAt_7 (by decide) ?_
      refine lv_icmp_ge (tgt := 36) hx hb dX9_countAt_8 (by decide) (fun c1 => ?_) (fun c1 => ?_)
      · have c1 : 4 ≤ i := (nI_leI (a := 4) (b := i) (by omega) (by omega)).mp c1
        have e4 : 4 = i := by omega
        subst e4
        refine lv_lload_n hx hb dX9_countAt_36 rfl (lv_at hl 3 rfl) ?_
        exact mm_lret S hr hlocks hR ⟨rfl, rfl⟩ dX9_countAt_37
      · have c1 : ¬ (4 ≤ i) := fun z => c1 ((nI_leI (a := 4) (b := i) (by omega) (by omega)).mpr z)
        refine lv_lload_n hx hb dX9_countAt_11 rfl (lv_at hl 3 rfl) ?_
        refine lv_bipush (v := nI 8) hx hb dX9_countAt_12 (by decide) ?_
        refine lv_lshl hx hb dX9_countAt_14 rfl ?_
        refine lv_aload_n hx hb dX9_countAt_15 rfl (lv_at hl 0 rfl) ?_
        refine lv_iload_n hx hb dX9_countAt_16 rfl (lv_at hl 1 rfl) ?_
        refine lv_iconst (v := nI 4) hx hb dX9_countAt_17 (by decide) ?_
        refine lv_iadd hx hb dX9_countAt_18 ?_
        refine mm_eqi (nI_add _ _) ?_
        refine lv_iconst (v := nI 4) hx hb dX9_countAt_19 (by decide) ?_
        refine lv_iload_n hx hb dX9_countAt_20 rfl (lv_at hl 2 rfl) ?_
        refine lv_imul hx hb dX9_countAt_21 ?_
        refine mm_eqi (pk_mul _ _) ?_
        refine lv_iadd hx hb dX9_countAt_22 ?_
        refine mm_eqi (nI_add _ _) ?_
        refine lv_iload hx hb dX9_countAt_23 (lv_at hl 4 rfl) ?_
        refine lv_iadd hx hb dX9_countAt_25 ?_
        refine mm_eqi (nI_add _ _) ?_
        refine mm_eqi (congrArg nI (show o + 4 + (4 * k) + i = o + (4 + 4 * k + i) by omega)) ?_
        refine mm_iald S hC hR h1 (j := (o + (4 + 4 * k + i))) (by omega) (by omega) dX9_countAt_26 ?_
        refine lv_i2l hx hb dX9_countAt_27 rfl ?_
        refine lv_lor hx hb dX9_countAt_28 ?_
        refine lv_lstore_n (lv' := [(3, .long (((ct_go (shf f o) k i) <<< ((nI 8).toInt64 &&& 63)) ||| ((f (o + (4 + 4 * k + i))).toInt64))), (0, .ref a), (1, .int (nI o)), (2, .int (nI k)), (5, .int (nI i))]) hx hb dX9_countAt_29 rfl hl (by decide) rfl (fun ls hl => ?_)
        refine lv_iinc (v := (nI (i + 1))) (lv' := [(5, .int (nI (i + 1))), (3, .long (((ct_go (shf f o) k i) <<< ((nI 8).toInt64 &&& 63)) ||| ((f (o + (4 + 4 * k + i))).toInt64))), (0, .ref a), (1, .int (nI o)), (2, .int (nI k))]) hx hb dX9_countAt_30 hl (k := 4) rfl (by rw [show Int32.ofInt 1 = nI 1 from by decide]; exact nI_add _ _) (by decide) rfl (fun ls hl => ?_)
        refine lv_goto (tgt := 5) hx hb dX9_countAt_33 (by decide) ?_
        exact ih (i + 1) ls (by omega) (by omega) (lv_sub hl [2, 3, 4, 1, 0] rfl)
  exact loop 5 0 ls (by omega) (by omega) (lv_sub hl [2, 3, 4, 1, 0] rfl)

set_option maxHeartbeats 4000000 in
set_option maxRecDepth 100000 in
/-- isNotAbove(row, one, other) -/
theorem c_X9_isNotAbove (l : Launch) (G : mm_G) (M : mm_M) (sz : Nat) (a len o1 o2 : Nat) (f : Nat → Int32) (h1 : M a = some (ia G len f)) (ho1 : o1 + 20 ≤ len) (ho2 : o2 + 20 ≤ len) (hlen : len < 2 ^ 31) : mm_i l yX9_isNotAbove wsX9_isNotAbove ({ frames := 1, cells := 0, slots := 0, locals := 40 } : Room) G ([.ref a, .int (nI o1), .int (nI o2)] : List Value) M sz (fun r M' => bq r (na (shf f o1) (shf f o2)) ∧ M = M') := by
  refine mm_enter (cc := cX9_isNotAbove) (maxL := 5) (ret := (some .boolean)) _ (by decide) rfl (Nat.le_of_ble_eq_true rfl) ?_
  intro p0 e0 s m0 be0 me0 c0 ls S hr hlocks hname hA hC hR hl
  have hx := S.1
  have hb := S.2.1
  have hl : lv_has ls 5 [(0, .ref a), (1, .int (nI o1)), (2, .int (nI o2))] := hl
  have hF : mm_fr [] M M := mm_fr.rf
  refine lv_iconst (v := nI 1) hx hb dX9_isNotAbove_0 (by decide) ?_
  refine lv_istore_n (lv' := [(3, .int (nI 1)), (0, .ref a), (1, .int (nI o1)), (2, .int (nI o2))]) hx hb dX9_isNotAbove_1 rfl hl (by decide) rfl (fun ls hl => ?_)
  refine lv_iconst (v := nI 0) hx hb dX9_isNotAbove_2 (by decide) ?_
  refine lv_istore (lv' := [(4, .int (nI 0)), (3, .int (nI 1)), (0, .ref a), (1, .int (nI o1)), (2, .int (nI o2))]) hx hb dX9_isNotAbove_3 hl (by decide) rfl (fun ls hl => ?_)
  have loop : ∀ (n : Nat) (k : Nat) (b : Int32) (M1 : mm_M) (H : Heap) (locs : List Loc) (ls : Array Slot), (4 < k + n) → (k ≤ 4) → (M1 a = some (ia G len f)) → (bq b (∀ j, j < k → ct (shf f o1) j ≤ ct (shf f o2) j)) → (M = M1) → (mm_fr [] M M1) → mm_R G s (mm_A M sz) M1 H locs → lv_has ls 5 [(0, .ref a), (1, .int (nI o1)), (2, .int (nI o2)), (3, .int b), (4, .int (nI k))] → W p0 l e0 ({ frames := 1, cells := 0, slots := 0, locals := 40 } : Room) s m0 ([.ref a, .int (nI o1), .int (nI o2)] : List Value).toArray be0 me0 c0 H locs 0 0 (MQ be0 (va_Qi (fun r M' => bq r (na (shf f o1) (shf f o2)) ∧ M = M') (fun M' t => mm_H G (mm_A M sz) M' t.heap) (mm_A M sz)) ([.ref a, .int (nI o1), .int (nI o2)] : List Value).toArray s 0 0 (mm_A M sz)) (F0 m0 5 ls []) := by
    intro n
    induction n with
    | zero =>
      intro k b M1 H locs ls hn hi h1 hbq eM hF hR hl
      omega
    | succ n ih =>
      intro k b M1 H locs ls hn hi h1 hbq eM hF hR hl
      subst eM
      refine lv_iload hx hb dX9_isNotAbove_5 (lv_at hl 4 rfl) ?_
      refine lv_iconst (v := nI 4) hx hb dX9_isNotAbove_7 (by decide) ?_
      refine lv_icmp_ge (tgt := 45) hx hb dX9_isNotAbove_8 (by decide) (fun c2 => ?_) (fun c2 => ?_)
      · have c2 : 4 ≤ k := (nI_leI (a := 4) (b := k) (by omega) (by omega)).mp c2
        have e4 : 4 = k := by omega
        subst e4
        rcases hbq with ⟨eb, hq⟩ | ⟨eb, hq⟩ <;> subst eb
        · skip
          refine lv_iload_n hx hb dX9_isNotAbove_45 rfl (lv_at hl 3 rfl) ?_
          exact mm_zret S hr hlocks (by decide) hR ⟨Or.inl ⟨rfl, hq⟩, rfl⟩ dX9_isNotAbove_46
        · skip
          refine lv_iload_n hx hb dX9_isNotAbove_45 rfl (lv_at hl 3 rfl) ?_
          exact mm_zret S hr hlocks (by decide) hR ⟨Or.inr ⟨rfl, hq⟩, rfl⟩ dX9_isNotAbove_46
      · have c2 : ¬ (4 ≤ k) := fun z => c2 ((nI_leI (a := 4) (b := k) (by omega) (by omega)).mpr z)
        rcases hbq with ⟨eb, hq⟩ | ⟨eb, hq⟩ <;> subst eb
        · skip
          refine lv_iload_n hx hb dX9_isNotAbove_11 rfl (lv_at hl 3 rfl) ?_
          refine lv_if_eq (tgt := 37) hx hb dX9_isNotAbove_12 (by decide) (fun z => by first | exact absurd z (by decide) | exact absurd (by decide) z) (fun _ => ?_)
          refine lv_aload_n hx hb dX9_isNotAbove_15 rfl (lv_at hl 0 rfl) ?_
          refine lv_iload_n hx hb dX9_isNotAbove_16 rfl (lv_at hl 1 rfl) ?_
          refine lv_iload hx hb dX9_isNotAbove_17 (lv_at hl 4 rfl) ?_
          refine mm_calll hA hR (va_runS (As := [.ref a, .int (nI o1), .int (nI k)]) (rest := []) S (c_X9_countAt l G M _ a len o1 k f h1 (by omega) hlen (by omega)) (va_cwS 3 S.2.2.2.2 gX9_isNotAbove_X9_countAt rfl rfl rfl (by decide +kernel) ⟨Nat.le_of_ble_eq_true rfl, Nat.le_of_ble_eq_true rfl⟩) (mm_preS hC hA hR _) rfl rfl hl.1 rfl (lv_room (Nat.le_of_ble_eq_true rfl)) dX9_isNotAbove_19 ⟨Nat.le_of_ble_eq_true rfl, Nat.le_of_ble_eq_true rfl⟩) (fun r3 M4 H locs hp hR => ?_)
          obtain ⟨er, eM⟩ := hp
          subst eM
          subst er
          refine lv_aload_n hx hb dX9_isNotAbove_22 rfl (lv_at hl 0 rfl) ?_
          refine lv_iload_n hx hb dX9_isNotAbove_23 rfl (lv_at hl 2 rfl) ?_
          refine lv_iload hx hb dX9_isNotAbove_24 (lv_at hl 4 rfl) ?_
          refine mm_calll hA hR (va_runS (As := [.ref a, .int (nI o2), .int (nI k)]) (rest := [.long (ct (shf f o1) k)]) S (c_X9_countAt l G M _ a len o2 k f h1 (by omega) hlen (by omega)) (va_cwS 3 S.2.2.2.2 gX9_isNotAbove_X9_countAt rfl rfl rfl (by decide +kernel) ⟨Nat.le_of_ble_eq_true rfl, Nat.le_of_ble_eq_true rfl⟩) (mm_preS hC hA hR _) rfl rfl hl.1 rfl (lv_room (Nat.le_of_ble_eq_true rfl)) dX9_isNotAbove_26 ⟨Nat.le_of_ble_eq_true rfl, Nat.le_of_ble_eq_true rfl⟩) (fun r5 M6 H locs hp hR => ?_)
          obtain ⟨er, eM⟩ := hp
          subst eM
          subst er
          refine W.lcmp hx hb dX9_isNotAbove_29 ?_
          refine lv_if_gt (tgt := 37) hx hb dX9_isNotAbove_30 (by decide) (fun cc => ?_) (fun cc => ?_)
          · skip
            have cc : ¬ ct (shf f o1) k ≤ ct (shf f o2) k := fun z => Int64.not_le.mpr ((lg_cmp_gt _ _).mp cc) z
            refine lv_iconst (v := nI 0) hx hb dX9_isNotAbove_37 (by decide) ?_
            refine lv_istore_n (lv' := [(3, .int (nI 0)), (0, .ref a), (1, .int (nI o1)), (2, .int (nI o2)), (4, .int (nI k))]) hx hb dX9_isNotAbove_38 rfl hl (by decide) rfl (fun ls hl => ?_)
            refine lv_iinc (v := (nI (k + 1))) (lv' := [(4, .int (nI (k + 1))), (3, .int (nI 0)), (0, .ref a), (1, .int (nI o1)), (2, .int (nI o2))]) hx hb dX9_isNotAbove_39 hl (k := 4) rfl (by rw [show Int32.ofInt 1 = nI 1 from by decide]; exact nI_add _ _) (by decide) rfl (fun ls hl => ?_)
            refine lv_goto (tgt := 5) hx hb dX9_isNotAbove_42 (by decide) ?_
            exact ih (k + 1) (nI 0) _ H locs ls (by omega) (by omega) h1 (Or.inr ⟨rfl, fun z => cc (z k (by omega))⟩) rfl hF hR (lv_sub hl [2, 3, 4, 1, 0] rfl)
          · skip
            have cc : ct (shf f o1) k ≤ ct (shf f o2) k := Int64.not_lt.mp (fun z => cc ((lg_cmp_gt _ _).mpr z))
            refine lv_iconst (v := nI 1) hx hb dX9_isNotAbove_33 (by decide) ?_
            refine lv_goto (tgt := 38) hx hb dX9_isNotAbove_34 (by decide) ?_
            refine lv_istore_n (lv' := [(3, .int (nI 1)), (0, .ref a), (1, .int (nI o1)), (2, .int (nI o2)), (4, .int (nI k))]) hx hb dX9_isNotAbove_38 rfl hl (by decide) rfl (fun ls hl => ?_)
            refine lv_iinc (v := (nI (k + 1))) (lv' := [(4, .int (nI (k + 1))), (3, .int (nI 1)), (0, .ref a), (1, .int (nI o1)), (2, .int (nI o2))]) hx hb dX9_isNotAbove_39 hl (k := 4) rfl (by rw [show Int32.ofInt 1 = nI 1 from by decide]; exact nI_add _ _) (by decide) rfl (fun ls hl => ?_)
            refine lv_goto (tgt := 5) hx hb dX9_isNotAbove_42 (by decide) ?_
            exact ih (k + 1) (nI 1) _ H locs ls (by omega) (by omega) h1 (Or.inl ⟨rfl, lt_s hq cc⟩) rfl hF hR (lv_sub hl [2, 3, 4, 1, 0] rfl)
        · skip
          refine lv_iload_n hx hb dX9_isNotAbove_11 rfl (lv_at hl 3 rfl) ?_
          refine lv_if_eq (tgt := 37) hx hb dX9_isNotAbove_12 (by decide) (fun _ => ?_) (fun z => by first | exact absurd z (by decide) | exact absurd (by decide) z)
          refine lv_iconst (v := nI 0) hx hb dX9_isNotAbove_37 (by decide) ?_
          refine lv_istore_n (lv' := [(3, .int (nI 0)), (0, .ref a), (1, .int (nI o1)), (2, .int (nI o2)), (4, .int (nI k))]) hx hb dX9_isNotAbove_38 rfl hl (by decide) rfl (fun ls hl => ?_)
          refine lv_iinc (v := (nI (k + 1))) (lv' := [(4, .int (nI (k + 1))), (3, .int (nI 0)), (0, .ref a), (1, .int (nI o1)), (2, .int (nI o2))]) hx hb dX9_isNotAbove_39 hl (k := 4) rfl (by rw [show Int32.ofInt 1 = nI 1 from by decide]; exact nI_add _ _) (by decide) rfl (fun ls hl => ?_)
          refine lv_goto (tgt := 5) hx hb dX9_isNotAbove_42 (by decide) ?_
          exact ih (k + 1) (nI 0) _ H locs ls (by omega) (by omega) h1 (Or.inr ⟨rfl, fun z => hq (fun j hj => z j (by omega))⟩) rfl hF hR (lv_sub hl [2, 3, 4, 1, 0] rfl)
  exact loop (4 + 1) 0 (nI 1) _ _ _ ls (by omega) (by omega) h1 (Or.inl ⟨rfl, (fun j hj => absurd hj (Nat.not_lt_zero j))⟩) rfl hF hR (lv_sub hl [2, 3, 4, 1, 0] rfl)

set_option maxHeartbeats 4000000 in
set_option maxRecDepth 100000 in
/-- tell(world, client) -/
theorem c_X9_tell (l : Launch) (G : mm_G) (M : mm_M) (sz : Nat) (md : Nat → Nat) (v6 v9 v11 v12 v13 v22 : Int32) (nz : Nat) (f d : Nat → Int32) (jj cc : Nat) (ss rr0 : Nat → Int32) (h3 : M (md 3) = some (ia G 2016 ss)) (h4 : M (md 4) = some (ia G 336 rr0)) (hJ : yI md) (hS : yS G M md v6 v9 v11 v12 v13 v22 nz f d) (hj6 : jj < 6) (hc4 : cc < 4) : mm_v l yX9_tell wsX9_tell ({ frames := 1, cells := 0, slots := 0, locals := 40 } : Room) G ([.ref (md 0), .int (nI jj), .int (nI cc)] : List Value) M sz (fun M' => M' (md 3) = some (ia G 2016 (va_cpy rr0 ss (84 * cc) (84 * (4 * jj + cc)) 84)) ∧ mm_fr [md 3] M M') := by
  refine mm_enter (cc := cX9_tell) (maxL := 4) (ret := none) _ (by decide) rfl (Nat.le_of_ble_eq_true rfl) ?_
  intro p0 e0 s m0 be0 me0 c0 ls S hr hlocks hname hA hC hR hl
  have hx := S.1
  have hb := S.2.1
  have hl : lv_has ls 4 [(0, .ref (md 0)), (1, .int (nI jj)), (2, .int (nI cc))] := hl
  have inRX9 : ∀ w ∈ wsX90, w ∈ wsX9_tell := by decide +kernel
  have hF : mm_fr [md 3] M M := mm_fr.rf
  have h0 : M (md 0) = some (ob 10 [.ref (md 1), .ref (md 2), .ref (md 3), .ref (md 4), .ref (md 5), .ref (md 6), .int v6, .ref (md 7), .ref (md 8), .int v9, .ref (md 9), .int v11, .int v12, .int v13, .ref (md 10), .int (nI nz), .ref (md 11), .ref (md 12), .ref (md 13), .ref (md 14), .ref (md 15), .ref (md 16), .int v22]) := hS.1
  have h10 : M (md 10) = some (ia G 256 f) := hS.2.1
  have h11 : M (md 11) = some (ia G 32 d) := hS.2.2.1
  refine lv_iconst (v := nI 0) hx hb dX9_tell_0 (by decide) ?_
  refine lv_istore_n (lv' := [(3, .int (nI 0)), (0, .ref (md 0)), (1, .int (nI jj)), (2, .int (nI cc))]) hx hb dX9_tell_1 rfl hl (by decide) rfl (fun ls hl => ?_)
  have loop : ∀ (n : Nat) (i : Nat)  (M1 : mm_M) (H : Heap) (locs : List Loc) (ls : Array Slot), (84 < i + n) → (i ≤ 84) → (yS G M1 md v6 v9 v11 v12 v13 v22 nz f d) → (M1 (md 3) = some (ia G 2016 (va_cpy rr0 ss (84 * cc) (84 * (4 * jj + cc)) i))) → (M1 (md 4) = some (ia G 336 rr0)) → (mm_fr [md 3] M M1) → mm_R G s (mm_A M sz) M1 H locs → lv_has ls 4 [(0, .ref (md 0)), (1, .int (nI jj)), (2, .int (nI cc)), (3, .int (nI i))] → W p0 l e0 ({ frames := 1, cells := 0, slots := 0, locals := 40 } : Room) s m0 ([.ref (md 0), .int (nI jj), .int (nI cc)] : List Value).toArray be0 me0 c0 H locs 0 0 (MQ be0 (va_Qv (fun M' => M' (md 3) = some (ia G 2016 (va_cpy rr0 ss (84 * cc) (84 * (4 * jj + cc)) 84)) ∧ mm_fr [md 3] M M') (fun M' t => mm_H G (mm_A M sz) M' t.heap) (mm_A M sz)) ([.ref (md 0), .int (nI jj), .int (nI cc)] : List Value).toArray s 0 0 (mm_A M sz)) (F0 m0 2 ls []) := by
    intro n
    induction n with
    | zero =>
      intro i  M1 H locs ls hn hi hS h3 h4 hF hR hl
      omega
    | succ n ih =>
      intro i  M1 H locs ls hn hi hS h3 h4 hF hR hl
      have h0 : M1 (md 0) = some (ob 10 [.ref (md 1), .ref (md 2), .ref (md 3), .ref (md 4), .ref (md 5), .ref (md 6), .int v6, .ref (md 7), .ref (md 8), .int v9, .ref (md 9), .int v11, .int v12, .int v13, .ref (md 10), .int (nI nz), .ref (md 11), .ref (md 12), .ref (md 13), .ref (md 14), .ref (md 15), .ref (md 16), .int v22]) := hS.1
      have h10 : M1 (md 10) = some (ia G 256 f) := hS.2.1
      have h11 : M1 (md 11) = some (ia G 32 d) := hS.2.2.1
      refine lv_iload_n hx hb dX9_tell_2 rfl (lv_at hl 3 rfl) ?_
      refine lv_bipush (v := nI 84) hx hb dX9_tell_3 (by decide) ?_
      refine lv_icmp_ge (tgt := 37) hx hb dX9_tell_5 (by decide) (fun c7 => ?_) (fun c7 => ?_)
      · have c7 : 84 ≤ i := (nI_leI (a := 84) (b := i) (by omega) (by omega)).mp c7
        have e4 : 84 = i := by omega
        subst e4
        exact mm_vret S hr hlocks hR ⟨h3, hF⟩ dX9_tell_37
      · have c7 : ¬ (84 ≤ i) := fun z => c7 ((nI_leI (a := 84) (b := i) (by omega) (by omega)).mpr z)
        refine lv_aload_n hx hb dX9_tell_8 rfl (lv_at hl 0 rfl) ?_
        refine mm_get S hC hR (C := RX9) (T := TX9) (N := 23) (ref := "ForkWatchModel") (v := .ref (md 3)) 2 h0 inRX9 rfl (by decide) (by decide +kernel) (fun _ h9 => h9) rfl dX9_tell_9 ?_
        refine lv_iload_n hx hb dX9_tell_12 rfl (lv_at hl 1 rfl) ?_
        refine lv_iload_n hx hb dX9_tell_13 rfl (lv_at hl 2 rfl) ?_
        refine mm_calli hA hR (va_runS (As := [.int (nI jj), .int (nI cc)]) (rest := [.ref (md 3)]) S (c_X9_placeOf l G M1 _ jj cc) (va_cwS 2 S.2.2.2.2 gX9_tell_X9_placeOf rfl rfl rfl (by decide +kernel) ⟨Nat.le_of_ble_eq_true rfl, Nat.le_of_ble_eq_true rfl⟩) (mm_preS hC hA hR _) rfl rfl hl.1 rfl (lv_room (Nat.le_of_ble_eq_true rfl)) dX9_tell_14 ⟨Nat.le_of_ble_eq_true rfl, Nat.le_of_ble_eq_true rfl⟩) (fun r8 M9 H locs hp hR => ?_)
        obtain ⟨er, eM⟩ := hp
        subst eM
        subst er
        refine lv_iload_n hx hb dX9_tell_17 rfl (lv_at hl 3 rfl) ?_
        refine lv_iadd hx hb dX9_tell_18 ?_
        refine mm_eqi (nI_add _ _) ?_
        refine lv_aload_n hx hb dX9_tell_19 rfl (lv_at hl 0 rfl) ?_
        refine mm_get S hC hR (C := RX9) (T := TX9) (N := 23) (ref := "ForkWatchModel") (v := .ref (md 4)) 3 h0 inRX9 rfl (by decide) (by decide +kernel) (fun _ h9 => h9) rfl dX9_tell_20 ?_
        refine lv_bipush (v := nI 84) hx hb dX9_tell_23 (by decide) ?_
        refine lv_iload_n hx hb dX9_tell_25 rfl (lv_at hl 2 rfl) ?_
        refine lv_imul hx hb dX9_tell_26 ?_
        refine mm_eqi (pk_mul _ _) ?_
        refine lv_iload_n hx hb dX9_tell_27 rfl (lv_at hl 3 rfl) ?_
        refine lv_iadd hx hb dX9_tell_28 ?_
        refine mm_eqi (nI_add _ _) ?_
        refine mm_iald S hC hR h4 (j := (84 * cc + i)) (by omega) (by omega) dX9_tell_29 ?_
        refine mm_iast S hC hR h3 (j := (84 * (4 * jj + cc) + i)) (by omega) (by omega) dX9_tell_30 (fun H locs M10 g12 f11 hR => ?_)
        have h4 := f11.at h4 (mm_nc (yne hJ (by decide) (by decide) (by decide)) mm_n0)
        have h0 := f11.at h0 (mm_nc (yne hJ (by decide) (by decide) (by decide)) mm_n0)
        have h10 := f11.at h10 (mm_nc (yne hJ (by decide) (by decide) (by decide)) mm_n0)
        have h11 := f11.at h11 (mm_nc (yne hJ (by decide) (by decide) (by decide)) mm_n0)
        have h3 : M10 (md 3) = some (ia G 2016 (upd (va_cpy rr0 ss (84 * cc) (84 * (4 * jj + cc)) i) (84 * (4 * jj + cc) + i) (rr0 (84 * cc + i)))) := g12
        have hF := hF.tr f11 (mm_ic 0 rfl mm_i0)
        have hS := hS.out f11 (mm_nc (yne hJ (by decide) (by decide) (by decide)) mm_n0) (mm_nc (yne hJ (by decide) (by decide) (by decide)) mm_n0) (mm_nc (yne hJ (by decide) (by decide) (by decide)) mm_n0) (mm_nc (yne hJ (by decide) (by decide) (by decide)) mm_n0) (mm_nc (yne hJ (by decide) (by decide) (by decide)) mm_n0) (mm_nc (yne hJ (by decide) (by decide) (by decide)) mm_n0) (mm_nc (yne hJ (by decide) (by decide) (by decide)) mm_n0) (mm_nc (yne hJ (by decide) (by decide) (by decide)) mm_n0)
        refine lv_iinc (v := (nI (i + 1))) (lv' := [(3, .int (nI (i + 1))), (0, .ref (md 0)), (1, .int (nI jj)), (2, .int (nI cc))]) hx hb dX9_tell_31 hl (k := 3) rfl (by rw [show Int32.ofInt 1 = nI 1 from by decide]; exact nI_add _ _) (by decide) rfl (fun ls hl => ?_)
        refine lv_goto (tgt := 2) hx hb dX9_tell_34 (by decide) ?_
        exact ih (i + 1)  _ H locs ls (by omega) (by omega) hS (cellE h3 (cpy_s rfl)) h4 hF hR (lv_sub hl [1, 2, 3, 0] rfl)
  exact loop (84 + 1) 0  _ _ _ ls (by omega) (by omega) hS (cellE h3 cpy_0.symm) h4 hF hR (lv_sub hl [1, 2, 3, 0] rfl)

set_option maxHeartbeats 4000000 in
set_option maxRecDepth 100000 in
/-- sign(client) -/
theorem c_X9_sign (l : Launch) (G : mm_G) (M : mm_M) (sz : Nat) (md : Nat → Nat) (v6 v9 v11 v12 v13 v22 : Int32) (nz : Nat) (f d : Nat → Int32) (cc : Nat) (rr0 tt p : Nat → Int32) (h4 : M (md 4) = some (ia G 336 rr0)) (h15 : M (md 15) = some (ia G 512 tt)) (h16 : M (md 16) = some (ia G 64 p)) (hJ : yI md) (hS : yS G M md v6 v9 v11 v12 v13 v22 nz f d) (hc4 : cc < 4) (hby : b20 (shf rr0 (84 * cc))) (hbt : ∀ k, k < 32 → byt (tt k)) : mm_v l yX9_sign wsX9_sign ({ frames := 4, cells := 0, slots := 0, locals := 190 } : Room) G ([.ref (md 0), .int (nI cc)] : List Value) M sz (fun M' => ∃ f' d' r' p', yS G M' md v6 v9 v11 v12 v13 (nI 52) 0 f' d' ∧ M' (md 4) = some (ia G 336 r') ∧ M' (md 16) = some (ia G 64 p') ∧ (∀ i, i < 84 → r' (84 * cc + i) = sgn (fun x => tt (x - 32)) (shf rr0 (84 * cc)) i) ∧ (∀ i, i < 84 * cc ∨ 84 * cc + 84 ≤ i → r' i = rr0 i) ∧ mm_fr [md 0, md 10, md 11, md 12, md 13, md 14, md 4, md 16] M M') := by
  refine mm_enter (cc := cX9_sign) (maxL := 4) (ret := none) _ (by decide) rfl (Nat.le_of_ble_eq_true rfl) ?_
  intro p0 e0 s m0 be0 me0 c0 ls S hr hlocks hname hA hC hR hl
  have hx := S.1
  have hb := S.2.1
  have hl : lv_has ls 4 [(0, .ref (md 0)), (1, .int (nI cc))] := hl
  have inRX9 : ∀ w ∈ wsX90, w ∈ wsX9_sign := by decide +kernel
  have hF : mm_fr [md 0, md 10, md 11, md 12, md 13, md 14, md 4, md 16] M M := mm_fr.rf
  have h0 : M (md 0) = some (ob 10 [.ref (md 1), .ref (md 2), .ref (md 3), .ref (md 4), .ref (md 5), .ref (md 6), .int v6, .ref (md 7), .ref (md 8), .int v9, .ref (md 9), .int v11, .int v12, .int v13, .ref (md 10), .int (nI nz), .ref (md 11), .ref (md 12), .ref (md 13), .ref (md 14), .ref (md 15), .ref (md 16), .int v22]) := hS.1
  have h10 : M (md 10) = some (ia G 256 f) := hS.2.1
  have h11 : M (md 11) = some (ia G 32 d) := hS.2.2.1
  refine lv_bipush (v := nI 84) hx hb dX9_sign_0 (by decide) ?_
  refine lv_iload_n hx hb dX9_sign_2 rfl (lv_at hl 1 rfl) ?_
  refine lv_imul hx hb dX9_sign_3 ?_
  refine mm_eqi (pk_mul _ _) ?_
  refine lv_istore_n (lv' := [(2, .int (nI (84 * cc))), (0, .ref (md 0)), (1, .int (nI cc))]) hx hb dX9_sign_4 rfl hl (by decide) rfl (fun ls hl => ?_)
  refine lv_iconst (v := nI 0) hx hb dX9_sign_5 (by decide) ?_
  refine lv_istore_n (lv' := [(3, .int (nI 0)), (2, .int (nI (84 * cc))), (0, .ref (md 0)), (1, .int (nI cc))]) hx hb dX9_sign_6 rfl hl (by decide) rfl (fun ls hl => ?_)
  have loopA : ∀ (n : Nat) (i : Nat)  (M1 : mm_M) (H : Heap) (locs : List Loc) (ls : Array Slot), (32 < i + n) → (i ≤ 32) → (yS G M1 md v6 v9 v11 v12 v13 v22 nz f d) → (M1 (md 4) = some (ia G 336 (va_cpy tt rr0 0 (84 * cc + 20) i))) → (M1 (md 15) = some (ia G 512 tt)) → (M1 (md 16) = some (ia G 64 p)) → (mm_fr [md 0, md 10, md 11, md 12, md 13, md 14, md 4, md 16] M M1) → mm_R G s (mm_A M sz) M1 H locs → lv_has ls 4 [(0, .ref (md 0)), (1, .int (nI cc)), (2, .int (nI (84 * cc))), (3, .int (nI i))] → W p0 l e0 ({ frames := 4, cells := 0, slots := 0, locals := 190 } : Room) s m0 ([.ref (md 0), .int (nI cc)] : List Value).toArray be0 me0 c0 H locs 0 0 (MQ be0 (va_Qv (fun M' => ∃ f' d' r' p', yS G M' md v6 v9 v11 v12 v13 (nI 52) 0 f' d' ∧ M' (md 4) = some (ia G 336 r') ∧ M' (md 16) = some (ia G 64 p') ∧ (∀ i, i < 84 → r' (84 * cc + i) = sgn (fun x => tt (x - 32)) (shf rr0 (84 * cc)) i) ∧ (∀ i, i < 84 * cc ∨ 84 * cc + 84 ≤ i → r' i = rr0 i) ∧ mm_fr [md 0, md 10, md 11, md 12, md 13, md 14, md 4, md 16] M M') (fun M' t => mm_H G (mm_A M sz) M' t.heap) (mm_A M sz)) ([.ref (md 0), .int (nI cc)] : List Value).toArray s 0 0 (mm_A M sz)) (F0 m0 7 ls []) := by
    intro n
    induction n with
    | zero =>
      intro i  M1 H locs ls hn hi hS h4 h15 h16 hF hR hl
      omega
    | succ n ih =>
      intro i  M1 H locs ls hn hi hS h4 h15 h16 hF hR hl
      have h0 : M1 (md 0) = some (ob 10 [.ref (md 1), .ref (md 2), .ref (md 3), .ref (md 4), .ref (md 5), .ref (md 6), .int v6, .ref (md 7), .ref (md 8), .int v9, .ref (md 9), .int v11, .int v12, .int v13, .ref (md 10), .int (nI nz), .ref (md 11), .ref (md 12), .ref (md 13), .ref (md 14), .ref (md 15), .ref (md 16), .int v22]) := hS.1
      have h10 : M1 (md 10) = some (ia G 256 f) := hS.2.1
      have h11 : M1 (md 11) = some (ia G 32 d) := hS.2.2.1
      refine lv_iload_n hx hb dX9_sign_7 rfl (lv_at hl 3 rfl) ?_
      refine lv_bipush (v := nI 32) hx hb dX9_sign_8 (by decide) ?_
      refine lv_icmp_ge (tgt := 36) hx hb dX9_sign_10 (by decide) (fun c13 => ?_) (fun c13 => ?_)
      · have c13 : 32 ≤ i := (nI_leI (a := 32) (b := i) (by omega) (by omega)).mp c13
        have e4 : 32 = i := by omega
        subst e4
        obtain ⟨r1, er1⟩ : ∃ z : Nat → Int32, z = va_cpy tt rr0 0 (84 * cc + 20) 32 := ⟨_, rfl⟩
        rw [← er1] at h4
        refine lv_aload_n hx hb dX9_sign_36 rfl (lv_at hl 0 rfl) ?_
        refine lv_bipush (v := nI 52) hx hb dX9_sign_37 (by decide) ?_
        refine mm_put S hC hR (C := RX9) (T := TX9) (N := 23) (ref := "ForkWatchModel") 22 h0 inRX9 rfl tyX9_ok nmX9 (by decide) (by decide +kernel) (fun _ h9 => h9) rfl rfl rfl (Nat.le_of_ble_eq_true rfl) dX9_sign_39 (fun H locs M14 g16 f15 hR => ?_)
        have h4 := f15.at h4 (mm_nc (yne hJ (by decide) (by decide) (by decide)) mm_n0)
        have h15 := f15.at h15 (mm_nc (yne hJ (by decide) (by decide) (by decide)) mm_n0)
        have h16 := f15.at h16 (mm_nc (yne hJ (by decide) (by decide) (by decide)) mm_n0)
        have h10 := f15.at h10 (mm_nc (yne hJ (by decide) (by decide) (by decide)) mm_n0)
        have h11 := f15.at h11 (mm_nc (yne hJ (by decide) (by decide) (by decide)) mm_n0)
        have h0 : M14 (md 0) = some (ob 10 [.ref (md 1), .ref (md 2), .ref (md 3), .ref (md 4), .ref (md 5), .ref (md 6), .int v6, .ref (md 7), .ref (md 8), .int v9, .ref (md 9), .int v11, .int v12, .int v13, .ref (md 10), .int (nI nz), .ref (md 11), .ref (md 12), .ref (md 13), .ref (md 14), .ref (md 15), .ref (md 16), .int (nI 52)]) := g16
        have hF := hF.tr f15 (mm_ic 0 rfl mm_i0)
        have hS := hS.ob hJ f15 h0
        refine lv_iconst (v := nI 0) hx hb dX9_sign_42 (by decide) ?_
        refine lv_istore_n (lv' := [(3, .int (nI 0)), (0, .ref (md 0)), (1, .int (nI cc)), (2, .int (nI (84 * cc)))]) hx hb dX9_sign_43 rfl hl (by decide) rfl (fun ls hl => ?_)
        have loopB : ∀ (n : Nat) (i : Nat)  (M1 : mm_M) (H : Heap) (locs : List Loc) (ls : Array Slot), (52 < i + n) → (i ≤ 52) → (yS G M1 md v6 v9 v11 v12 v13 (nI 52) nz f d) → (M1 (md 4) = some (ia G 336 r1)) → (M1 (md 15) = some (ia G 512 tt)) → (M1 (md 16) = some (ia G 64 (va_cpy r1 p (84 * cc) 0 i))) → (mm_fr [md 0, md 10, md 11, md 12, md 13, md 14, md 4, md 16] M M1) → mm_R G s (mm_A M sz) M1 H locs → lv_has ls 4 [(0, .ref (md 0)), (1, .int (nI cc)), (2, .int (nI (84 * cc))), (3, .int (nI i))] → W p0 l e0 ({ frames := 4, cells := 0, slots := 0, locals := 190 } : Room) s m0 ([.ref (md 0), .int (nI cc)] : List Value).toArray be0 me0 c0 H locs 0 0 (MQ be0 (va_Qv (fun M' => ∃ f' d' r' p', yS G M' md v6 v9 v11 v12 v13 (nI 52) 0 f' d' ∧ M' (md 4) = some (ia G 336 r') ∧ M' (md 16) = some (ia G 64 p') ∧ (∀ i, i < 84 → r' (84 * cc + i) = sgn (fun x => tt (x - 32)) (shf rr0 (84 * cc)) i) ∧ (∀ i, i < 84 * cc ∨ 84 * cc + 84 ≤ i → r' i = rr0 i) ∧ mm_fr [md 0, md 10, md 11, md 12, md 13, md 14, md 4, md 16] M M') (fun M' t => mm_H G (mm_A M sz) M' t.heap) (mm_A M sz)) ([.ref (md 0), .int (nI cc)] : List Value).toArray s 0 0 (mm_A M sz)) (F0 m0 44 ls []) := by
          intro n
          induction n with
          | zero =>
            intro i  M1 H locs ls hn hi hS h4 h15 h16 hF hR hl
            omega
          | succ n ih =>
            intro i  M1 H locs ls hn hi hS h4 h15 h16 hF hR hl
            have h0 : M1 (md 0) = some (ob 10 [.ref (md 1), .ref (md 2), .ref (md 3), .ref (md 4), .ref (md 5), .ref (md 6), .int v6, .ref (md 7), .ref (md 8), .int v9, .ref (md 9), .int v11, .int v12, .int v13, .ref (md 10), .int (nI nz), .ref (md 11), .ref (md 12), .ref (md 13), .ref (md 14), .ref (md 15), .ref (md 16), .int (nI 52)]) := hS.1
            have h10 : M1 (md 10) = some (ia G 256 f) := hS.2.1
            have h11 : M1 (md 11) = some (ia G 32 d) := hS.2.2.1
            refine lv_iload_n hx hb dX9_sign_44 rfl (lv_at hl 3 rfl) ?_
            refine lv_bipush (v := nI 52) hx hb dX9_sign_45 (by decide) ?_
            refine lv_icmp_ge (tgt := 70) hx hb dX9_sign_47 (by decide) (fun c17 => ?_) (fun c17 => ?_)
            · have c17 : 52 ≤ i := (nI_leI (a := 52) (b := i) (by omega) (by omega)).mp c17
              have e4 : 52 = i := by omega
              subst e4
              have hr1 : ∀ i, i < 52 → r1 (84 * cc + i) = va_cpy (fun x => tt (x - 32)) (shf rr0 (84 * cc)) 32 20 32 i := fun i hi => by
                rw [er1]
                by_cases h9 : i < 20
                · rw [cpy_out (by omega), cpy_out (by omega)]; rfl
                · rw [cpy_in (by omega) (by omega), cpy_in (by omega) (by omega)]
                  show tt _ = tt _
                  congr 1
                  omega
              have hr2 : ∀ i, i < 52 → byt (r1 (84 * cc + i)) := fun i hi => by
                rw [er1]
                by_cases h9 : i < 20
                · rw [cpy_out (by omega)]; exact hby i h9
                · rw [cpy_in (by omega) (by omega)]; exact hbt _ (by omega)
              obtain ⟨p1, ep1⟩ : ∃ z : Nat → Int32, z = va_cpy r1 p (84 * cc) 0 52 := ⟨_, rfl⟩
              rw [← ep1] at h16
              have hp1 : ∀ i, i < 52 → p1 i = r1 (84 * cc + i) := fun i hi => by rw [ep1, cpy_in (by omega) (by omega)]; congr 1
              refine lv_aload_n hx hb dX9_sign_70 rfl (lv_at hl 0 rfl) ?_
              refine mm_callv hA hR (va_runV (As := []) (rest := []) S (c_X9_mac l G M1 _ md _ _ _ _ _ _ _ _ 52 p1 h16 hJ hS (by decide) (fun j hj => by rw [hp1 j hj]; exact hr2 j hj)) (cwV 0 S.2.2.2.2 gX9_sign_X9_mac rfl rfl rfl (by decide +kernel) ⟨Nat.le_of_ble_eq_true rfl, Nat.le_of_ble_eq_true rfl⟩) (mm_preV hC hA hR _ h0 rfl) rfl rfl hl.1 rfl (lv_room (Nat.le_of_ble_eq_true rfl)) dX9_sign_71 ⟨Nat.le_of_ble_eq_true rfl, Nat.le_of_ble_eq_true rfl⟩) (fun M19 H locs hp hR => ?_)
              obtain ⟨fb, d2, hS, hd, ff⟩ := hp
              have h4 := ff.at h4 (mm_nc (yne hJ (by decide) (by decide) (by decide)) (mm_nc (yne hJ (by decide) (by decide) (by decide)) (mm_nc (yne hJ (by decide) (by decide) (by decide)) (mm_nc (yne hJ (by decide) (by decide) (by decide)) (mm_nc (yne hJ (by decide) (by decide) (by decide)) (mm_nc (yne hJ (by decide) (by decide) (by decide)) mm_n0))))))
              have h15 := ff.at h15 (mm_nc (yne hJ (by decide) (by decide) (by decide)) (mm_nc (yne hJ (by decide) (by decide) (by decide)) (mm_nc (yne hJ (by decide) (by decide) (by decide)) (mm_nc (yne hJ (by decide) (by decide) (by decide)) (mm_nc (yne hJ (by decide) (by decide) (by decide)) (mm_nc (yne hJ (by decide) (by decide) (by decide)) mm_n0))))))
              have h16 := ff.at h16 (mm_nc (yne hJ (by decide) (by decide) (by decide)) (mm_nc (yne hJ (by decide) (by decide) (by decide)) (mm_nc (yne hJ (by decide) (by decide) (by decide)) (mm_nc (yne hJ (by decide) (by decide) (by decide)) (mm_nc (yne hJ (by decide) (by decide) (by decide)) (mm_nc (yne hJ (by decide) (by decide) (by decide)) mm_n0))))))
              have h0 : M19 (md 0) = some (ob 10 [.ref (md 1), .ref (md 2), .ref (md 3), .ref (md 4), .ref (md 5), .ref (md 6), .int v6, .ref (md 7), .ref (md 8), .int v9, .ref (md 9), .int v11, .int v12, .int v13, .ref (md 10), .int (nI 0), .ref (md 11), .ref (md 12), .ref (md 13), .ref (md 14), .ref (md 15), .ref (md 16), .int (nI 52)]) := hS.1
              have h10 : M19 (md 10) = some (ia G 256 fb) := hS.2.1
              have h11 : M19 (md 11) = some (ia G 32 d2) := hS.2.2.1
              have hF := hF.tr ff (mm_ic 0 rfl (mm_ic 1 rfl (mm_ic 2 rfl (mm_ic 3 rfl (mm_ic 4 rfl (mm_ic 5 rfl mm_i0))))))
              have hd : ∀ i, i < 32 → d2 i = macb 52 (va_cpy (fun x => tt (x - 32)) (shf rr0 (84 * cc)) 32 20 32) i := fun i hi => by rw [hd i hi, macb_ag (fun j hj => (hp1 j hj).trans (hr1 j hj))]
              refine lv_iconst (v := nI 0) hx hb dX9_sign_74 (by decide) ?_
              refine lv_istore_n (lv' := [(3, .int (nI 0)), (0, .ref (md 0)), (1, .int (nI cc)), (2, .int (nI (84 * cc)))]) hx hb dX9_sign_75 rfl hl (by decide) rfl (fun ls hl => ?_)
              have loopC : ∀ (n : Nat) (i : Nat)  (M1 : mm_M) (H : Heap) (locs : List Loc) (ls : Array Slot), (32 < i + n) → (i ≤ 32) → (yS G M1 md v6 v9 v11 v12 v13 (nI 52) 0 fb d2) → (M1 (md 4) = some (ia G 336 (va_cpy d2 r1 0 (84 * cc + 52) i))) → (M1 (md 15) = some (ia G 512 tt)) → (M1 (md 16) = some (ia G 64 p1)) → (mm_fr [md 0, md 10, md 11, md 12, md 13, md 14, md 4, md 16] M M1) → mm_R G s (mm_A M sz) M1 H locs → lv_has ls 4 [(0, .ref (md 0)), (1, .int (nI cc)), (2, .int (nI (84 * cc))), (3, .int (nI i))] → W p0 l e0 ({ frames := 4, cells := 0, slots := 0, locals := 190 } : Room) s m0 ([.ref (md 0), .int (nI cc)] : List Value).toArray be0 me0 c0 H locs 0 0 (MQ be0 (va_Qv (fun M' => ∃ f' d' r' p', yS G M' md v6 v9 v11 v12 v13 (nI 52) 0 f' d' ∧ M' (md 4) = some (ia G 336 r') ∧ M' (md 16) = some (ia G 64 p') ∧ (∀ i, i < 84 → r' (84 * cc + i) = sgn (fun x => tt (x - 32)) (shf rr0 (84 * cc)) i) ∧ (∀ i, i < 84 * cc ∨ 84 * cc + 84 ≤ i → r' i = rr0 i) ∧ mm_fr [md 0, md 10, md 11, md 12, md 13, md 14, md 4, md 16] M M') (fun M' t => mm_H G (mm_A M sz) M' t.heap) (mm_A M sz)) ([.ref (md 0), .int (nI cc)] : List Value).toArray s 0 0 (mm_A M sz)) (F0 m0 76 ls []) := by
                intro n
                induction n with
                | zero =>
                  intro i  M1 H locs ls hn hi hS h4 h15 h16 hF hR hl
                  omega
                | succ n ih =>
                  intro i  M1 H locs ls hn hi hS h4 h15 h16 hF hR hl
                  have h0 : M1 (md 0) = some (ob 10 [.ref (md 1), .ref (md 2), .ref (md 3), .ref (md 4), .ref (md 5), .ref (md 6), .int v6, .ref (md 7), .ref (md 8), .int v9, .ref (md 9), .int v11, .int v12, .int v13, .ref (md 10), .int (nI 0), .ref (md 11), .ref (md 12), .ref (md 13), .ref (md 14), .ref (md 15), .ref (md 16), .int (nI 52)]) := hS.1
                  have h10 : M1 (md 10) = some (ia G 256 fb) := hS.2.1
                  have h11 : M1 (md 11) = some (ia G 32 d2) := hS.2.2.1
                  refine lv_iload_n hx hb dX9_sign_76 rfl (lv_at hl 3 rfl) ?_
                  refine lv_bipush (v := nI 32) hx hb dX9_sign_77 (by decide) ?_
                  refine lv_icmp_ge (tgt := 105) hx hb dX9_sign_79 (by decide) (fun c20 => ?_) (fun c20 => ?_)
                  · have c20 : 32 ≤ i := (nI_leI (a := 32) (b := i) (by omega) (by omega)).mp c20
                    have e4 : 32 = i := by omega
                    subst e4
                    have q1 : ∀ i, i < 84 → va_cpy d2 r1 0 (84 * cc + 52) 32 (84 * cc + i) = sgn (fun x => tt (x - 32)) (shf rr0 (84 * cc)) i := fun i hi => by
                      unfold sgn
                      by_cases h9 : i < 52
                      · rw [cpy_out (by omega), cpy_out (by omega)]; exact hr1 i h9
                      · rw [cpy_in (by omega) (by omega), cpy_in (by omega) (by omega), hd _ (by omega)]
                        congr 1
                        omega
                    have q2 : ∀ i, i < 84 * cc ∨ 84 * cc + 84 ≤ i → va_cpy d2 r1 0 (84 * cc + 52) 32 i = rr0 i := fun i hi => by rw [cpy_out (by omega), er1, cpy_out (by omega)]
                    exact mm_vret S hr hlocks hR ⟨_, _, _, _, hS, h4, h16, q1, q2, hF⟩ dX9_sign_105
                  · have c20 : ¬ (32 ≤ i) := fun z => c20 ((nI_leI (a := 32) (b := i) (by omega) (by omega)).mpr z)
                    refine lv_aload_n hx hb dX9_sign_82 rfl (lv_at hl 0 rfl) ?_
                    refine mm_get S hC hR (C := RX9) (T := TX9) (N := 23) (ref := "ForkWatchModel") (v := .ref (md 4)) 3 h0 inRX9 rfl (by decide) (by decide +kernel) (fun _ h9 => h9) rfl dX9_sign_83 ?_
                    refine lv_iload_n hx hb dX9_sign_86 rfl (lv_at hl 2 rfl) ?_
                    refine lv_bipush (v := nI 52) hx hb dX9_sign_87 (by decide) ?_
                    refine lv_iadd hx hb dX9_sign_89 ?_
                    refine mm_eqi (nI_add _ _) ?_
                    refine lv_iload_n hx hb dX9_sign_90 rfl (lv_at hl 3 rfl) ?_
                    refine lv_iadd hx hb dX9_sign_91 ?_
                    refine mm_eqi (nI_add _ _) ?_
                    refine lv_aload_n hx hb dX9_sign_92 rfl (lv_at hl 0 rfl) ?_
                    refine mm_get S hC hR (C := RX9) (T := TX9) (N := 23) (ref := "ForkWatchModel") (v := .ref (md 11)) 16 h0 inRX9 rfl (by decide) (by decide +kernel) (fun _ h9 => h9) rfl dX9_sign_93 ?_
                    refine lv_iload_n hx hb dX9_sign_96 rfl (lv_at hl 3 rfl) ?_
                    refine mm_iald S hC hR h11 (j := i) (by omega) (by omega) dX9_sign_97 ?_
                    refine mm_iast S hC hR h4 (j := (84 * cc + 52 + i)) (by omega) (by omega) dX9_sign_98 (fun H locs M21 g23 f22 hR => ?_)
                    have h15 := f22.at h15 (mm_nc (yne hJ (by decide) (by decide) (by decide)) mm_n0)
                    have h16 := f22.at h16 (mm_nc (yne hJ (by decide) (by decide) (by decide)) mm_n0)
                    have h0 := f22.at h0 (mm_nc (yne hJ (by decide) (by decide) (by decide)) mm_n0)
                    have h10 := f22.at h10 (mm_nc (yne hJ (by decide) (by decide) (by decide)) mm_n0)
                    have h11 := f22.at h11 (mm_nc (yne hJ (by decide) (by decide) (by decide)) mm_n0)
                    have h4 : M21 (md 4) = some (ia G 336 (upd (va_cpy d2 r1 0 (84 * cc + 52) i) (84 * cc + 52 + i) (d2 i))) := g23
                    have hF := hF.tr f22 (mm_ic 6 rfl mm_i0)
                    have hS := hS.out f22 (mm_nc (yne hJ (by decide) (by decide) (by decide)) mm_n0) (mm_nc (yne hJ (by decide) (by decide) (by decide)) mm_n0) (mm_nc (yne hJ (by decide) (by decide) (by decide)) mm_n0) (mm_nc (yne hJ (by decide) (by decide) (by decide)) mm_n0) (mm_nc (yne hJ (by decide) (by decide) (by decide)) mm_n0) (mm_nc (yne hJ (by decide) (by decide) (by decide)) mm_n0) (mm_nc (yne hJ (by decide) (by decide) (by decide)) mm_n0) (mm_nc (yne hJ (by decide) (by decide) (by decide)) mm_n0)
                    refine lv_iinc (v := (nI (i + 1))) (lv' := [(3, .int (nI (i + 1))), (0, .ref (md 0)), (1, .int (nI cc)), (2, .int (nI (84 * cc)))]) hx hb dX9_sign_99 hl (k := 3) rfl (by rw [show Int32.ofInt 1 = nI 1 from by decide]; exact nI_add _ _) (by decide) rfl (fun ls hl => ?_)
                    refine lv_goto (tgt := 76) hx hb dX9_sign_102 (by decide) ?_
                    exact ih (i + 1)  _ H locs ls (by omega) (by omega) hS (cellE h4 (cpy_sz rfl)) h15 h16 hF hR (lv_sub hl [1, 2, 3, 0] rfl)
              exact loopC (32 + 1) 0  _ _ _ ls (by omega) (by omega) hS (cellE h4 cpy_0.symm) h15 h16 hF hR (lv_sub hl [1, 2, 3, 0] rfl)
            · have c17 : ¬ (52 ≤ i) := fun z => c17 ((nI_leI (a := 52) (b := i) (by omega) (by omega)).mpr z)
              refine lv_aload_n hx hb dX9_sign_50 rfl (lv_at hl 0 rfl) ?_
              refine mm_get S hC hR (C := RX9) (T := TX9) (N := 23) (ref := "ForkWatchModel") (v := .ref (md 16)) 21 h0 inRX9 rfl (by decide) (by decide +kernel) (fun _ h9 => h9) rfl dX9_sign_51 ?_
              refine lv_iload_n hx hb dX9_sign_54 rfl (lv_at hl 3 rfl) ?_
              refine lv_aload_n hx hb dX9_sign_55 rfl (lv_at hl 0 rfl) ?_
              refine mm_get S hC hR (C := RX9) (T := TX9) (N := 23) (ref := "ForkWatchModel") (v := .ref (md 4)) 3 h0 inRX9 rfl (by decide) (by decide +kernel) (fun _ h9 => h9) rfl dX9_sign_56 ?_
              refine lv_iload_n hx hb dX9_sign_59 rfl (lv_at hl 2 rfl) ?_
              refine lv_iload_n hx hb dX9_sign_60 rfl (lv_at hl 3 rfl) ?_
              refine lv_iadd hx hb dX9_sign_61 ?_
              refine mm_eqi (nI_add _ _) ?_
              refine mm_iald S hC hR h4 (j := (84 * cc + i)) (by omega) (by omega) dX9_sign_62 ?_
              refine mm_iast S hC hR h16 (j := i) (by omega) (by omega) dX9_sign_63 (fun H locs M24 g26 f25 hR => ?_)
              have h4 := f25.at h4 (mm_nc (yne hJ (by decide) (by decide) (by decide)) mm_n0)
              have h15 := f25.at h15 (mm_nc (yne hJ (by decide) (by decide) (by decide)) mm_n0)
              have h0 := f25.at h0 (mm_nc (yne hJ (by decide) (by decide) (by decide)) mm_n0)
              have h10 := f25.at h10 (mm_nc (yne hJ (by decide) (by decide) (by decide)) mm_n0)
              have h11 := f25.at h11 (mm_nc (yne hJ (by decide) (by decide) (by decide)) mm_n0)
              have h16 : M24 (md 16) = some (ia G 64 (upd (va_cpy r1 p (84 * cc) 0 i) i (r1 (84 * cc + i)))) := g26
              have hF := hF.tr f25 (mm_ic 7 rfl mm_i0)
              have hS := hS.out f25 (mm_nc (yne hJ (by decide) (by decide) (by decide)) mm_n0) (mm_nc (yne hJ (by decide) (by decide) (by decide)) mm_n0) (mm_nc (yne hJ (by decide) (by decide) (by decide)) mm_n0) (mm_nc (yne hJ (by decide) (by decide) (by decide)) mm_n0) (mm_nc (yne hJ (by decide) (by decide) (by decide)) mm_n0) (mm_nc (yne hJ (by decide) (by decide) (by decide)) mm_n0) (mm_nc (yne hJ (by decide) (by decide) (by decide)) mm_n0) (mm_nc (yne hJ (by decide) (by decide) (by decide)) mm_n0)
              refine lv_iinc (v := (nI (i + 1))) (lv' := [(3, .int (nI (i + 1))), (0, .ref (md 0)), (1, .int (nI cc)), (2, .int (nI (84 * cc)))]) hx hb dX9_sign_64 hl (k := 3) rfl (by rw [show Int32.ofInt 1 = nI 1 from by decide]; exact nI_add _ _) (by decide) rfl (fun ls hl => ?_)
              refine lv_goto (tgt := 44) hx hb dX9_sign_67 (by decide) ?_
              exact ih (i + 1)  _ H locs ls (by omega) (by omega) hS h4 h15 (cellE h16 (by have h9 := cpy_s (s := r1) (d := p) (a := 84 * cc) (b := 0) (i := i) rfl; rw [Nat.zero_add] at h9; exact h9)) hF hR (lv_sub hl [1, 2, 3, 0] rfl)
        exact loopB (52 + 1) 0  _ _ _ ls (by omega) (by omega) hS h4 h15 (cellE h16 cpy_0.symm) hF hR (lv_sub hl [1, 2, 3, 0] rfl)
      · have c13 : ¬ (32 ≤ i) := fun z => c13 ((nI_leI (a := 32) (b := i) (by omega) (by omega)).mpr z)
        refine lv_aload_n hx hb dX9_sign_13 rfl (lv_at hl 0 rfl) ?_
        refine mm_get S hC hR (C := RX9) (T := TX9) (N := 23) (ref := "ForkWatchModel") (v := .ref (md 4)) 3 h0 inRX9 rfl (by decide) (by decide +kernel) (fun _ h9 => h9) rfl dX9_sign_14 ?_
        refine lv_iload_n hx hb dX9_sign_17 rfl (lv_at hl 2 rfl) ?_
        refine lv_bipush (v := nI 20) hx hb dX9_sign_18 (by decide) ?_
        refine lv_iadd hx hb dX9_sign_20 ?_
        refine mm_eqi (nI_add _ _) ?_
        refine lv_iload_n hx hb dX9_sign_21 rfl (lv_at hl 3 rfl) ?_
        refine lv_iadd hx hb dX9_sign_22 ?_
        refine mm_eqi (nI_add _ _) ?_
        refine lv_aload_n hx hb dX9_sign_23 rfl (lv_at hl 0 rfl) ?_
        refine mm_get S hC hR (C := RX9) (T := TX9) (N := 23) (ref := "ForkWatchModel") (v := .ref (md 15)) 20 h0 inRX9 rfl (by decide) (by decide +kernel) (fun _ h9 => h9) rfl dX9_sign_24 ?_
        refine lv_iload_n hx hb dX9_sign_27 rfl (lv_at hl 3 rfl) ?_
        refine mm_iald S hC hR h15 (j := i) (by omega) (by omega) dX9_sign_28 ?_
        refine mm_iast S hC hR h4 (j := (84 * cc + 20 + i)) (by omega) (by omega) dX9_sign_29 (fun H locs M27 g29 f28 hR => ?_)
        have h15 := f28.at h15 (mm_nc (yne hJ (by decide) (by decide) (by decide)) mm_n0)
        have h16 := f28.at h16 (mm_nc (yne hJ (by decide) (by decide) (by decide)) mm_n0)
        have h0 := f28.at h0 (mm_nc (yne hJ (by decide) (by decide) (by decide)) mm_n0)
        have h10 := f28.at h10 (mm_nc (yne hJ (by decide) (by decide) (by decide)) mm_n0)
        have h11 := f28.at h11 (mm_nc (yne hJ (by decide) (by decide) (by decide)) mm_n0)
        have h4 : M27 (md 4) = some (ia G 336 (upd (va_cpy tt rr0 0 (84 * cc + 20) i) (84 * cc + 20 + i) (tt i))) := g29
        have hF := hF.tr f28 (mm_ic 6 rfl mm_i0)
        have hS := hS.out f28 (mm_nc (yne hJ (by decide) (by decide) (by decide)) mm_n0) (mm_nc (yne hJ (by decide) (by decide) (by decide)) mm_n0) (mm_nc (yne hJ (by decide) (by decide) (by decide)) mm_n0) (mm_nc (yne hJ (by decide) (by decide) (by decide)) mm_n0) (mm_nc (yne hJ (by decide) (by decide) (by decide)) mm_n0) (mm_nc (yne hJ (by decide) (by decide) (by decide)) mm_n0) (mm_nc (yne hJ (by decide) (by decide) (by decide)) mm_n0) (mm_nc (yne hJ (by decide) (by decide) (by decide)) mm_n0)
        refine lv_iinc (v := (nI (i + 1))) (lv' := [(3, .int (nI (i + 1))), (0, .ref (md 0)), (1, .int (nI cc)), (2, .int (nI (84 * cc)))]) hx hb dX9_sign_30 hl (k := 3) rfl (by rw [show Int32.ofInt 1 = nI 1 from by decide]; exact nI_add _ _) (by decide) rfl (fun ls hl => ?_)
        refine lv_goto (tgt := 7) hx hb dX9_sign_33 (by decide) ?_
        exact ih (i + 1)  _ H locs ls (by omega) (by omega) hS (cellE h4 (cpy_sz rfl)) h15 h16 hF hR (lv_sub hl [1, 2, 3, 0] rfl)
  exact loopA (32 + 1) 0  _ _ _ ls (by omega) (by omega) hS (cellE h4 cpy_0.symm) h15 h16 hF hR (lv_sub hl [2, 3, 1, 0] rfl)

set_option maxHeartbeats 4000000 in
set_option maxRecDepth 100000 in
/-- isSigned(world, client) -/
theorem c_X9_isSigned (l : Launch) (G : mm_G) (M : mm_M) (sz : Nat) (md : Nat → Nat) (v6 v9 v11 v12 v13 v22 : Int32) (nz : Nat) (f d : Nat → Int32) (jj cc : Nat) (ss p : Nat → Int32) (h3 : M (md 3) = some (ia G 2016 ss)) (h16 : M (md 16) = some (ia G 64 p)) (hJ : yI md) (hS : yS G M md v6 v9 v11 v12 v13 v22 nz f d) (hj6 : jj < 6) (hc4 : cc < 4) (hby : ∀ i, i < 84 → byt (ss (84 * (4 * jj + cc) + i))) : mm_i l yX9_isSigned wsX9_isSigned ({ frames := 4, cells := 0, slots := 0, locals := 190 } : Room) G ([.ref (md 0), .int (nI jj), .int (nI cc)] : List Value) M sz (fun r M' => bq r (sgd (shf ss (84 * (4 * jj + cc))) cc) ∧ ∃ f' d' p', yS G M' md v6 v9 v11 v12 v13 (nI 52) 0 f' d' ∧ M' (md 16) = some (ia G 64 p') ∧ mm_fr [md 0, md 10, md 11, md 12, md 13, md 14, md 16] M M') := by
  refine mm_enter (cc := cX9_isSigned) (maxL := 6) (ret := (some .boolean)) _ (by decide) rfl (Nat.le_of_ble_eq_true rfl) ?_
  intro p0 e0 s m0 be0 me0 c0 ls S hr hlocks hname hA hC hR hl
  have hx := S.1
  have hb := S.2.1
  have hl : lv_has ls 6 [(0, .ref (md 0)), (1, .int (nI jj)), (2, .int (nI cc))] := hl
  have inRX9 : ∀ w ∈ wsX90, w ∈ wsX9_isSigned := by decide +kernel
  have hF : mm_fr [md 0, md 10, md 11, md 12, md 13, md 14, md 16] M M := mm_fr.rf
  have h0 : M (md 0) = some (ob 10 [.ref (md 1), .ref (md 2), .ref (md 3), .ref (md 4), .ref (md 5), .ref (md 6), .int v6, .ref (md 7), .ref (md 8), .int v9, .ref (md 9), .int v11, .int v12, .int v13, .ref (md 10), .int (nI nz), .ref (md 11), .ref (md 12), .ref (md 13), .ref (md 14), .ref (md 15), .ref (md 16), .int v22]) := hS.1
  have h10 : M (md 10) = some (ia G 256 f) := hS.2.1
  have h11 : M (md 11) = some (ia G 32 d) := hS.2.2.1
  refine lv_iload_n hx hb dX9_isSigned_0 rfl (lv_at hl 1 rfl) ?_
  refine lv_iload_n hx hb dX9_isSigned_1 rfl (lv_at hl 2 rfl) ?_
  refine mm_calli hA hR (va_runS (As := [.int (nI jj), .int (nI cc)]) (rest := []) S (c_X9_placeOf l G M _ jj cc) (va_cwS 2 S.2.2.2.2 gX9_isSigned_X9_placeOf rfl rfl rfl (by decide +kernel) ⟨Nat.le_of_ble_eq_true rfl, Nat.le_of_ble_eq_true rfl⟩) (mm_preS hC hA hR _) rfl rfl hl.1 rfl (lv_room (Nat.le_of_ble_eq_true rfl)) dX9_isSigned_2 ⟨Nat.le_of_ble_eq_true rfl, Nat.le_of_ble_eq_true rfl⟩) (fun r30 M31 H locs hp hR => ?_)
  obtain ⟨er, eM⟩ := hp
  subst eM
  subst er
  obtain ⟨pl, epl⟩ : ∃ z, z = 84 * (4 * jj + cc) := ⟨_, rfl⟩
  refine mm_eqi (congrArg nI (show 84 * (4 * jj + cc) = pl by omega)) ?_
  rw [← epl] at hby
  refine lv_istore_n (lv' := [(3, .int (nI pl)), (0, .ref (md 0)), (1, .int (nI jj)), (2, .int (nI cc))]) hx hb dX9_isSigned_5 rfl hl (by decide) rfl (fun ls hl => ?_)
  refine lv_aload_n hx hb dX9_isSigned_6 rfl (lv_at hl 1 rfl) ?_
  refine lv_bipush (v := nI 52) hx hb dX9_isSigned_7 (by decide) ?_
  refine mm_put S hC hR (C := RX9) (T := TX9) (N := 23) (ref := "ForkWatchModel") 22 h0 inRX9 rfl tyX9_ok nmX9 (by decide) (by decide +kernel) (fun _ h9 => h9) rfl rfl rfl (Nat.le_of_ble_eq_true rfl) dX9_isSigned_9 (fun H locs M32 g34 f33 hR => ?_)
  have h3 := f33.at h3 (mm_nc (yne hJ (by decide) (by decide) (by decide)) mm_n0)
  have h16 := f33.at h16 (mm_nc (yne hJ (by decide) (by decide) (by decide)) mm_n0)
  have h10 := f33.at h10 (mm_nc (yne hJ (by decide) (by decide) (by decide)) mm_n0)
  have h11 := f33.at h11 (mm_nc (yne hJ (by decide) (by decide) (by decide)) mm_n0)
  have h0 : M32 (md 0) = some (ob 10 [.ref (md 1), .ref (md 2), .ref (md 3), .ref (md 4), .ref (md 5), .ref (md 6), .int v6, .ref (md 7), .ref (md 8), .int v9, .ref (md 9), .int v11, .int v12, .int v13, .ref (md 10), .int (nI nz), .ref (md 11), .ref (md 12), .ref (md 13), .ref (md 14), .ref (md 15), .ref (md 16), .int (nI 52)]) := g34
  have hF := hF.tr f33 (mm_ic 0 rfl mm_i0)
  have hS := hS.ob hJ f33 h0
  refine lv_iconst (v := nI 0) hx hb dX9_isSigned_12 (by decide) ?_
  refine lv_istore (lv' := [(4, .int (nI 0)), (3, .int (nI pl)), (0, .ref (md 0)), (1, .int (nI jj)), (2, .int (nI cc))]) hx hb dX9_isSigned_13 hl (by decide) rfl (fun ls hl => ?_)
  have loopA : ∀ (n : Nat) (i : Nat)  (M1 : mm_M) (H : Heap) (locs : List Loc) (ls : Array Slot), (52 < i + n) → (i ≤ 52) → (yS G M1 md v6 v9 v11 v12 v13 (nI 52) nz f d) → (M1 (md 3) = some (ia G 2016 ss)) → (M1 (md 16) = some (ia G 64 (va_cpy ss p pl 0 i))) → (mm_fr [md 0, md 10, md 11, md 12, md 13, md 14, md 16] M M1) → mm_R G s (mm_A M sz) M1 H locs → lv_has ls 6 [(0, .ref (md 0)), (1, .int (nI jj)), (2, .int (nI cc)), (3, .int (nI pl)), (4, .int (nI i))] → W p0 l e0 ({ frames := 4, cells := 0, slots := 0, locals := 190 } : Room) s m0 ([.ref (md 0), .int (nI jj), .int (nI cc)] : List Value).toArray be0 me0 c0 H locs 0 0 (MQ be0 (va_Qi (fun r M' => bq r (sgd (shf ss (84 * (4 * jj + cc))) cc) ∧ ∃ f' d' p', yS G M' md v6 v9 v11 v12 v13 (nI 52) 0 f' d' ∧ M' (md 16) = some (ia G 64 p') ∧ mm_fr [md 0, md 10, md 11, md 12, md 13, md 14, md 16] M M') (fun M' t => mm_H G (mm_A M sz) M' t.heap) (mm_A M sz)) ([.ref (md 0), .int (nI jj), .int (nI cc)] : List Value).toArray s 0 0 (mm_A M sz)) (F0 m0 15 ls []) := by
    intro n
    induction n with
    | zero =>
      intro i  M1 H locs ls hn hi hS h3 h16 hF hR hl
      omega
    | succ n ih =>
      intro i  M1 H locs ls hn hi hS h3 h16 hF hR hl
      have h0 : M1 (md 0) = some (ob 10 [.ref (md 1), .ref (md 2), .ref (md 3), .ref (md 4), .ref (md 5), .ref (md 6), .int v6, .ref (md 7), .ref (md 8), .int v9, .ref (md 9), .int v11, .int v12, .int v13, .ref (md 10), .int (nI nz), .ref (md 11), .ref (md 12), .ref (md 13), .ref (md 14), .ref (md 15), .ref (md 16), .int (nI 52)]) := hS.1
      have h10 : M1 (md 10) = some (ia G 256 f) := hS.2.1
      have h11 : M1 (md 11) = some (ia G 32 d) := hS.2.2.1
      refine lv_iload hx hb dX9_isSigned_15 (lv_at hl 4 rfl) ?_
      refine lv_bipush (v := nI 52) hx hb dX9_isSigned_17 (by decide) ?_
      refine lv_icmp_ge (tgt := 44) hx hb dX9_isSigned_19 (by decide) (fun c35 => ?_) (fun c35 => ?_)
      · have c35 : 52 ≤ i := (nI_leI (a := 52) (b := i) (by omega) (by omega)).mp c35
        have e4 : 52 = i := by omega
        subst e4
        obtain ⟨p1, ep1⟩ : ∃ z : Nat → Int32, z = va_cpy ss p pl 0 52 := ⟨_, rfl⟩
        rw [← ep1] at h16
        have hp1 : ∀ i, i < 52 → p1 i = ss (pl + i) := fun i hi => by rw [ep1, cpy_in (by omega) (by omega)]; congr 1
        refine lv_aload_n hx hb dX9_isSigned_44 rfl (lv_at hl 0 rfl) ?_
        refine mm_callv hA hR (va_runV (As := []) (rest := []) S (c_X9_mac l G M1 _ md _ _ _ _ _ _ _ _ 52 p1 h16 hJ hS (by decide) (fun j hj => by rw [hp1 j hj]; exact hby j (by omega))) (cwV 0 S.2.2.2.2 gX9_isSigned_X9_mac rfl rfl rfl (by decide +kernel) ⟨Nat.le_of_ble_eq_true rfl, Nat.le_of_ble_eq_true rfl⟩) (mm_preV hC hA hR _ h0 rfl) rfl rfl hl.1 rfl (lv_room (Nat.le_of_ble_eq_true rfl)) dX9_isSigned_45 ⟨Nat.le_of_ble_eq_true rfl, Nat.le_of_ble_eq_true rfl⟩) (fun M37 H locs hp hR => ?_)
        obtain ⟨fb, d2, hS, hd, ff⟩ := hp
        have h3 := ff.at h3 (mm_nc (yne hJ (by decide) (by decide) (by decide)) (mm_nc (yne hJ (by decide) (by decide) (by decide)) (mm_nc (yne hJ (by decide) (by decide) (by decide)) (mm_nc (yne hJ (by decide) (by decide) (by decide)) (mm_nc (yne hJ (by decide) (by decide) (by decide)) (mm_nc (yne hJ (by decide) (by decide) (by decide)) mm_n0))))))
        have h16 := ff.at h16 (mm_nc (yne hJ (by decide) (by decide) (by decide)) (mm_nc (yne hJ (by decide) (by decide) (by decide)) (mm_nc (yne hJ (by decide) (by decide) (by decide)) (mm_nc (yne hJ (by decide) (by decide) (by decide)) (mm_nc (yne hJ (by decide) (by decide) (by decide)) (mm_nc (yne hJ (by decide) (by decide) (by decide)) mm_n0))))))
        have h0 : M37 (md 0) = some (ob 10 [.ref (md 1), .ref (md 2), .ref (md 3), .ref (md 4), .ref (md 5), .ref (md 6), .int v6, .ref (md 7), .ref (md 8), .int v9, .ref (md 9), .int v11, .int v12, .int v13, .ref (md 10), .int (nI 0), .ref (md 11), .ref (md 12), .ref (md 13), .ref (md 14), .ref (md 15), .ref (md 16), .int (nI 52)]) := hS.1
        have h10 : M37 (md 10) = some (ia G 256 fb) := hS.2.1
        have h11 : M37 (md 11) = some (ia G 32 d2) := hS.2.2.1
        have hF := hF.tr ff (mm_ic 0 rfl (mm_ic 1 rfl (mm_ic 2 rfl (mm_ic 3 rfl (mm_ic 4 rfl (mm_ic 5 rfl mm_i0))))))
        have hd : ∀ i, i < 32 → d2 i = macb 52 (shf ss pl) i := fun i hi => by rw [hd i hi, macb_ag (r' := shf ss pl) (fun j hj => hp1 j hj)]
        have h16 := h16
        have loopB : ∀ (n : Nat) (i : Nat) (b : Int32) (M1 : mm_M) (H : Heap) (locs : List Loc) (ls : Array Slot), (32 < i + n) → (i ≤ 32) → (yS G M1 md v6 v9 v11 v12 v13 (nI 52) 0 fb d2) → (M1 (md 3) = some (ia G 2016 ss)) → (M1 (md 16) = some (ia G 64 p1)) → (bq b (ss pl = nI cc ∧ ∀ j, j < i → ss (pl + 52 + j) = d2 j)) → (mm_fr [md 0, md 10, md 11, md 12, md 13, md 14, md 16] M M1) → mm_R G s (mm_A M sz) M1 H locs → lv_has ls 6 [(0, .ref (md 0)), (1, .int (nI jj)), (2, .int (nI cc)), (3, .int (nI pl)), (4, .int b), (5, .int (nI i))] → W p0 l e0 ({ frames := 4, cells := 0, slots := 0, locals := 190 } : Room) s m0 ([.ref (md 0), .int (nI jj), .int (nI cc)] : List Value).toArray be0 me0 c0 H locs 0 0 (MQ be0 (va_Qi (fun r M' => bq r (sgd (shf ss (84 * (4 * jj + cc))) cc) ∧ ∃ f' d' p', yS G M' md v6 v9 v11 v12 v13 (nI 52) 0 f' d' ∧ M' (md 16) = some (ia G 64 p') ∧ mm_fr [md 0, md 10, md 11, md 12, md 13, md 14, md 16] M M') (fun M' t => mm_H G (mm_A M sz) M' t.heap) (mm_A M sz)) ([.ref (md 0), .int (nI jj), .int (nI cc)] : List Value).toArray s 0 0 (mm_A M sz)) (F0 m0 68 ls []) := by
          intro n
          induction n with
          | zero =>
            intro i b M1 H locs ls hn hi hS h3 h16 hbq hF hR hl
            omega
          | succ n ih =>
            intro i b M1 H locs ls hn hi hS h3 h16 hbq hF hR hl
            have h0 : M1 (md 0) = some (ob 10 [.ref (md 1), .ref (md 2), .ref (md 3), .ref (md 4), .ref (md 5), .ref (md 6), .int v6, .ref (md 7), .ref (md 8), .int v9, .ref (md 9), .int v11, .int v12, .int v13, .ref (md 10), .int (nI 0), .ref (md 11), .ref (md 12), .ref (md 13), .ref (md 14), .ref (md 15), .ref (md 16), .int (nI 52)]) := hS.1
            have h10 : M1 (md 10) = some (ia G 256 fb) := hS.2.1
            have h11 : M1 (md 11) = some (ia G 32 d2) := hS.2.2.1
            refine lv_iload hx hb dX9_isSigned_68 (lv_at hl 5 rfl) ?_
            refine lv_bipush (v := nI 32) hx hb dX9_isSigned_70 (by decide) ?_
            refine lv_icmp_ge (tgt := 115) hx hb dX9_isSigned_72 (by decide) (fun c38 => ?_) (fun c38 => ?_)
            · have c38 : 32 ≤ i := (nI_leI (a := 32) (b := i) (by omega) (by omega)).mp c38
              have e4 : 32 = i := by omega
              subst e4
              have hdd : (ss pl = nI cc ∧ ∀ j, j < 32 → ss (pl + 52 + j) = d2 j) ↔ sgd (shf ss pl) cc := by
                unfold sgd shf
                exact ⟨fun z => ⟨z.1, fun i hi => by rw [← Nat.add_assoc, z.2 i hi]; exact hd i hi⟩, fun z => ⟨z.1, fun i hi => by rw [Nat.add_assoc, z.2 i hi]; exact (hd i hi).symm⟩⟩
              rcases hbq with ⟨eb, hq⟩ | ⟨eb, hq⟩ <;> subst eb
              · skip
                refine lv_iload hx hb dX9_isSigned_115 (lv_at hl 4 rfl) ?_
                exact mm_zret S hr hlocks (by decide) hR (by rw [← epl]; exact ⟨Or.inl ⟨rfl, hdd.mp hq⟩, _, _, _, hS, h16, hF⟩) dX9_isSigned_117
              · skip
                refine lv_iload hx hb dX9_isSigned_115 (lv_at hl 4 rfl) ?_
                exact mm_zret S hr hlocks (by decide) hR (by rw [← epl]; exact ⟨Or.inr ⟨rfl, fun z => hq (hdd.mpr z)⟩, _, _, _, hS, h16, hF⟩) dX9_isSigned_117
            · have c38 : ¬ (32 ≤ i) := fun z => c38 ((nI_leI (a := 32) (b := i) (by omega) (by omega)).mpr z)
              rcases hbq with ⟨eb, hq⟩ | ⟨eb, hq⟩ <;> subst eb
              · skip
                refine lv_iload hx hb dX9_isSigned_75 (lv_at hl 4 rfl) ?_
                refine lv_if_eq (tgt := 106) hx hb dX9_isSigned_77 (by decide) (fun z => by first | exact absurd z (by decide) | exact absurd (by decide) z) (fun _ => ?_)
                refine lv_aload_n hx hb dX9_isSigned_80 rfl (lv_at hl 0 rfl) ?_
                refine mm_get S hC hR (C := RX9) (T := TX9) (N := 23) (ref := "ForkWatchModel") (v := .ref (md 3)) 2 h0 inRX9 rfl (by decide) (by decide +kernel) (fun _ h9 => h9) rfl dX9_isSigned_81 ?_
                refine lv_iload_n hx hb dX9_isSigned_84 rfl (lv_at hl 3 rfl) ?_
                refine lv_bipush (v := nI 52) hx hb dX9_isSigned_85 (by decide) ?_
                refine lv_iadd hx hb dX9_isSigned_87 ?_
                refine mm_eqi (nI_add _ _) ?_
                refine lv_iload hx hb dX9_isSigned_88 (lv_at hl 5 rfl) ?_
                refine lv_iadd hx hb dX9_isSigned_90 ?_
                refine mm_eqi (nI_add _ _) ?_
                refine mm_iald S hC hR h3 (j := (pl + 52 + i)) (by omega) (by omega) dX9_isSigned_91 ?_
                refine lv_aload_n hx hb dX9_isSigned_92 rfl (lv_at hl 0 rfl) ?_
                refine mm_get S hC hR (C := RX9) (T := TX9) (N := 23) (ref := "ForkWatchModel") (v := .ref (md 11)) 16 h0 inRX9 rfl (by decide) (by decide +kernel) (fun _ h9 => h9) rfl dX9_isSigned_93 ?_
                refine lv_iload hx hb dX9_isSigned_96 (lv_at hl 5 rfl) ?_
                refine mm_iald S hC hR h11 (j := i) (by omega) (by omega) dX9_isSigned_98 ?_
                refine lv_icmp_ne (tgt := 106) hx hb dX9_isSigned_99 (by decide) (fun cc1 => ?_) (fun cc1 => ?_)
                · skip
                  refine lv_iconst (v := nI 0) hx hb dX9_isSigned_106 (by decide) ?_
                  refine lv_istore (lv' := [(4, .int (nI 0)), (0, .ref (md 0)), (1, .int (nI jj)), (2, .int (nI cc)), (3, .int (nI pl)), (5, .int (nI i))]) hx hb dX9_isSigned_107 hl (by decide) rfl (fun ls hl => ?_)
                  refine lv_iinc (v := (nI (i + 1))) (lv' := [(5, .int (nI (i + 1))), (4, .int (nI 0)), (0, .ref (md 0)), (1, .int (nI jj)), (2, .int (nI cc)), (3, .int (nI pl))]) hx hb dX9_isSigned_109 hl (k := 5) rfl (by rw [show Int32.ofInt 1 = nI 1 from by decide]; exact nI_add _ _) (by decide) rfl (fun ls hl => ?_)
                  refine lv_goto (tgt := 68) hx hb dX9_isSigned_112 (by decide) ?_
                  exact ih (i + 1) (nI 0) _ H locs ls (by omega) (by omega) hS h3 h16 (Or.inr ⟨rfl, fun z => cc1 (z.2 i (by omega))⟩) hF hR (lv_sub hl [2, 3, 4, 5, 1, 0] rfl)
                · skip
                  refine lv_iconst (v := nI 1) hx hb dX9_isSigned_102 (by decide) ?_
                  refine lv_goto (tgt := 107) hx hb dX9_isSigned_103 (by decide) ?_
                  refine lv_istore (lv' := [(4, .int (nI 1)), (0, .ref (md 0)), (1, .int (nI jj)), (2, .int (nI cc)), (3, .int (nI pl)), (5, .int (nI i))]) hx hb dX9_isSigned_107 hl (by decide) rfl (fun ls hl => ?_)
                  refine lv_iinc (v := (nI (i + 1))) (lv' := [(5, .int (nI (i + 1))), (4, .int (nI 1)), (0, .ref (md 0)), (1, .int (nI jj)), (2, .int (nI cc)), (3, .int (nI pl))]) hx hb dX9_isSigned_109 hl (k := 5) rfl (by rw [show Int32.ofInt 1 = nI 1 from by decide]; exact nI_add _ _) (by decide) rfl (fun ls hl => ?_)
                  refine lv_goto (tgt := 68) hx hb dX9_isSigned_112 (by decide) ?_
                  exact ih (i + 1) (nI 1) _ H locs ls (by omega) (by omega) hS h3 h16 (Or.inl ⟨rfl, hq.1, lt_s hq.2 cc1⟩) hF hR (lv_sub hl [2, 3, 4, 5, 1, 0] rfl)
              · skip
                refine lv_iload hx hb dX9_isSigned_75 (lv_at hl 4 rfl) ?_
                refine lv_if_eq (tgt := 106) hx hb dX9_isSigned_77 (by decide) (fun _ => ?_) (fun z => by first | exact absurd z (by decide) | exact absurd (by decide) z)
                refine lv_iconst (v := nI 0) hx hb dX9_isSigned_106 (by decide) ?_
                refine lv_istore (lv' := [(4, .int (nI 0)), (0, .ref (md 0)), (1, .int (nI jj)), (2, .int (nI cc)), (3, .int (nI pl)), (5, .int (nI i))]) hx hb dX9_isSigned_107 hl (by decide) rfl (fun ls hl => ?_)
                refine lv_iinc (v := (nI (i + 1))) (lv' := [(5, .int (nI (i + 1))), (4, .int (nI 0)), (0, .ref (md 0)), (1, .int (nI jj)), (2, .int (nI cc)), (3, .int (nI pl))]) hx hb dX9_isSigned_109 hl (k := 5) rfl (by rw [show Int32.ofInt 1 = nI 1 from by decide]; exact nI_add _ _) (by decide) rfl (fun ls hl => ?_)
                refine lv_goto (tgt := 68) hx hb dX9_isSigned_112 (by decide) ?_
                exact ih (i + 1) (nI 0) _ H locs ls (by omega) (by omega) hS h3 h16 (Or.inr ⟨rfl, fun z => hq ⟨z.1, fun j hj => z.2 j (by omega)⟩⟩) hF hR (lv_sub hl [2, 3, 4, 5, 1, 0] rfl)
        refine lv_aload_n hx hb dX9_isSigned_48 rfl (lv_at hl 0 rfl) ?_
        refine mm_get S hC hR (C := RX9) (T := TX9) (N := 23) (ref := "ForkWatchModel") (v := .ref (md 3)) 2 h0 inRX9 rfl (by decide) (by decide +kernel) (fun _ h9 => h9) rfl dX9_isSigned_49 ?_
        refine lv_iload_n hx hb dX9_isSigned_52 rfl (lv_at hl 3 rfl) ?_
        refine mm_iald S hC hR h3 (j := pl) (by omega) (by omega) dX9_isSigned_53 ?_
        refine lv_iload_n hx hb dX9_isSigned_54 rfl (lv_at hl 2 rfl) ?_
        refine lv_icmp_ne (tgt := 62) hx hb dX9_isSigned_55 (by decide) (fun cc0 => ?_) (fun cc0 => ?_)
        · skip
          refine lv_iconst (v := nI 0) hx hb dX9_isSigned_62 (by decide) ?_
          refine lv_istore (lv' := [(4, .int (nI 0)), (0, .ref (md 0)), (1, .int (nI jj)), (2, .int (nI cc)), (3, .int (nI pl))]) hx hb dX9_isSigned_63 hl (by decide) rfl (fun ls hl => ?_)
          refine lv_iconst (v := nI 0) hx hb dX9_isSigned_65 (by decide) ?_
          refine lv_istore (lv' := [(5, .int (nI 0)), (4, .int (nI 0)), (0, .ref (md 0)), (1, .int (nI jj)), (2, .int (nI cc)), (3, .int (nI pl))]) hx hb dX9_isSigned_66 hl (by decide) rfl (fun ls hl => ?_)
          exact loopB (32 + 1) 0 (nI 0) _ _ _ ls (by omega) (by omega) hS h3 h16 (Or.inr ⟨rfl, fun z => cc0 z.1⟩) hF hR (lv_sub hl [2, 3, 4, 5, 1, 0] rfl)
        · skip
          refine lv_iconst (v := nI 1) hx hb dX9_isSigned_58 (by decide) ?_
          refine lv_goto (tgt := 63) hx hb dX9_isSigned_59 (by decide) ?_
          refine lv_istore (lv' := [(4, .int (nI 1)), (0, .ref (md 0)), (1, .int (nI jj)), (2, .int (nI cc)), (3, .int (nI pl))]) hx hb dX9_isSigned_63 hl (by decide) rfl (fun ls hl => ?_)
          refine lv_iconst (v := nI 0) hx hb dX9_isSigned_65 (by decide) ?_
          refine lv_istore (lv' := [(5, .int (nI 0)), (4, .int (nI 1)), (0, .ref (md 0)), (1, .int (nI jj)), (2, .int (nI cc)), (3, .int (nI pl))]) hx hb dX9_isSigned_66 hl (by decide) rfl (fun ls hl => ?_)
          exact loopB (32 + 1) 0 (nI 1) _ _ _ ls (by omega) (by omega) hS h3 h16 (Or.inl ⟨rfl, cc0, (fun j hj => absurd hj (Nat.not_lt_zero j))⟩) hF hR (lv_sub hl [2, 3, 4, 5, 1, 0] rfl)
      · have c35 : ¬ (52 ≤ i) := fun z => c35 ((nI_leI (a := 52) (b := i) (by omega) (by omega)).mpr z)
        refine lv_aload_n hx hb dX9_isSigned_22 rfl (lv_at hl 0 rfl) ?_
        refine mm_get S hC hR (C := RX9) (T := TX9) (N := 23) (ref := "ForkWatchModel") (v := .ref (md 16)) 21 h0 inRX9 rfl (by decide) (by decide +kernel) (fun _ h9 => h9) rfl dX9_isSigned_23 ?_
        refine lv_iload hx hb dX9_isSigned_26 (lv_at hl 4 rfl) ?_
        refine lv_aload_n hx hb dX9_isSigned_28 rfl (lv_at hl 0 rfl) ?_
        refine mm_get S hC hR (C := RX9) (T := TX9) (N := 23) (ref := "ForkWatchModel") (v := .ref (md 3)) 2 h0 inRX9 rfl (by decide) (by decide +kernel) (fun _ h9 => h9) rfl dX9_isSigned_29 ?_
        refine lv_iload_n hx hb dX9_isSigned_32 rfl (lv_at hl 3 rfl) ?_
        refine lv_iload hx hb dX9_isSigned_33 (lv_at hl 4 rfl) ?_
        refine lv_iadd hx hb dX9_isSigned_35 ?_
        refine mm_eqi (nI_add _ _) ?_
        refine mm_iald S hC hR h3 (j := (pl + i)) (by omega) (by omega) dX9_isSigned_36 ?_
        refine mm_iast S hC hR h16 (j := i) (by omega) (by omega) dX9_isSigned_37 (fun H locs M39 g41 f40 hR => ?_)
        have h3 := f40.at h3 (mm_nc (yne hJ (by decide) (by decide) (by decide)) mm_n0)
        have h0 := f40.at h0 (mm_nc (yne hJ (by decide) (by decide) (by decide)) mm_n0)
        have h10 := f40.at h10 (mm_nc (yne hJ (by decide) (by decide) (by decide)) mm_n0)
        have h11 := f40.at h11 (mm_nc (yne hJ (by decide) (by decide) (by decide)) mm_n0)
        have h16 : M39 (md 16) = some (ia G 64 (upd (va_cpy ss p pl 0 i) i (ss (pl + i)))) := g41
        have hF := hF.tr f40 (mm_ic 6 rfl mm_i0)
        have hS := hS.out f40 (mm_nc (yne hJ (by decide) (by decide) (by decide)) mm_n0) (mm_nc (yne hJ (by decide) (by decide) (by decide)) mm_n0) (mm_nc (yne hJ (by decide) (by decide) (by decide)) mm_n0) (mm_nc (yne hJ (by decide) (by decide) (by decide)) mm_n0) (mm_nc (yne hJ (by decide) (by decide) (by decide)) mm_n0) (mm_nc (yne hJ (by decide) (by decide) (by decide)) mm_n0) (mm_nc (yne hJ (by decide) (by decide) (by decide)) mm_n0) (mm_nc (yne hJ (by decide) (by decide) (by decide)) mm_n0)
        refine lv_iinc (v := (nI (i + 1))) (lv' := [(4, .int (nI (i + 1))), (0, .ref (md 0)), (1, .int (nI jj)), (2, .int (nI cc)), (3, .int (nI pl))]) hx hb dX9_isSigned_38 hl (k := 4) rfl (by rw [show Int32.ofInt 1 = nI 1 from by decide]; exact nI_add _ _) (by decide) rfl (fun ls hl => ?_)
        refine lv_goto (tgt := 15) hx hb dX9_isSigned_41 (by decide) ?_
        exact ih (i + 1)  _ H locs ls (by omega) (by omega) hS h3 (cellE h16 (by have h9 := cpy_s (s := ss) (d := p) (a := pl) (b := 0) (i := i) rfl; rw [Nat.zero_add] at h9; exact h9)) hF hR (lv_sub hl [1, 2, 3, 4, 0] rfl)
  exact loopA (52 + 1) 0  _ _ _ ls (by omega) (by omega) hS h3 (cellE h16 cpy_0.symm) hF hR (lv_sub hl [2, 3, 4, 1, 0] rfl)

set_option maxHeartbeats 4000000 in
set_option maxRecDepth 100000 in
/-- greatest(world) -/
theorem c_X9_greatest (l : Launch) (G : mm_G) (M : mm_M) (sz : Nat) (md : Nat → Nat) (v6 v9 v11 v12 v13 v22 : Int32) (nz : Nat) (f d : Nat → Int32) (jj : Nat) (ss : Nat → Int32) (h3 : M (md 3) = some (ia G 2016 ss)) (hJ : yI md) (hS : yS G M md v6 v9 v11 v12 v13 v22 nz f d) (hj6 : jj < 6) (hin : inl (fun q => shf ss (84 * (4 * jj + q)))) : mm_i l yX9_greatest wsX9_greatest ({ frames := 2, cells := 0, slots := 0, locals := 80 } : Room) G ([.ref (md 0), .int (nI jj)] : List Value) M sz (fun r M' => r = nI (gr (fun q => shf ss (84 * (4 * jj + q)))) ∧ M = M') := by
  refine mm_enter (cc := cX9_greatest) (maxL := 6) (ret := (some .int)) _ (by decide) rfl (Nat.le_of_ble_eq_true rfl) ?_
  intro p0 e0 s m0 be0 me0 c0 ls S hr hlocks hname hA hC hR hl
  have hx := S.1
  have hb := S.2.1
  have hl : lv_has ls 6 [(0, .ref (md 0)), (1, .int (nI jj))] := hl
  have inRX9 : ∀ w ∈ wsX90, w ∈ wsX9_greatest := by decide +kernel
  have hF : mm_fr [] M M := mm_fr.rf
  have h0 : M (md 0) = some (ob 10 [.ref (md 1), .ref (md 2), .ref (md 3), .ref (md 4), .ref (md 5), .ref (md 6), .int v6, .ref (md 7), .ref (md 8), .int v9, .ref (md 9), .int v11, .int v12, .int v13, .ref (md 10), .int (nI nz), .ref (md 11), .ref (md 12), .ref (md 13), .ref (md 14), .ref (md 15), .ref (md 16), .int v22]) := hS.1
  have h10 : M (md 10) = some (ia G 256 f) := hS.2.1
  have h11 : M (md 11) = some (ia G 32 d) := hS.2.2.1
  refine lv_iconst (v := -1) hx hb dX9_greatest_0 (by decide) ?_
  refine lv_istore_n (lv' := [(2, .int (-1)), (0, .ref (md 0)), (1, .int (nI jj))]) hx hb dX9_greatest_1 rfl hl (by decide) rfl (fun ls hl => ?_)
  refine lv_iconst (v := nI 0) hx hb dX9_greatest_2 (by decide) ?_
  refine lv_istore_n (lv' := [(3, .int (nI 0)), (2, .int (-1)), (0, .ref (md 0)), (1, .int (nI jj))]) hx hb dX9_greatest_3 rfl hl (by decide) rfl (fun ls hl => ?_)
  obtain ⟨st, est⟩ : ∃ z : Nat → Nat → Int32, z = (fun q => shf ss (84 * (4 * jj + q))) := ⟨_, rfl⟩
  have hst : ∀ q, shf ss (84 * (4 * jj + q)) = st q := fun q => by rw [est]
  rw [← est] at hin
  have loopA : ∀ (n : Nat) (c : Nat)  (M1 : mm_M) (H : Heap) (locs : List Loc) (ls : Array Slot), (4 < c + n) → (c ≤ 4) → (yS G M1 md v6 v9 v11 v12 v13 v22 nz f d) → (M1 (md 3) = some (ia G 2016 ss)) → (∀ q, q < c → ¬ ∀ o, o < 4 → na (st o) (st q)) → (M = M1) → (mm_fr [] M M1) → mm_R G s (mm_A M sz) M1 H locs → lv_has ls 6 [(0, .ref (md 0)), (1, .int (nI jj)), (2, .int (-1)), (3, .int (nI c))] → W p0 l e0 ({ frames := 2, cells := 0, slots := 0, locals := 80 } : Room) s m0 ([.ref (md 0), .int (nI jj)] : List Value).toArray be0 me0 c0 H locs 0 0 (MQ be0 (va_Qi (fun r M' => r = nI (gr (fun q => shf ss (84 * (4 * jj + q)))) ∧ M = M') (fun M' t => mm_H G (mm_A M sz) M' t.heap) (mm_A M sz)) ([.ref (md 0), .int (nI jj)] : List Value).toArray s 0 0 (mm_A M sz)) (F0 m0 4 ls []) := by
    intro n
    induction n with
    | zero =>
      intro c  M1 H locs ls hn hi hS h3 hno eM hF hR hl
      omega
    | succ n ih =>
      intro c  M1 H locs ls hn hi hS h3 hno eM hF hR hl
      have h0 : M1 (md 0) = some (ob 10 [.ref (md 1), .ref (md 2), .ref (md 3), .ref (md 4), .ref (md 5), .ref (md 6), .int v6, .ref (md 7), .ref (md 8), .int v9, .ref (md 9), .int v11, .int v12, .int v13, .ref (md 10), .int (nI nz), .ref (md 11), .ref (md 12), .ref (md 13), .ref (md 14), .ref (md 15), .ref (md 16), .int v22]) := hS.1
      have h10 : M1 (md 10) = some (ia G 256 f) := hS.2.1
      have h11 : M1 (md 11) = some (ia G 32 d) := hS.2.2.1
      subst eM
      refine lv_iload_n hx hb dX9_greatest_4 rfl (lv_at hl 3 rfl) ?_
      refine lv_iconst (v := nI 4) hx hb dX9_greatest_5 (by decide) ?_
      refine lv_icmp_ge (tgt := 82) hx hb dX9_greatest_6 (by decide) (fun c1 => ?_) (fun c1 => ?_)
      · have c1 : 4 ≤ c := (nI_leI (a := 4) (b := c) (by omega) (by omega)).mp c1
        exact absurd (fun o ho => gr_top hin 3 (by decide) o (by omega)) (hno (gr st) (by have := gr_lt st; omega))
      · have c1 : ¬ (4 ≤ c) := fun z => c1 ((nI_leI (a := 4) (b := c) (by omega) (by omega)).mpr z)
        have ihA := ih
        refine lv_iload_n hx hb dX9_greatest_9 rfl (lv_at hl 2 rfl) ?_
        refine lv_iconst (v := -1) hx hb dX9_greatest_10 (by decide) ?_
        refine lv_icmp_ne (tgt := 82) hx hb dX9_greatest_11 (by decide) (fun z => by first | exact absurd z (by decide) | exact absurd (by decide) z) (fun _ => ?_)
        refine lv_iconst (v := nI 1) hx hb dX9_greatest_14 (by decide) ?_
        refine lv_istore (lv' := [(4, .int (nI 1)), (0, .ref (md 0)), (1, .int (nI jj)), (2, .int (-1)), (3, .int (nI c))]) hx hb dX9_greatest_15 hl (by decide) rfl (fun ls hl => ?_)
        refine lv_iconst (v := nI 0) hx hb dX9_greatest_17 (by decide) ?_
        refine lv_istore (lv' := [(5, .int (nI 0)), (4, .int (nI 1)), (0, .ref (md 0)), (1, .int (nI jj)), (2, .int (-1)), (3, .int (nI c))]) hx hb dX9_greatest_18 hl (by decide) rfl (fun ls hl => ?_)
        have loopB : ∀ (n : Nat) (i : Nat) (b : Int32) (M1 : mm_M) (H : Heap) (locs : List Loc) (ls : Array Slot), (4 < i + n) → (i ≤ 4) → (yS G M1 md v6 v9 v11 v12 v13 v22 nz f d) → (M1 (md 3) = some (ia G 2016 ss)) → (bq b (∀ o, o < i → na (st o) (st c))) → (M = M1) → (mm_fr [] M M1) → mm_R G s (mm_A M sz) M1 H locs → lv_has ls 6 [(0, .ref (md 0)), (1, .int (nI jj)), (2, .int (-1)), (3, .int (nI c)), (4, .int b), (5, .int (nI i))] → W p0 l e0 ({ frames := 2, cells := 0, slots := 0, locals := 80 } : Room) s m0 ([.ref (md 0), .int (nI jj)] : List Value).toArray be0 me0 c0 H locs 0 0 (MQ be0 (va_Qi (fun r M' => r = nI (gr (fun q => shf ss (84 * (4 * jj + q)))) ∧ M = M') (fun M' t => mm_H G (mm_A M sz) M' t.heap) (mm_A M sz)) ([.ref (md 0), .int (nI jj)] : List Value).toArray s 0 0 (mm_A M sz)) (F0 m0 20 ls []) := by
          intro n
          induction n with
          | zero =>
            intro i b M1 H locs ls hn hi hS h3 hbq eM hF hR hl
            omega
          | succ n ih =>
            intro i b M1 H locs ls hn hi hS h3 hbq eM hF hR hl
            have h0 : M1 (md 0) = some (ob 10 [.ref (md 1), .ref (md 2), .ref (md 3), .ref (md 4), .ref (md 5), .ref (md 6), .int v6, .ref (md 7), .ref (md 8), .int v9, .ref (md 9), .int v11, .int v12, .int v13, .ref (md 10), .int (nI nz), .ref (md 11), .ref (md 12), .ref (md 13), .ref (md 14), .ref (md 15), .ref (md 16), .int v22]) := hS.1
            have h10 : M1 (md 10) = some (ia G 256 f) := hS.2.1
            have h11 : M1 (md 11) = some (ia G 32 d) := hS.2.2.1
            subst eM
            refine lv_iload hx hb dX9_greatest_20 (lv_at hl 5 rfl) ?_
            refine lv_iconst (v := nI 4) hx hb dX9_greatest_22 (by decide) ?_
            refine lv_icmp_ge (tgt := 65) hx hb dX9_greatest_23 (by decide) (fun c42 => ?_) (fun c42 => ?_)
            · have c42 : 4 ≤ i := (nI_leI (a := 4) (b := i) (by omega) (by omega)).mp c42
              have e4 : 4 = i := by omega
              subst e4
              rcases hbq with ⟨eb, hq⟩ | ⟨eb, hq⟩ <;> subst eb
              · skip
                refine lv_iload hx hb dX9_greatest_65 (lv_at hl 4 rfl) ?_
                refine lv_if_eq (tgt := 74) hx hb dX9_greatest_67 (by decide) (fun z => by first | exact absurd z (by decide) | exact absurd (by decide) z) (fun _ => ?_)
                refine lv_iload_n hx hb dX9_greatest_70 rfl (lv_at hl 3 rfl) ?_
                refine lv_goto (tgt := 75) hx hb dX9_greatest_71 (by decide) ?_
                refine lv_istore_n (lv' := [(2, .int (nI c)), (0, .ref (md 0)), (1, .int (nI jj)), (3, .int (nI c)), (4, .int 1), (5, .int (nI 4))]) hx hb dX9_greatest_75 rfl hl (by decide) rfl (fun ls hl => ?_)
                refine lv_iinc (v := (nI (c + 1))) (lv' := [(3, .int (nI (c + 1))), (2, .int (nI c)), (0, .ref (md 0)), (1, .int (nI jj)), (4, .int 1), (5, .int (nI 4))]) hx hb dX9_greatest_76 hl (k := 3) rfl (by rw [show Int32.ofInt 1 = nI 1 from by decide]; exact nI_add _ _) (by decide) rfl (fun ls hl => ?_)
                refine lv_goto (tgt := 4) hx hb dX9_greatest_79 (by decide) ?_
                refine lv_iload_n hx hb dX9_greatest_4 rfl (lv_at hl 0 rfl) ?_
                refine lv_iconst (v := nI 4) hx hb dX9_greatest_5 (by decide) ?_
                have eg : gr st = c := gr_is hin (by omega) hq hno
                refine lv_icmp_ge (tgt := 82) hx hb dX9_greatest_6 (by decide) (fun c5 => ?_) (fun c5 => ?_)
                · have c5 : 4 ≤ c + 1 := (nI_leI (a := 4) (b := c + 1) (by omega) (by omega)).mp c5
                  refine lv_iload_n hx hb dX9_greatest_82 rfl (lv_at hl 1 rfl) ?_
                  exact mm_iret S hr hlocks hR ⟨by rw [← est, eg], rfl⟩ dX9_greatest_83
                · have c5 : ¬ (4 ≤ c + 1) := fun z => c5 ((nI_leI (a := 4) (b := c + 1) (by omega) (by omega)).mpr z)
                  refine lv_iload_n hx hb dX9_greatest_9 rfl (lv_at hl 1 rfl) ?_
                  refine lv_iconst (v := -1) hx hb dX9_greatest_10 (by decide) ?_
                  refine lv_icmp_ne (tgt := 82) hx hb dX9_greatest_11 (by decide) (fun c6 => ?_) (fun c6 => ?_)
                  · skip
                    refine lv_iload_n hx hb dX9_greatest_82 rfl (lv_at hl 1 rfl) ?_
                    exact mm_iret S hr hlocks hR ⟨by rw [← est, eg], rfl⟩ dX9_greatest_83
                  · skip
                    exact absurd c6 (nI_m1 c (by omega))
              · skip
                refine lv_iload hx hb dX9_greatest_65 (lv_at hl 4 rfl) ?_
                refine lv_if_eq (tgt := 74) hx hb dX9_greatest_67 (by decide) (fun _ => ?_) (fun z => by first | exact absurd z (by decide) | exact absurd (by decide) z)
                refine lv_iload_n hx hb dX9_greatest_74 rfl (lv_at hl 2 rfl) ?_
                refine lv_istore_n (lv' := [(2, .int (-1)), (0, .ref (md 0)), (1, .int (nI jj)), (3, .int (nI c)), (4, .int 0), (5, .int (nI 4))]) hx hb dX9_greatest_75 rfl hl (by decide) rfl (fun ls hl => ?_)
                refine lv_iinc (v := (nI (c + 1))) (lv' := [(3, .int (nI (c + 1))), (2, .int (-1)), (0, .ref (md 0)), (1, .int (nI jj)), (4, .int 0), (5, .int (nI 4))]) hx hb dX9_greatest_76 hl (k := 3) rfl (by rw [show Int32.ofInt 1 = nI 1 from by decide]; exact nI_add _ _) (by decide) rfl (fun ls hl => ?_)
                refine lv_goto (tgt := 4) hx hb dX9_greatest_79 (by decide) ?_
                exact ihA (c + 1)  _ H locs ls (by omega) (by omega) hS h3 (fun q h9 => (Nat.lt_succ_iff_lt_or_eq.mp h9).elim (hno q) (fun e9 => by rw [e9]; exact hq)) rfl hF hR (lv_sub hl [2, 3, 1, 0] rfl)
            · have c42 : ¬ (4 ≤ i) := fun z => c42 ((nI_leI (a := 4) (b := i) (by omega) (by omega)).mpr z)
              rcases hbq with ⟨eb, hq⟩ | ⟨eb, hq⟩ <;> subst eb
              · skip
                refine lv_iload hx hb dX9_greatest_26 (lv_at hl 4 rfl) ?_
                refine lv_if_eq (tgt := 56) hx hb dX9_greatest_28 (by decide) (fun z => by first | exact absurd z (by decide) | exact absurd (by decide) z) (fun _ => ?_)
                refine lv_aload_n hx hb dX9_greatest_31 rfl (lv_at hl 0 rfl) ?_
                refine mm_get S hC hR (C := RX9) (T := TX9) (N := 23) (ref := "ForkWatchModel") (v := .ref (md 3)) 2 h0 inRX9 rfl (by decide) (by decide +kernel) (fun _ h9 => h9) rfl dX9_greatest_32 ?_
                refine lv_iload_n hx hb dX9_greatest_35 rfl (lv_at hl 1 rfl) ?_
                refine lv_iload hx hb dX9_greatest_36 (lv_at hl 5 rfl) ?_
                refine mm_calli hA hR (va_runS (As := [.int (nI jj), .int (nI i)]) (rest := [.ref (md 3)]) S (c_X9_placeOf l G M _ jj i) (va_cwS 2 S.2.2.2.2 gX9_greatest_X9_placeOf rfl rfl rfl (by decide +kernel) ⟨Nat.le_of_ble_eq_true rfl, Nat.le_of_ble_eq_true rfl⟩) (mm_preS hC hA hR _) rfl rfl hl.1 rfl (lv_room (Nat.le_of_ble_eq_true rfl)) dX9_greatest_38 ⟨Nat.le_of_ble_eq_true rfl, Nat.le_of_ble_eq_true rfl⟩) (fun r43 M44 H locs hp hR => ?_)
                obtain ⟨er, eM⟩ := hp
                subst eM
                subst er
                refine lv_iload_n hx hb dX9_greatest_41 rfl (lv_at hl 1 rfl) ?_
                refine lv_iload_n hx hb dX9_greatest_42 rfl (lv_at hl 3 rfl) ?_
                refine mm_calli hA hR (va_runS (As := [.int (nI jj), .int (nI c)]) (rest := [.int (nI (84 * (4 * jj + i))), .ref (md 3)]) S (c_X9_placeOf l G M _ jj c) (va_cwS 2 S.2.2.2.2 gX9_greatest_X9_placeOf rfl rfl rfl (by decide +kernel) ⟨Nat.le_of_ble_eq_true rfl, Nat.le_of_ble_eq_true rfl⟩) (mm_preS hC hA hR _) rfl rfl hl.1 rfl (lv_room (Nat.le_of_ble_eq_true rfl)) dX9_greatest_43 ⟨Nat.le_of_ble_eq_true rfl, Nat.le_of_ble_eq_true rfl⟩) (fun r45 M46 H locs hp hR => ?_)
                obtain ⟨er, eM⟩ := hp
                subst eM
                subst er
                refine mm_calli hA hR (va_runS (As := [.ref (md 3), .int (nI (84 * (4 * jj + i))), .int (nI (84 * (4 * jj + c)))]) (rest := []) S (c_X9_isNotAbove l G M _ (md 3) 2016 (84 * (4 * jj + i)) (84 * (4 * jj + c)) ss h3 (by omega) (by omega) (by decide)) (va_cwS 3 S.2.2.2.2 gX9_greatest_X9_isNotAbove rfl rfl rfl (by decide +kernel) ⟨Nat.le_of_ble_eq_true rfl, Nat.le_of_ble_eq_true rfl⟩) (mm_preS hC hA hR _) rfl rfl hl.1 rfl (lv_room (Nat.le_of_ble_eq_true rfl)) dX9_greatest_46 ⟨Nat.le_of_ble_eq_true rfl, Nat.le_of_ble_eq_true rfl⟩) (fun r47 M48 H locs hp hR => ?_)
                obtain ⟨er, eM⟩ := hp
                subst eM
                rw [hst, hst] at er
                rcases er with ⟨er, e2⟩ | ⟨er, e2⟩ <;> subst er
                · skip
                  refine lv_if_eq (tgt := 56) hx hb dX9_greatest_49 (by decide) (fun z => by first | exact absurd z (by decide) | exact absurd (by decide) z) (fun _ => ?_)
                  refine lv_iconst (v := nI 1) hx hb dX9_greatest_52 (by decide) ?_
                  refine lv_goto (tgt := 57) hx hb dX9_greatest_53 (by decide) ?_
                  refine lv_istore (lv' := [(4, .int (nI 1)), (0, .ref (md 0)), (1, .int (nI jj)), (2, .int (-1)), (3, .int (nI c)), (5, .int (nI i))]) hx hb dX9_greatest_57 hl (by decide) rfl (fun ls hl => ?_)
                  refine lv_iinc (v := (nI (i + 1))) (lv' := [(5, .int (nI (i + 1))), (4, .int (nI 1)), (0, .ref (md 0)), (1, .int (nI jj)), (2, .int (-1)), (3, .int (nI c))]) hx hb dX9_greatest_59 hl (k := 5) rfl (by rw [show Int32.ofInt 1 = nI 1 from by decide]; exact nI_add _ _) (by decide) rfl (fun ls hl => ?_)
                  refine lv_goto (tgt := 20) hx hb dX9_greatest_62 (by decide) ?_
                  exact ih (i + 1) (nI 1) _ H locs ls (by omega) (by omega) hS h3 (Or.inl ⟨rfl, lt_s hq e2⟩) rfl hF hR (lv_sub hl [2, 3, 4, 5, 1, 0] rfl)
                · skip
                  refine lv_if_eq (tgt := 56) hx hb dX9_greatest_49 (by decide) (fun _ => ?_) (fun z => by first | exact absurd z (by decide) | exact absurd (by decide) z)
                  refine lv_iconst (v := nI 0) hx hb dX9_greatest_56 (by decide) ?_
                  refine lv_istore (lv' := [(4, .int (nI 0)), (0, .ref (md 0)), (1, .int (nI jj)), (2, .int (-1)), (3, .int (nI c)), (5, .int (nI i))]) hx hb dX9_greatest_57 hl (by decide) rfl (fun ls hl => ?_)
                  refine lv_iinc (v := (nI (i + 1))) (lv' := [(5, .int (nI (i + 1))), (4, .int (nI 0)), (0, .ref (md 0)), (1, .int (nI jj)), (2, .int (-1)), (3, .int (nI c))]) hx hb dX9_greatest_59 hl (k := 5) rfl (by rw [show Int32.ofInt 1 = nI 1 from by decide]; exact nI_add _ _) (by decide) rfl (fun ls hl => ?_)
                  refine lv_goto (tgt := 20) hx hb dX9_greatest_62 (by decide) ?_
                  exact ih (i + 1) (nI 0) _ H locs ls (by omega) (by omega) hS h3 (Or.inr ⟨rfl, fun z => e2 (z i (by omega))⟩) rfl hF hR (lv_sub hl [2, 3, 4, 5, 1, 0] rfl)
              · skip
                refine lv_iload hx hb dX9_greatest_26 (lv_at hl 4 rfl) ?_
                refine lv_if_eq (tgt := 56) hx hb dX9_greatest_28 (by decide) (fun _ => ?_) (fun z => by first | exact absurd z (by decide) | exact absurd (by decide) z)
                refine lv_iconst (v := nI 0) hx hb dX9_greatest_56 (by decide) ?_
                refine lv_istore (lv' := [(4, .int (nI 0)), (0, .ref (md 0)), (1, .int (nI jj)), (2, .int (-1)), (3, .int (nI c)), (5, .int (nI i))]) hx hb dX9_greatest_57 hl (by decide) rfl (fun ls hl => ?_)
                refine lv_iinc (v := (nI (i + 1))) (lv' := [(5, .int (nI (i + 1))), (4, .int (nI 0)), (0, .ref (md 0)), (1, .int (nI jj)), (2, .int (-1)), (3, .int (nI c))]) hx hb dX9_greatest_59 hl (k := 5) rfl (by rw [show Int32.ofInt 1 = nI 1 from by decide]; exact nI_add _ _) (by decide) rfl (fun ls hl => ?_)
                refine lv_goto (tgt := 20) hx hb dX9_greatest_62 (by decide) ?_
                exact ih (i + 1) (nI 0) _ H locs ls (by omega) (by omega) hS h3 (Or.inr ⟨rfl, fun z => hq (fun o ho => z o (by omega))⟩) rfl hF hR (lv_sub hl [2, 3, 4, 5, 1, 0] rfl)
        exact loopB (4 + 1) 0 (nI 1) _ _ _ ls (by omega) (by omega) hS h3 (Or.inl ⟨rfl, (fun j hj => absurd hj (Nat.not_lt_zero j))⟩) rfl hF hR (lv_sub hl [2, 3, 4, 5, 1, 0] rfl)
  exact loopA (4 + 1) 0  _ _ _ ls (by omega) (by omega) hS h3 (fun j hj => absurd hj (Nat.not_lt_zero j)) rfl hF hR (lv_sub hl [2, 3, 1, 0] rfl)
