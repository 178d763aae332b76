/-! ===== Arrays.fill, sameRow, ForkWatch$Files, ForkWatch$Operation ===== -/
def fl_go (f : Nat → Int32) (v : Int32) (n : Nat) : Nat → Int32 := fun j => if j < n then v else f j
theorem fl_0 {f : Nat → Int32} {v : Int32} : fl_go f v 0 = f := by funext j; unfold fl_go; rw [if_neg (by omega)]
theorem fl_s {f : Nat → Int32} {v : Int32} {n : Nat} : upd (fl_go f v n) n v = fl_go f v (n + 1) := by
  funext j
  unfold upd fl_go
  by_cases h : j = n
  · rw [if_pos h, if_pos (by omega)]
  · rw [if_neg h]
    by_cases h2 : j < n
    · rw [if_pos h2, if_pos (by omega)]
    · rw [if_neg h2, if_neg (by omega)]

set_option maxHeartbeats 4000000 in
set_option maxRecDepth 100000 in
/-- Arrays.fill(row, v) -/
theorem c_J7_fill_53178 (l : Launch) (G : mm_G) (M : mm_M) (sz : Nat) (y k : Nat) (f : Nat → Int32) (v : Int32) (h1 : M y = some (ia G k f)) (hk : k < 2 ^ 31) : mm_v l yJ7_fill_53178 wsJ7_fill_53178 ({ frames := 0, cells := 0, slots := 0, locals := 0 } : Room) G ([.ref y, .int v] : List Value) M sz (fun M' => M' y = some (ia G k (fl_go f v k)) ∧ mm_fr [y] M M') := by
  refine mm_enter (cc := cJ7_fill_53178) (maxL := 4) (ret := none) _ (by decide) rfl (Nat.le_of_ble_eq_true rfl) ?_
  intro p e s m below meth c ls S hr hlocks hname hA hC hR hl
  have hx := S.1
  have hb := S.2.1
  have hl : lv_has ls 4 [(0, .ref y), (1, .int v)] := hl
  have hF : mm_fr [y] M M := mm_fr.rf
  refine lv_iconst (v := nI 0) hx hb dJ7_fill_53178_0 (by decide) ?_
  refine lv_istore_n (lv' := [(2, .int (nI 0)), (0, .ref y), (1, .int v)]) hx hb dJ7_fill_53178_1 rfl hl (by decide) rfl (fun ls hl => ?_)
  refine lv_aload_n hx hb dJ7_fill_53178_2 rfl (lv_at hl 1 rfl) ?_
  refine mm_ilen S hC hR h1 dJ7_fill_53178_3 ?_
  refine lv_istore_n (lv' := [(3, .int (nI k)), (2, .int (nI 0)), (0, .ref y), (1, .int v)]) hx hb dJ7_fill_53178_4 rfl hl (by decide) rfl (fun ls hl => ?_)
  have loop : ∀ (n i : Nat) (M1 : mm_M) (H : Heap) (locs : List Loc) (ls : Array Slot), k < i + n → i ≤ k → M1 y = some (ia G k (fl_go f v i)) → mm_fr [y] M M1 → mm_R G s (mm_A M sz) M1 H locs → lv_has ls 4 [(0, .ref y), (1, .int v), (2, .int (nI i)), (3, .int (nI k))] → W p l e ({ frames := 0, cells := 0, slots := 0, locals := 0 } : Room) s m ([.ref y, .int v] : List Value).toArray below meth c H locs 0 0 (MQ below (va_Qv (fun M' => M' y = some (ia G k (fl_go f v k)) ∧ mm_fr [y] M M') (fun M' t => mm_H G (mm_A M sz) M' t.heap) (mm_A M sz)) ([.ref y, .int v] : List Value).toArray s 0 0 (mm_A M sz)) (F0 m 5 ls []) := by
    intro n
    induction n with
    | zero =>
      intro i M1 H locs ls hn hi h1 hF hR hl
      omega
    | succ n ih =>
      intro i M1 H locs ls hn hi h1 hF hR hl
      refine lv_iload_n hx hb dJ7_fill_53178_5 rfl (lv_at hl 2 rfl) ?_
      refine lv_iload_n hx hb dJ7_fill_53178_6 rfl (lv_at hl 3 rfl) ?_
      refine lv_icmp_ge (tgt := 20) hx hb dJ7_fill_53178_7 (by decide) (fun c1 => ?_) (fun c1 => ?_)
      · have c1 : k ≤ i := (nI_leI (by omega) (by omega)).mp c1
        have e4 : i = k := by omega
        subst e4
        exact mm_vret S hr hlocks hR ⟨h1, hF⟩ dJ7_fill_53178_20
      · have c1 : ¬ (k ≤ i) := fun z => c1 ((nI_leI (by omega) (by omega)).mpr z)
        refine lv_aload_n hx hb dJ7_fill_53178_10 rfl (lv_at hl 0 rfl) ?_
        refine lv_iload_n hx hb dJ7_fill_53178_11 rfl (lv_at hl 2 rfl) ?_
        refine lv_iload_n hx hb dJ7_fill_53178_12 rfl (lv_at hl 1 rfl) ?_
        refine mm_iast S hC hR h1 (j := i) (by omega) (by omega) dJ7_fill_53178_13 (fun H locs M2 g4 f3 hR => ?_)
        have h1 : M2 y = some (ia G k (upd (fl_go f v i) i v)) := g4
        have hF := hF.tr f3 (mm_ic 0 rfl mm_i0)
        refine lv_iinc (v := (nI (i + 1))) (lv' := [(2, .int (nI (i + 1))), (0, .ref y), (1, .int v), (3, .int (nI k))]) hx hb dJ7_fill_53178_14 hl (k := 2) rfl (by rw [show Int32.ofInt 1 = nI 1 from by decide]; exact nI_add _ _) (by decide) rfl (fun ls hl => ?_)
        refine lv_goto (tgt := 5) hx hb dJ7_fill_53178_17 (by decide) ?_
        exact ih (i + 1) _ H locs ls (by omega) (by omega) (by rw [fl_s] at h1; exact h1) hF hR (lv_sub hl [1, 2, 0, 3] rfl)
  exact loop (k + 1) 0 _ _ _ ls (by omega) (by omega) (by rw [fl_0]; exact h1) hF hR (lv_sub hl [2, 3, 1, 0] rfl)

set_option maxHeartbeats 4000000 in
set_option maxRecDepth 100000 in
/-- sameRow -/
theorem c_X8_sameRow (l : Launch) (G : mm_G) (M : mm_M) (sz : Nat) (y z ky kz oy oz len : Nat) (f g : Nat → Int32) (h1 : M y = some (ia G ky f)) (h2 : M z = some (ia G kz g)) (b1 : oy + len ≤ ky) (b2 : oz + len ≤ kz) (b3 : ky < 2 ^ 31) (b4 : kz < 2 ^ 31) : mm_i l yX8_sameRow wsX8_sameRow ({ frames := 0, cells := 0, slots := 0, locals := 0 } : Room) G ([.ref y, .int (nI oy), .ref z, .int (nI oz), .int (nI len)] : List Value) M sz (fun r M' => bq r (∀ i, i < len → f (oy + i) = g (oz + i)) ∧ mm_fr [] M M') := by
  refine mm_enter (cc := cX8_sameRow) (maxL := 6) (ret := (some .boolean)) _ (by decide) rfl (Nat.le_of_ble_eq_true rfl) ?_
  intro p e s m below meth c ls S hr hlocks hname hA hC hR hl
  have hx := S.1
  have hb := S.2.1
  have hl : lv_has ls 6 [(0, .ref y), (1, .int (nI oy)), (2, .ref z), (3, .int (nI oz)), (4, .int (nI len))] := hl
  have hF : mm_fr [] M M := mm_fr.rf
  refine lv_iconst (v := nI 0) hx hb dX8_sameRow_0 (by decide) ?_
  refine lv_istore (lv' := [(5, .int (nI 0)), (0, .ref y), (1, .int (nI oy)), (2, .ref z), (3, .int (nI oz)), (4, .int (nI len))]) hx hb dX8_sameRow_1 hl (by decide) rfl (fun ls hl => ?_)
  have loop : ∀ (n i : Nat) (ls : Array Slot), len < i + n → i ≤ len → (∀ j, j < i → f (oy + j) = g (oz + j)) → lv_has ls 6 [(0, .ref y), (1, .int (nI oy)), (2, .ref z), (3, .int (nI oz)), (4, .int (nI len)), (5, .int (nI i))] → W p l e ({ frames := 0, cells := 0, slots := 0, locals := 0 } : Room) s m ([.ref y, .int (nI oy), .ref z, .int (nI oz), .int (nI len)] : List Value).toArray below meth c s.heap [] 0 0 (MQ below (va_Qi (fun r M' => bq r (∀ i, i < len → f (oy + i) = g (oz + i)) ∧ mm_fr [] M M') (fun M' t => mm_H G (mm_A M sz) M' t.heap) (mm_A M sz)) ([.ref y, .int (nI oy), .ref z, .int (nI oz), .int (nI len)] : List Value).toArray s 0 0 (mm_A M sz)) (F0 m 3 ls []) := by
    intro n
    induction n with
    | zero =>
      intro i ls hn hi hj hl
      omega
    | succ n ih =>
      intro i ls hn hi hj hl
      refine lv_iload hx hb dX8_sameRow_3 (lv_at hl 5 rfl) ?_
      refine lv_iload hx hb dX8_sameRow_5 (lv_at hl 4 rfl) ?_
      refine lv_icmp_ge (tgt := 33) hx hb dX8_sameRow_7 (by decide) (fun c5 => ?_) (fun c5 => ?_)
      · have c5 : len ≤ i := (nI_leI (by omega) (by omega)).mp c5
        have e4 : i = len := by omega
        subst e4
        refine lv_iconst (v := nI 1) hx hb dX8_sameRow_33 (by decide) ?_
        exact mm_zret S hr hlocks (by decide) hR ⟨Or.inl ⟨rfl, hj⟩, hF⟩ dX8_sameRow_34
      · have c5 : ¬ (len ≤ i) := fun z => c5 ((nI_leI (by omega) (by omega)).mpr z)
        refine lv_aload_n hx hb dX8_sameRow_10 rfl (lv_at hl 0 rfl) ?_
        refine lv_iload_n hx hb dX8_sameRow_11 rfl (lv_at hl 1 rfl) ?_
        refine lv_iload hx hb dX8_sameRow_12 (lv_at hl 5 rfl) ?_
        refine lv_iadd hx hb dX8_sameRow_14 ?_
        refine mm_eqi (nI_add _ _) ?_
        refine mm_iald S hC hR h1 (j := (oy + i)) (by omega) (by omega) dX8_sameRow_15 ?_
        refine lv_aload_n hx hb dX8_sameRow_16 rfl (lv_at hl 2 rfl) ?_
        refine lv_iload_n hx hb dX8_sameRow_17 rfl (lv_at hl 3 rfl) ?_
        refine lv_iload hx hb dX8_sameRow_18 (lv_at hl 5 rfl) ?_
        refine lv_iadd hx hb dX8_sameRow_20 ?_
        refine mm_eqi (nI_add _ _) ?_
        refine mm_iald S hC hR h2 (j := (oz + i)) (by omega) (by omega) dX8_sameRow_21 ?_
        refine lv_icmp_eq (tgt := 27) hx hb dX8_sameRow_22 (by decide) (fun c2 => ?_) (fun c2 => ?_)
        · skip
          refine lv_iinc (v := (nI (i + 1))) (lv' := [(5, .int (nI (i + 1))), (0, .ref y), (1, .int (nI oy)), (2, .ref z), (3, .int (nI oz)), (4, .int (nI len))]) hx hb dX8_sameRow_27 hl (k := 5) rfl (by rw [show Int32.ofInt 1 = nI 1 from by decide]; exact nI_add _ _) (by decide) rfl (fun ls hl => ?_)
          refine lv_goto (tgt := 3) hx hb dX8_sameRow_30 (by decide) ?_
          exact ih (i + 1) ls (by omega) (by omega) (lt_s hj c2) (lv_sub hl [1, 2, 3, 4, 5, 0] rfl)
        · skip
          refine lv_iconst (v := nI 0) hx hb dX8_sameRow_25 (by decide) ?_
          exact mm_zret S hr hlocks (by decide) hR ⟨Or.inr ⟨rfl, fun z => c2 (z i (by omega))⟩, hF⟩ dX8_sameRow_26
  exact loop (len + 1) 0 ls (by omega) (by omega) (fun j hj => absurd hj (Nat.not_lt_zero j)) (lv_sub hl [1, 2, 3, 4, 5, 0] rfl)
