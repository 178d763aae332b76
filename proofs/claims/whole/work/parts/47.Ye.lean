/-! ===== the reference whole: its cells, in the numbers of the program ===== -/
def yA (G : mm_G) (M : mm_M) (md : Nat → Nat) (cl ll : Nat) (wl sp : Int32) (co lr : Nat → Int32) (sh : Nat → Nat) (rem : Nat → Nat → Int32) (nw : Nat) (wst : Nat → Nat → Nat → Int32) (wfc : Nat → Nat → Int32) (wln : Nat → Nat → Nat) : Prop :=
  (∃ v22 f d, yS G M md (nI nw) (nI cl) (nI ll) wl sp v22 0 f d) ∧ (∃ s, M (md 3) = some (ia G 2016 s) ∧ ∀ j, j < nw → ∀ c, c < 4 → ∀ i, i < 84 → s (84 * (4 * j + c) + i) = wst j c i) ∧ (∃ r, M (md 4) = some (ia G 336 r) ∧ ∀ c, c < 4 → ∀ i, i < 84 → r (84 * c + i) = rem c i) ∧
  (∃ f, M (md 5) = some (ia G 1152 f) ∧ ∀ j, j < nw → ∀ x, x < 192 → f (192 * j + x) = wfc j x) ∧ (∃ f, M (md 6) = some (ia G 96 f) ∧ ∀ j, j < nw → ∀ x, x < 16 → f (16 * j + x) = nI (wln j x)) ∧ (∃ s, M (md 7) = some (ia G 4 s) ∧ ∀ c, c < 4 → s c = nI (sh c)) ∧
  (∃ f, M (md 8) = some (ia G 64 f) ∧ ∀ i, i < cl → f i = co i) ∧ (∃ f, M (md 9) = some (ia G 12 f) ∧ ∀ i, i < ll → f i = lr i) ∧ (∃ t, M (md 15) = some (ia G 512 t)) ∧ ∃ p, M (md 16) = some (ia G 64 p)
def yN (cl ll : Nat) (co : Nat → Int32) (sh : Nat → Nat) (rem : Nat → Nat → Int32) (nw : Nat) (wst : Nat → Nat → Nat → Int32) (wfc : Nat → Nat → Int32) (wln : Nat → Nat → Nat) : Prop :=
  cl ≤ 64 ∧ ll ≤ 12 ∧ 1 ≤ nw ∧ nw ≤ 6 ∧ (∀ c, c < 4 → sh c < nw) ∧ (∀ j, j < nw → ∀ x, x < 16 → wln j x ≤ 12) ∧ (∀ j, j < nw → ∀ c, c < 4 → ∀ i, i < 84 → byt (wst j c i)) ∧ (∀ c, c < 4 → ∀ i, i < 84 → byt (rem c i)) ∧ (∀ j, j < nw → ∀ x, x < 192 → byt (wfc j x)) ∧ ∀ i, i < cl → byt (co i)

set_option maxHeartbeats 4000000 in
set_option maxRecDepth 100000 in
/-- isIn(v, many) -/
theorem c_X9_isIn (l : Launch) (G : mm_G) (M : mm_M) (sz : Nat) (x : Int32) (n : Nat)  (hn : n < 2 ^ 31) : mm_i l yX9_isIn wsX9_isIn ({ frames := 0, cells := 0, slots := 0, locals := 0 } : Room) G ([.int x, .int (nI n)] : List Value) M sz (fun r M' => bq r (∃ j, j < n ∧ x = nI j) ∧ M = M') := by
  refine mm_enter (cc := cX9_isIn) (maxL := 2) (ret := (some .boolean)) _ (by decide) rfl (Nat.le_of_ble_eq_true rfl) ?_
  intro p0 e0 s m0 be0 me0 c0 ls S hr hlocks hname hA hC hR hl
  have hx := S.1
  have hb := S.2.1
  have hl : lv_has ls 2 [(0, .int x), (1, .int (nI n))] := hl
  have hF : mm_fr [] M M := mm_fr.rf
  refine lv_iload_n hx hb dX9_isIn_0 rfl (lv_at hl 0 rfl) ?_
  refine lv_if_lt (tgt := 13) hx hb dX9_isIn_1 (by decide) (fun c1 => ?_) (fun c1 => ?_)
  · skip
    refine lv_iconst (v := nI 0) hx hb dX9_isIn_13 (by decide) ?_
    exact mm_zret S hr hlocks (by decide) hR ⟨Or.inr ⟨rfl, fun ⟨j, hj, e⟩ => by rw [e] at c1; exact nI_pos (by omega) c1⟩, rfl⟩ dX9_isIn_14
  · skip
    refine lv_iload_n hx hb dX9_isIn_4 rfl (lv_at hl 0 rfl) ?_
    refine lv_iload_n hx hb dX9_isIn_5 rfl (lv_at hl 1 rfl) ?_
    refine lv_icmp_ge (tgt := 13) hx hb dX9_isIn_6 (by decide) (fun c2 => ?_) (fun c2 => ?_)
    · skip
      refine lv_iconst (v := nI 0) hx hb dX9_isIn_13 (by decide) ?_
      exact mm_zret S hr hlocks (by decide) hR ⟨Or.inr ⟨rfl, fun ⟨j, hj, e⟩ => by rw [e] at c2; exact absurd c2 (nI_ge hj (by omega))⟩, rfl⟩ dX9_isIn_14
    · skip
      refine lv_iconst (v := nI 1) hx hb dX9_isIn_9 (by decide) ?_
      refine lv_goto (tgt := 14) hx hb dX9_isIn_10 (by decide) ?_
      exact mm_zret S hr hlocks (by decide) hR ⟨Or.inl ⟨rfl, ((pk_ix x (n := n) (by omega)).resolve_left c1).resolve_left c2⟩, rfl⟩ dX9_isIn_14

set_option maxHeartbeats 4000000 in
set_option maxRecDepth 100000 in
/-- feed(b) -/
theorem c_X9_feed (l : Launch) (G : mm_G) (M : mm_M) (sz : Nat) (md : Nat → Nat) (cl ll : Nat) (wl sp : Int32) (co lr : Nat → Int32) (sh : Nat → Nat) (rem : Nat → Nat → Int32) (nw : Nat) (wst : Nat → Nat → Nat → Int32) (wfc : Nat → Nat → Int32) (wln : Nat → Nat → Nat) (x : Int32)  (hya : yA G M md cl ll wl sp co lr sh rem nw wst wfc wln) (hJ : yI md) (hN : yN cl ll co sh rem nw wst wfc wln) : mm_i l yX9_feed wsX9_feed ({ frames := 0, cells := 0, slots := 0, locals := 0 } : Room) G ([.ref (md 0), .int x] : List Value) M sz (fun r M' => (r = 0 ∧ ¬ ((∃ j, j < 256 ∧ x = nI j) ∧ cl < 64) ∧ yA G M' md cl ll wl sp co lr sh rem nw wst wfc wln ∧ mm_fr [md 0, md 3, md 4, md 5, md 6, md 7, md 8, md 9, md 10, md 11, md 12, md 13, md 14, md 15, md 16] M M') ∨ (r = 1 ∧ ((∃ j, j < 256 ∧ x = nI j) ∧ cl < 64) ∧ yA G M' md (cl + 1) ll wl sp (upd co cl x) lr sh rem nw wst wfc wln ∧ mm_fr [md 0, md 3, md 4, md 5, md 6, md 7, md 8, md 9, md 10, md 11, md 12, md 13, md 14, md 15, md 16] M M')) := by
  refine mm_enter (cc := cX9_feed) (maxL := 2) (ret := (some .boolean)) _ (by decide) rfl (Nat.le_of_ble_eq_true rfl) ?_
  intro p0 e0 s m0 be0 me0 c0 ls S hr hlocks hname hA hC hR hl
  have hx := S.1
  have hb := S.2.1
  have hl : lv_has ls 2 [(0, .ref (md 0)), (1, .int x)] := hl
  have inRX9 : ∀ w ∈ wsX90, w ∈ wsX9_feed := by decide +kernel
  have hF : mm_fr [md 0, md 3, md 4, md 5, md 6, md 7, md 8, md 9, md 10, md 11, md 12, md 13, md 14, md 15, md 16] M M := mm_fr.rf
  obtain ⟨hN1, hN2, hN3, hN4, hN5, hN6, hN7, hN8, hN9, hN10⟩ := hN
  have hya0 := hya
  obtain ⟨⟨v22, f, d, hS⟩, ⟨ss, h3, hs⟩, ⟨rr0, h4, hrm⟩, ⟨fs, h5, hfs⟩, ⟨fl, h6, hfl⟩, ⟨s7, h7, hsh⟩, ⟨cof, h8, hco⟩, ⟨lrf, h9, hlr⟩, ⟨tt, h15⟩, ⟨p, h16⟩⟩ := hya
  have h0 : M (md 0) = some (ob 10 [.ref (md 1), .ref (md 2), .ref (md 3), .ref (md 4), .ref (md 5), .ref (md 6), .int (nI nw), .ref (md 7), .ref (md 8), .int (nI cl), .ref (md 9), .int (nI ll), .int wl, .int sp, .ref (md 10), .int (nI 0), .ref (md 11), .ref (md 12), .ref (md 13), .ref (md 14), .ref (md 15), .ref (md 16), .int v22]) := hS.1
  have h10 : M (md 10) = some (ia G 256 f) := hS.2.1
  have h11 : M (md 11) = some (ia G 32 d) := hS.2.2.1
  refine lv_iload_n hx hb dX9_feed_0 rfl (lv_at hl 1 rfl) ?_
  refine lv_if_lt (tgt := 20) hx hb dX9_feed_1 (by decide) (fun c1 => ?_) (fun c1 => ?_)
  · skip
    refine lv_iconst (v := nI 0) hx hb dX9_feed_20 (by decide) ?_
    exact mm_zret S hr hlocks (by decide) hR (Or.inl ⟨rfl, fun z => by obtain ⟨⟨j, hj, e⟩, _⟩ := z; rw [e] at c1; exact nI_pos (by omega) c1, hya0, hF⟩) dX9_feed_21
  · skip
    refine lv_iload_n hx hb dX9_feed_4 rfl (lv_at hl 1 rfl) ?_
    refine lv_sipush (v := nI 255) hx hb dX9_feed_5 (by decide) ?_
    refine lv_icmp_gt (tgt := 20) hx hb dX9_feed_8 (by decide) (fun c2 => ?_) (fun c2 => ?_)
    · skip
      refine lv_iconst (v := nI 0) hx hb dX9_feed_20 (by decide) ?_
      exact mm_zret S hr hlocks (by decide) hR (Or.inl ⟨rfl, fun z => by obtain ⟨⟨j, hj, e⟩, _⟩ := z; rw [e] at c2; exact absurd c2 (nI_nlt (show j ≤ 255 by omega) (by omega)), hya0, hF⟩) dX9_feed_21
    · skip
      refine lv_aload_n hx hb dX9_feed_11 rfl (lv_at hl 0 rfl) ?_
      refine mm_get S hC hR (C := RX9) (T := TX9) (N := 23) (ref := "ForkWatchModel") (v := .int (nI cl)) 9 h0 inRX9 rfl (by decide) (by decide +kernel) (fun _ h9 => h9) rfl dX9_feed_12 ?_
      refine lv_bipush (v := nI 64) hx hb dX9_feed_15 (by decide) ?_
      refine lv_icmp_ne (tgt := 22) hx hb dX9_feed_17 (by decide) (fun c3 => ?_) (fun c3 => ?_)
      · have c3 : cl ≠ 64 := fun z => c3 (congrArg nI z)
        have hx2 : ¬ nI 256 ≤ x := fun z => c2 (Int32.lt_of_lt_of_le (show nI 255 < nI 256 by decide) z)
        have hj := ((pk_ix x (n := 256) (by decide)).resolve_left c1).resolve_left hx2
        refine lv_aload_n hx hb dX9_feed_22 rfl (lv_at hl 0 rfl) ?_
        refine mm_get S hC hR (C := RX9) (T := TX9) (N := 23) (ref := "ForkWatchModel") (v := .ref (md 8)) 8 h0 inRX9 rfl (by decide) (by decide +kernel) (fun _ h9 => h9) rfl dX9_feed_23 ?_
        refine lv_aload_n hx hb dX9_feed_26 rfl (lv_at hl 0 rfl) ?_
        refine mm_get S hC hR (C := RX9) (T := TX9) (N := 23) (ref := "ForkWatchModel") (v := .int (nI cl)) 9 h0 inRX9 rfl (by decide) (by decide +kernel) (fun _ h9 => h9) rfl dX9_feed_27 ?_
        refine lv_iload_n hx hb dX9_feed_30 rfl (lv_at hl 1 rfl) ?_
        refine mm_iast S hC hR h8 (j := cl) (by omega) (by omega) dX9_feed_31 (fun H locs M1 g3 f2 hR => ?_)
        have h3 := f2.at h3 (mm_nc (yne hJ (by decide) (by decide) (by decide)) mm_n0)
        have h4 := f2.at h4 (mm_nc (yne hJ (by decide) (by decide) (by decide)) mm_n0)
        have h5 := f2.at h5 (mm_nc (yne hJ (by decide) (by decide) (by decide)) mm_n0)
        have h6 := f2.at h6 (mm_nc (yne hJ (by decide) (by decide) (by decide)) mm_n0)
        have h7 := f2.at h7 (mm_nc (yne hJ (by decide) (by decide) (by decide)) mm_n0)
        have h9 := f2.at h9 (mm_nc (yne hJ (by decide) (by decide) (by decide)) mm_n0)
        have h15 := f2.at h15 (mm_nc (yne hJ (by decide) (by decide) (by decide)) mm_n0)
        have h16 := f2.at h16 (mm_nc (yne hJ (by decide) (by decide) (by decide)) mm_n0)
        have h0 := f2.at h0 (mm_nc (yne hJ (by decide) (by decide) (by decide)) mm_n0)
        have h10 := f2.at h10 (mm_nc (yne hJ (by decide) (by decide) (by decide)) mm_n0)
        have h11 := f2.at h11 (mm_nc (yne hJ (by decide) (by decide) (by decide)) mm_n0)
        have h8 : M1 (md 8) = some (ia G 64 (upd cof cl x)) := g3
        have hF := hF.tr f2 (mm_ic 6 rfl mm_i0)
        have hS := hS.out f2 (mm_nc (yne hJ (by decide) (by decide) (by decide)) mm_n0) (mm_nc (yne hJ (by decide) (by decide) (by decide)) mm_n0) (mm_nc (yne hJ (by decide) (by decide) (by decide)) mm_n0) (mm_nc (yne hJ (by decide) (by decide) (by decide)) mm_n0) (mm_nc (yne hJ (by decide) (by decide) (by decide)) mm_n0) (mm_nc (yne hJ (by decide) (by decide) (by decide)) mm_n0) (mm_nc (yne hJ (by decide) (by decide) (by decide)) mm_n0) (mm_nc (yne hJ (by decide) (by decide) (by decide)) mm_n0)
        refine lv_aload_n hx hb dX9_feed_32 rfl (lv_at hl 0 rfl) ?_
        refine lv_dup hx hb dX9_feed_33 rfl ?_
        refine mm_get S hC hR (C := RX9) (T := TX9) (N := 23) (ref := "ForkWatchModel") (v := .int (nI cl)) 9 h0 inRX9 rfl (by decide) (by decide +kernel) (fun _ h9 => h9) rfl dX9_feed_34 ?_
        refine lv_iconst (v := nI 1) hx hb dX9_feed_37 (by decide) ?_
        refine lv_iadd hx hb dX9_feed_38 ?_
        refine mm_eqi (nI_add _ _) ?_
        refine mm_put S hC hR (C := RX9) (T := TX9) (N := 23) (ref := "ForkWatchModel") 9 h0 inRX9 rfl tyX9_ok nmX9 (by decide) (by decide +kernel) (fun _ h9 => h9) rfl rfl rfl (Nat.le_of_ble_eq_true rfl) dX9_feed_39 (fun H locs M4 g6 f5 hR => ?_)
        have h3 := f5.at h3 (mm_nc (yne hJ (by decide) (by decide) (by decide)) mm_n0)
        have h4 := f5.at h4 (mm_nc (yne hJ (by decide) (by decide) (by decide)) mm_n0)
        have h5 := f5.at h5 (mm_nc (yne hJ (by decide) (by decide) (by decide)) mm_n0)
        have h6 := f5.at h6 (mm_nc (yne hJ (by decide) (by decide) (by decide)) mm_n0)
        have h7 := f5.at h7 (mm_nc (yne hJ (by decide) (by decide) (by decide)) mm_n0)
        have h8 := f5.at h8 (mm_nc (yne hJ (by decide) (by decide) (by decide)) mm_n0)
        have h9 := f5.at h9 (mm_nc (yne hJ (by decide) (by decide) (by decide)) mm_n0)
        have h15 := f5.at h15 (mm_nc (yne hJ (by decide) (by decide) (by decide)) mm_n0)
        have h16 := f5.at h16 (mm_nc (yne hJ (by decide) (by decide) (by decide)) mm_n0)
        have h10 := f5.at h10 (mm_nc (yne hJ (by decide) (by decide) (by decide)) mm_n0)
        have h11 := f5.at h11 (mm_nc (yne hJ (by decide) (by decide) (by decide)) mm_n0)
        have h0 : M4 (md 0) = some (ob 10 [.ref (md 1), .ref (md 2), .ref (md 3), .ref (md 4), .ref (md 5), .ref (md 6), .int (nI nw), .ref (md 7), .ref (md 8), .int (nI (cl + 1)), .ref (md 9), .int (nI ll), .int wl, .int sp, .ref (md 10), .int (nI 0), .ref (md 11), .ref (md 12), .ref (md 13), .ref (md 14), .ref (md 15), .ref (md 16), .int v22]) := g6
        have hF := hF.tr f5 (mm_ic 0 rfl mm_i0)
        have hS := hS.ob hJ f5 h0
        refine lv_iconst (v := nI 1) hx hb dX9_feed_42 (by decide) ?_
        exact mm_zret S hr hlocks (by decide) hR (Or.inr ⟨rfl, ⟨hj, by omega⟩, ⟨⟨_, _, _, hS⟩, ⟨_, h3, hs⟩, ⟨_, h4, hrm⟩, ⟨_, h5, hfs⟩, ⟨_, h6, hfl⟩, ⟨_, h7, hsh⟩, ⟨_, h8, (fun i hi => by unfold upd; by_cases e : i = cl; (rw [if_pos e, if_pos e]); (rw [if_neg e, if_neg e]; exact hco i (by omega)))⟩, ⟨_, h9, hlr⟩, ⟨_, h15⟩, ⟨_, h16⟩⟩, hF⟩) dX9_feed_43
      · have c3 : cl = 64 := (nI_eq (a := cl) (b := 64) (by omega) (by omega)).mp c3
        refine lv_iconst (v := nI 0) hx hb dX9_feed_20 (by decide) ?_
        exact mm_zret S hr hlocks (by decide) hR (Or.inl ⟨rfl, fun z => by have := z.2; omega, hya0, hF⟩) dX9_feed_21

set_option maxHeartbeats 4000000 in
set_option maxRecDepth 100000 in
/-- got(i) -/
theorem c_X9_got (l : Launch) (G : mm_G) (M : mm_M) (sz : Nat) (md : Nat → Nat) (cl ll : Nat) (wl sp : Int32) (co lr : Nat → Int32) (sh : Nat → Nat) (rem : Nat → Nat → Int32) (nw : Nat) (wst : Nat → Nat → Nat → Int32) (wfc : Nat → Nat → Int32) (wln : Nat → Nat → Nat) (x : Int32)  (hya : yA G M md cl ll wl sp co lr sh rem nw wst wfc wln) (hJ : yI md) (hN : yN cl ll co sh rem nw wst wfc wln) : mm_i l yX9_got wsX9_got ({ frames := 1, cells := 0, slots := 0, locals := 30 } : Room) G ([.ref (md 0), .int x] : List Value) M sz (fun r M' => ((¬ (∃ j, j < ll ∧ x = nI j) ∧ r = -1) ∨ ∃ j, j < ll ∧ x = nI j ∧ r = lr j) ∧ yA G M' md cl ll wl sp co lr sh rem nw wst wfc wln ∧ mm_fr [md 0, md 3, md 4, md 5, md 6, md 7, md 8, md 9, md 10, md 11, md 12, md 13, md 14, md 15, md 16] M M') := by
  refine mm_enter (cc := cX9_got) (maxL := 2) (ret := (some .int)) _ (by decide) rfl (Nat.le_of_ble_eq_true rfl) ?_
  intro p0 e0 s m0 be0 me0 c0 ls S hr hlocks hname hA hC hR hl
  have hx := S.1
  have hb := S.2.1
  have hl : lv_has ls 2 [(0, .ref (md 0)), (1, .int x)] := hl
  have inRX9 : ∀ w ∈ wsX90, w ∈ wsX9_got := by decide +kernel
  have hF : mm_fr [md 0, md 3, md 4, md 5, md 6, md 7, md 8, md 9, md 10, md 11, md 12, md 13, md 14, md 15, md 16] M M := mm_fr.rf
  obtain ⟨hN1, hN2, hN3, hN4, hN5, hN6, hN7, hN8, hN9, hN10⟩ := hN
  have hya0 := hya
  obtain ⟨⟨v22, f, d, hS⟩, ⟨ss, h3, hs⟩, ⟨rr0, h4, hrm⟩, ⟨fs, h5, hfs⟩, ⟨fl, h6, hfl⟩, ⟨s7, h7, hsh⟩, ⟨cof, h8, hco⟩, ⟨lrf, h9, hlr⟩, ⟨tt, h15⟩, ⟨p, h16⟩⟩ := hya
  have h0 : M (md 0) = some (ob 10 [.ref (md 1), .ref (md 2), .ref (md 3), .ref (md 4), .ref (md 5), .ref (md 6), .int (nI nw), .ref (md 7), .ref (md 8), .int (nI cl), .ref (md 9), .int (nI ll), .int wl, .int sp, .ref (md 10), .int (nI 0), .ref (md 11), .ref (md 12), .ref (md 13), .ref (md 14), .ref (md 15), .ref (md 16), .int v22]) := hS.1
  have h10 : M (md 10) = some (ia G 256 f) := hS.2.1
  have h11 : M (md 11) = some (ia G 32 d) := hS.2.2.1
  refine lv_iload_n hx hb dX9_got_0 rfl (lv_at hl 1 rfl) ?_
  refine lv_aload_n hx hb dX9_got_1 rfl (lv_at hl 0 rfl) ?_
  refine mm_get S hC hR (C := RX9) (T := TX9) (N := 23) (ref := "ForkWatchModel") (v := .int (nI ll)) 11 h0 inRX9 rfl (by decide) (by decide +kernel) (fun _ h9 => h9) rfl dX9_got_2 ?_
  refine mm_calli hA hR (va_runS (As := [.int x, .int (nI ll)]) (rest := []) S (c_X9_isIn l G M _ x ll (by omega)) (va_cwS 2 S.2.2.2.2 gX9_got_X9_isIn rfl rfl rfl (by decide +kernel) ⟨Nat.le_of_ble_eq_true rfl, Nat.le_of_ble_eq_true rfl⟩) (mm_preS hC hA hR _) rfl rfl hl.1 rfl (lv_room (Nat.le_of_ble_eq_true rfl)) dX9_got_5 ⟨Nat.le_of_ble_eq_true rfl, Nat.le_of_ble_eq_true rfl⟩) (fun r7 M8 H locs hp hR => ?_)
  obtain ⟨er, eM⟩ := hp
  subst eM
  rcases er with ⟨er, qg⟩ | ⟨er, n_x⟩ <;> subst er
  · skip
    obtain ⟨j, hj, e1⟩ := qg
    subst e1
    refine lv_if_eq (tgt := 20) hx hb dX9_got_8 (by decide) (fun z => by first | exact absurd z (by decide) | exact absurd (by decide) z) (fun _ => ?_)
    refine lv_aload_n hx hb dX9_got_11 rfl (lv_at hl 0 rfl) ?_
    refine mm_get S hC hR (C := RX9) (T := TX9) (N := 23) (ref := "ForkWatchModel") (v := .ref (md 9)) 10 h0 inRX9 rfl (by decide) (by decide +kernel) (fun _ h9 => h9) rfl dX9_got_12 ?_
    refine lv_iload_n hx hb dX9_got_15 rfl (lv_at hl 1 rfl) ?_
    refine mm_iald S hC hR h9 (j := j) (by omega) (by omega) dX9_got_16 ?_
    refine lv_goto (tgt := 21) hx hb dX9_got_17 (by decide) ?_
    exact mm_iret S hr hlocks hR ⟨Or.inr ⟨j, hj, rfl, hlr j hj⟩, hya0, hF⟩ dX9_got_21
  · skip
    refine lv_if_eq (tgt := 20) hx hb dX9_got_8 (by decide) (fun _ => ?_) (fun z => by first | exact absurd z (by decide) | exact absurd (by decide) z)
    refine lv_iconst (v := -1) hx hb dX9_got_20 (by decide) ?_
    exact mm_iret S hr hlocks hR ⟨Or.inl ⟨n_x, rfl⟩, hya0, hF⟩ dX9_got_21

set_option maxHeartbeats 4000000 in
set_option maxRecDepth 100000 in
/-- show(client, world) -/
theorem c_X9_show (l : Launch) (G : mm_G) (M : mm_M) (sz : Nat) (md : Nat → Nat) (cl ll : Nat) (wl sp : Int32) (co lr : Nat → Int32) (sh : Nat → Nat) (rem : Nat → Nat → Int32) (nw : Nat) (wst : Nat → Nat → Nat → Int32) (wfc : Nat → Nat → Int32) (wln : Nat → Nat → Nat) (x y : Int32)  (hya : yA G M md cl ll wl sp co lr sh rem nw wst wfc wln) (hJ : yI md) (hN : yN cl ll co sh rem nw wst wfc wln) : mm_i l yX9_show wsX9_show ({ frames := 1, cells := 0, slots := 0, locals := 30 } : Room) G ([.ref (md 0), .int x, .int y] : List Value) M sz (fun r M' => (r = -1 ∧ ¬ ((∃ j, j < 4 ∧ x = nI j) ∧ ∃ j, j < nw ∧ y = nI j) ∧ yA G M' md cl ll wl sp co lr sh rem nw wst wfc wln ∧ mm_fr [md 0, md 3, md 4, md 5, md 6, md 7, md 8, md 9, md 10, md 11, md 12, md 13, md 14, md 15, md 16] M M') ∨ ∃ c j, c < 4 ∧ j < nw ∧ x = nI c ∧ y = nI j ∧ r = nI (sh c) ∧ yA G M' md cl ll wl sp co lr (upN sh c j) rem nw wst wfc wln ∧ mm_fr [md 0, md 3, md 4, md 5, md 6, md 7, md 8, md 9, md 10, md 11, md 12, md 13, md 14, md 15, md 16] M M') := by
  refine mm_enter (cc := cX9_show) (maxL := 4) (ret := (some .int)) _ (by decide) rfl (Nat.le_of_ble_eq_true rfl) ?_
  intro p0 e0 s m0 be0 me0 c0 ls S hr hlocks hname hA hC hR hl
  have hx := S.1
  have hb := S.2.1
  have hl : lv_has ls 4 [(0, .ref (md 0)), (1, .int x), (2, .int y)] := hl
  have inRX9 : ∀ w ∈ wsX90, w ∈ wsX9_show := by decide +kernel
  have hF : mm_fr [md 0, md 3, md 4, md 5, md 6, md 7, md 8, md 9, md 10, md 11, md 12, md 13, md 14, md 15, md 16] M M := mm_fr.rf
  obtain ⟨hN1, hN2, hN3, hN4, hN5, hN6, hN7, hN8, hN9, hN10⟩ := hN
  have hya0 := hya
  obtain ⟨⟨v22, f, d, hS⟩, ⟨ss, h3, hs⟩, ⟨rr0, h4, hrm⟩, ⟨fs, h5, hfs⟩, ⟨fl, h6, hfl⟩, ⟨s7, h7, hsh⟩, ⟨cof, h8, hco⟩, ⟨lrf, h9, hlr⟩, ⟨tt, h15⟩, ⟨p, h16⟩⟩ := hya
  have h0 : M (md 0) = some (ob 10 [.ref (md 1), .ref (md 2), .ref (md 3), .ref (md 4), .ref (md 5), .ref (md 6), .int (nI nw), .ref (md 7), .ref (md 8), .int (nI cl), .ref (md 9), .int (nI ll), .int wl, .int sp, .ref (md 10), .int (nI 0), .ref (md 11), .ref (md 12), .ref (md 13), .ref (md 14), .ref (md 15), .ref (md 16), .int v22]) := hS.1
  have h10 : M (md 10) = some (ia G 256 f) := hS.2.1
  have h11 : M (md 11) = some (ia G 32 d) := hS.2.2.1
  refine lv_iload_n hx hb dX9_show_0 rfl (lv_at hl 1 rfl) ?_
  refine lv_iconst (v := nI 4) hx hb dX9_show_1 (by decide) ?_
  refine mm_calli hA hR (va_runS (As := [.int x, .int (nI 4)]) (rest := []) S (c_X9_isIn l G M _ x 4 (by omega)) (va_cwS 2 S.2.2.2.2 gX9_show_X9_isIn rfl rfl rfl (by decide +kernel) ⟨Nat.le_of_ble_eq_true rfl, Nat.le_of_ble_eq_true rfl⟩) (mm_preS hC hA hR _) rfl rfl hl.1 rfl (lv_room (Nat.le_of_ble_eq_true rfl)) dX9_show_2 ⟨Nat.le_of_ble_eq_true rfl, Nat.le_of_ble_eq_true rfl⟩) (fun r9 M10 H locs hp hR => ?_)
  obtain ⟨er, eM⟩ := hp
  subst eM
  rcases er with ⟨er, qg⟩ | ⟨er, n_x⟩ <;> subst er
  · skip
    obtain ⟨c, hc, e1⟩ := qg
    subst e1
    refine lv_if_eq (tgt := 19) hx hb dX9_show_5 (by decide) (fun z => by first | exact absurd z (by decide) | exact absurd (by decide) z) (fun _ => ?_)
    refine lv_iload_n hx hb dX9_show_8 rfl (lv_at hl 2 rfl) ?_
    refine lv_aload_n hx hb dX9_show_9 rfl (lv_at hl 0 rfl) ?_
    refine mm_get S hC hR (C := RX9) (T := TX9) (N := 23) (ref := "ForkWatchModel") (v := .int (nI nw)) 6 h0 inRX9 rfl (by decide) (by decide +kernel) (fun _ h9 => h9) rfl dX9_show_10 ?_
    refine mm_calli hA hR (va_runS (As := [.int y, .int (nI nw)]) (rest := []) S (c_X9_isIn l G M _ y nw (by omega)) (va_cwS 2 S.2.2.2.2 gX9_show_X9_isIn rfl rfl rfl (by decide +kernel) ⟨Nat.le_of_ble_eq_true rfl, Nat.le_of_ble_eq_true rfl⟩) (mm_preS hC hA hR _) rfl rfl hl.1 rfl (lv_room (Nat.le_of_ble_eq_true rfl)) dX9_show_13 ⟨Nat.le_of_ble_eq_true rfl, Nat.le_of_ble_eq_true rfl⟩) (fun r11 M12 H locs hp hR => ?_)
    obtain ⟨er, eM⟩ := hp
    subst eM
    rcases er with ⟨er, qg⟩ | ⟨er, n_y⟩ <;> subst er
    · skip
      obtain ⟨j, hj, e1⟩ := qg
      subst e1
      refine lv_if_ne (tgt := 21) hx hb dX9_show_16 (by decide) (fun _ => ?_) (fun z => by first | exact absurd z (by decide) | exact absurd (by decide) z)
      refine lv_aload_n hx hb dX9_show_21 rfl (lv_at hl 0 rfl) ?_
      refine mm_get S hC hR (C := RX9) (T := TX9) (N := 23) (ref := "ForkWatchModel") (v := .ref (md 7)) 7 h0 inRX9 rfl (by decide) (by decide +kernel) (fun _ h9 => h9) rfl dX9_show_22 ?_
      refine lv_iload_n hx hb dX9_show_25 rfl (lv_at hl 1 rfl) ?_
      refine mm_iald S hC hR h7 (j := c) (by omega) (by omega) dX9_show_26 ?_
      refine mm_eqi (hsh c hc) ?_
      refine lv_istore_n (lv' := [(3, .int (nI (sh c))), (0, .ref (md 0)), (1, .int (nI c)), (2, .int (nI j))]) hx hb dX9_show_27 rfl hl (by decide) rfl (fun ls hl => ?_)
      refine lv_aload_n hx hb dX9_show_28 rfl (lv_at hl 1 rfl) ?_
      refine mm_get S hC hR (C := RX9) (T := TX9) (N := 23) (ref := "ForkWatchModel") (v := .ref (md 7)) 7 h0 inRX9 rfl (by decide) (by decide +kernel) (fun _ h9 => h9) rfl dX9_show_29 ?_
      refine lv_iload_n hx hb dX9_show_32 rfl (lv_at hl 2 rfl) ?_
      refine lv_iload_n hx hb dX9_show_33 rfl (lv_at hl 3 rfl) ?_
      refine mm_iast S hC hR h7 (j := c) (by omega) (by omega) dX9_show_34 (fun H locs M13 g15 f14 hR => ?_)
      have h3 := f14.at h3 (mm_nc (yne hJ (by decide) (by decide) (by decide)) mm_n0)
      have h4 := f14.at h4 (mm_nc (yne hJ (by decide) (by decide) (by decide)) mm_n0)
      have h5 := f14.at h5 (mm_nc (yne hJ (by decide) (by decide) (by decide)) mm_n0)
      have h6 := f14.at h6 (mm_nc (yne hJ (by decide) (by decide) (by decide)) mm_n0)
      have h8 := f14.at h8 (mm_nc (yne hJ (by decide) (by decide) (by decide)) mm_n0)
      have h9 := f14.at h9 (mm_nc (yne hJ (by decide) (by decide) (by decide)) mm_n0)
      have h15 := f14.at h15 (mm_nc (yne hJ (by decide) (by decide) (by decide)) mm_n0)
      have h16 := f14.at h16 (mm_nc (yne hJ (by decide) (by decide) (by decide)) mm_n0)
      have h0 := f14.at h0 (mm_nc (yne hJ (by decide) (by decide) (by decide)) mm_n0)
      have h10 := f14.at h10 (mm_nc (yne hJ (by decide) (by decide) (by decide)) mm_n0)
      have h11 := f14.at h11 (mm_nc (yne hJ (by decide) (by decide) (by decide)) mm_n0)
      have h7 : M13 (md 7) = some (ia G 4 (upd s7 c (nI j))) := g15
      have hF := hF.tr f14 (mm_ic 5 rfl mm_i0)
      have hS := hS.out f14 (mm_nc (yne hJ (by decide) (by decide) (by decide)) mm_n0) (mm_nc (yne hJ (by decide) (by decide) (by decide)) mm_n0) (mm_nc (yne hJ (by decide) (by decide) (by decide)) mm_n0) (mm_nc (yne hJ (by decide) (by decide) (by decide)) mm_n0) (mm_nc (yne hJ (by decide) (by decide) (by decide)) mm_n0) (mm_nc (yne hJ (by decide) (by decide) (by decide)) mm_n0) (mm_nc (yne hJ (by decide) (by decide) (by decide)) mm_n0) (mm_nc (yne hJ (by decide) (by decide) (by decide)) mm_n0)
      refine lv_iload_n hx hb dX9_show_35 rfl (lv_at hl 0 rfl) ?_
      exact mm_iret S hr hlocks hR (Or.inr ⟨c, j, hc, hj, rfl, rfl, rfl, ⟨⟨_, _, _, hS⟩, ⟨_, h3, hs⟩, ⟨_, h4, hrm⟩, ⟨_, h5, hfs⟩, ⟨_, h6, hfl⟩, ⟨_, h7, (fun k hk => by unfold upN upd; by_cases e : k = c; (rw [if_pos e, if_pos e]); (rw [if_neg e, if_neg e]; exact hsh k hk))⟩, ⟨_, h8, hco⟩, ⟨_, h9, hlr⟩, ⟨_, h15⟩, ⟨_, h16⟩⟩, hF⟩) dX9_show_36
    · skip
      refine lv_if_ne (tgt := 21) hx hb dX9_show_16 (by decide) (fun z => by first | exact absurd z (by decide) | exact absurd (by decide) z) (fun _ => ?_)
      refine lv_iconst (v := -1) hx hb dX9_show_19 (by decide) ?_
      exact mm_iret S hr hlocks hR (Or.inl ⟨rfl, fun q => n_y q.2, hya0, hF⟩) dX9_show_20
  · skip
    refine lv_if_eq (tgt := 19) hx hb dX9_show_5 (by decide) (fun _ => ?_) (fun z => by first | exact absurd z (by decide) | exact absurd (by decide) z)
    refine lv_iconst (v := -1) hx hb dX9_show_19 (by decide) ?_
    exact mm_iret S hr hlocks hR (Or.inl ⟨rfl, fun q => n_x q.1, hya0, hF⟩) dX9_show_20

set_option maxHeartbeats 4000000 in
set_option maxRecDepth 100000 in
/-- seen(client, k) -/
theorem c_X9_seen (l : Launch) (G : mm_G) (M : mm_M) (sz : Nat) (md : Nat → Nat) (cl ll : Nat) (wl sp : Int32) (co lr : Nat → Int32) (sh : Nat → Nat) (rem : Nat → Nat → Int32) (nw : Nat) (wst : Nat → Nat → Nat → Int32) (wfc : Nat → Nat → Int32) (wln : Nat → Nat → Nat) (x y : Int32)  (hya : yA G M md cl ll wl sp co lr sh rem nw wst wfc wln) (hJ : yI md) (hN : yN cl ll co sh rem nw wst wfc wln) : mm_i l yX9_seen wsX9_seen ({ frames := 1, cells := 0, slots := 0, locals := 40 } : Room) G ([.ref (md 0), .int x, .int y] : List Value) M sz (fun r M' => ((¬ ((∃ j, j < 4 ∧ x = nI j) ∧ ∃ j, j < 4 ∧ y = nI j) ∧ r = -1) ∨ ∃ c k, c < 4 ∧ k < 4 ∧ x = nI c ∧ y = nI k ∧ r = (ct (rem c) k).toInt32) ∧ yA G M' md cl ll wl sp co lr sh rem nw wst wfc wln ∧ mm_fr [md 0, md 3, md 4, md 5, md 6, md 7, md 8, md 9, md 10, md 11, md 12, md 13, md 14, md 15, md 16] M M') := by
  refine mm_enter (cc := cX9_seen) (maxL := 3) (ret := (some .int)) _ (by decide) rfl (Nat.le_of_ble_eq_true rfl) ?_
  intro p0 e0 s m0 be0 me0 c0 ls S hr hlocks hname hA hC hR hl
  have hx := S.1
  have hb := S.2.1
  have hl : lv_has ls 3 [(0, .ref (md 0)), (1, .int x), (2, .int y)] := hl
  have inRX9 : ∀ w ∈ wsX90, w ∈ wsX9_seen := by decide +kernel
  have hF : mm_fr [md 0, md 3, md 4, md 5, md 6, md 7, md 8, md 9, md 10, md 11, md 12, md 13, md 14, md 15, md 16] M M := mm_fr.rf
  obtain ⟨hN1, hN2, hN3, hN4, hN5, hN6, hN7, hN8, hN9, hN10⟩ := hN
  have hya0 := hya
  obtain ⟨⟨v22, f, d, hS⟩, ⟨ss, h3, hs⟩, ⟨rr0, h4, hrm⟩, ⟨fs, h5, hfs⟩, ⟨fl, h6, hfl⟩, ⟨s7, h7, hsh⟩, ⟨cof, h8, hco⟩, ⟨lrf, h9, hlr⟩, ⟨tt, h15⟩, ⟨p, h16⟩⟩ := hya
  have h0 : M (md 0) = some (ob 10 [.ref (md 1), .ref (md 2), .ref (md 3), .ref (md 4), .ref (md 5), .ref (md 6), .int (nI nw), .ref (md 7), .ref (md 8), .int (nI cl), .ref (md 9), .int (nI ll), .int wl, .int sp, .ref (md 10), .int (nI 0), .ref (md 11), .ref (md 12), .ref (md 13), .ref (md 14), .ref (md 15), .ref (md 16), .int v22]) := hS.1
  have h10 : M (md 10) = some (ia G 256 f) := hS.2.1
  have h11 : M (md 11) = some (ia G 32 d) := hS.2.2.1
  refine lv_iload_n hx hb dX9_seen_0 rfl (lv_at hl 1 rfl) ?_
  refine lv_iconst (v := nI 4) hx hb dX9_seen_1 (by decide) ?_
  refine mm_calli hA hR (va_runS (As := [.int x, .int (nI 4)]) (rest := []) S (c_X9_isIn l G M _ x 4 (by omega)) (va_cwS 2 S.2.2.2.2 gX9_seen_X9_isIn rfl rfl rfl (by decide +kernel) ⟨Nat.le_of_ble_eq_true rfl, Nat.le_of_ble_eq_true rfl⟩) (mm_preS hC hA hR _) rfl rfl hl.1 rfl (lv_room (Nat.le_of_ble_eq_true rfl)) dX9_seen_2 ⟨Nat.le_of_ble_eq_true rfl, Nat.le_of_ble_eq_true rfl⟩) (fun r16 M17 H locs hp hR => ?_)
  obtain ⟨er, eM⟩ := hp
  subst eM
  rcases er with ⟨er, qg⟩ | ⟨er, n_x⟩ <;> subst er
  · skip
    obtain ⟨c, hc, e1⟩ := qg
    subst e1
    refine lv_if_eq (tgt := 32) hx hb dX9_seen_5 (by decide) (fun z => by first | exact absurd z (by decide) | exact absurd (by decide) z) (fun _ => ?_)
    refine lv_iload_n hx hb dX9_seen_8 rfl (lv_at hl 2 rfl) ?_
    refine lv_iconst (v := nI 4) hx hb dX9_seen_9 (by decide) ?_
    refine mm_calli hA hR (va_runS (As := [.int y, .int (nI 4)]) (rest := []) S (c_X9_isIn l G M _ y 4 (by omega)) (va_cwS 2 S.2.2.2.2 gX9_seen_X9_isIn rfl rfl rfl (by decide +kernel) ⟨Nat.le_of_ble_eq_true rfl, Nat.le_of_ble_eq_true rfl⟩) (mm_preS hC hA hR _) rfl rfl hl.1 rfl (lv_room (Nat.le_of_ble_eq_true rfl)) dX9_seen_10 ⟨Nat.le_of_ble_eq_true rfl, Nat.le_of_ble_eq_true rfl⟩) (fun r18 M19 H locs hp hR => ?_)
    obtain ⟨er, eM⟩ := hp
    subst eM
    rcases er with ⟨er, qg⟩ | ⟨er, n_y⟩ <;> subst er
    · skip
      obtain ⟨k, hk, e1⟩ := qg
      subst e1
      refine lv_if_eq (tgt := 32) hx hb dX9_seen_13 (by decide) (fun z => by first | exact absurd z (by decide) | exact absurd (by decide) z) (fun _ => ?_)
      refine lv_aload_n hx hb dX9_seen_16 rfl (lv_at hl 0 rfl) ?_
      refine mm_get S hC hR (C := RX9) (T := TX9) (N := 23) (ref := "ForkWatchModel") (v := .ref (md 4)) 3 h0 inRX9 rfl (by decide) (by decide +kernel) (fun _ h9 => h9) rfl dX9_seen_17 ?_
      refine lv_bipush (v := nI 84) hx hb dX9_seen_20 (by decide) ?_
      refine lv_iload_n hx hb dX9_seen_22 rfl (lv_at hl 1 rfl) ?_
      refine lv_imul hx hb dX9_seen_23 ?_
      refine mm_eqi (pk_mul _ _) ?_
      refine lv_iload_n hx hb dX9_seen_24 rfl (lv_at hl 2 rfl) ?_
      refine mm_calll hA hR (va_runS (As := [.ref (md 4), .int (nI (84 * c)), .int (nI k)]) (rest := []) S (c_X9_countAt l G M _ (md 4) 336 (84 * c) k rr0 h4 (by omega) (by decide) hk) (va_cwS 3 S.2.2.2.2 gX9_seen_X9_countAt rfl rfl rfl (by decide +kernel) ⟨Nat.le_of_ble_eq_true rfl, Nat.le_of_ble_eq_true rfl⟩) (mm_preS hC hA hR _) rfl rfl hl.1 rfl (lv_room (Nat.le_of_ble_eq_true rfl)) dX9_seen_25 ⟨Nat.le_of_ble_eq_true rfl, Nat.le_of_ble_eq_true rfl⟩) (fun r20 M21 H locs hp hR => ?_)
      obtain ⟨er, eM⟩ := hp
      subst eM
      subst er
      refine lv_l2i hx hb dX9_seen_28 rfl ?_
      refine lv_goto (tgt := 33) hx hb dX9_seen_29 (by decide) ?_
      have e9 : ct (shf rr0 (84 * c)) k = ct (rem c) k := ct_ag (fun i hi => hrm c hc i (by omega)) hk
      exact mm_iret S hr hlocks hR ⟨Or.inr ⟨c, k, hc, hk, rfl, rfl, by rw [e9]⟩, hya0, hF⟩ dX9_seen_33
    · skip
      refine lv_if_eq (tgt := 32) hx hb dX9_seen_13 (by decide) (fun _ => ?_) (fun z => by first | exact absurd z (by decide) | exact absurd (by decide) z)
      refine lv_iconst (v := -1) hx hb dX9_seen_32 (by decide) ?_
      exact mm_iret S hr hlocks hR ⟨Or.inl ⟨fun q => n_y q.2, rfl⟩, hya0, hF⟩ dX9_seen_33
  · skip
    refine lv_if_eq (tgt := 32) hx hb dX9_seen_5 (by decide) (fun _ => ?_) (fun z => by first | exact absurd z (by decide) | exact absurd (by decide) z)
    refine lv_iconst (v := -1) hx hb dX9_seen_32 (by decide) ?_
    exact mm_iret S hr hlocks hR ⟨Or.inl ⟨fun q => n_x q.1, rfl⟩, hya0, hF⟩ dX9_seen_33

set_option maxHeartbeats 4000000 in
set_option maxRecDepth 100000 in
/-- exchange(a, b) -/
theorem c_X9_exchange (l : Launch) (G : mm_G) (M : mm_M) (sz : Nat) (md : Nat → Nat) (cl ll : Nat) (wl sp : Int32) (co lr : Nat → Int32) (sh : Nat → Nat) (rem : Nat → Nat → Int32) (nw : Nat) (wst : Nat → Nat → Nat → Int32) (wfc : Nat → Nat → Int32) (wln : Nat → Nat → Nat) (x y : Int32)  (hya : yA G M md cl ll wl sp co lr sh rem nw wst wfc wln) (hJ : yI md) (hN : yN cl ll co sh rem nw wst wfc wln) : mm_i l yX9_exchange wsX9_exchange ({ frames := 2, cells := 0, slots := 0, locals := 70 } : Room) G ([.ref (md 0), .int x, .int y] : List Value) M sz (fun r M' => ((¬ ((∃ j, j < 4 ∧ x = nI j) ∧ (∃ j, j < 4 ∧ y = nI j) ∧ x ≠ y) ∧ r = -1) ∨ ∃ c k, c < 4 ∧ k < 4 ∧ c ≠ k ∧ x = nI c ∧ y = nI k ∧ ((r = 0 ∧ (na (rem c) (rem k) ∨ na (rem k) (rem c))) ∨ (r = 1 ∧ ¬ (na (rem c) (rem k) ∨ na (rem k) (rem c))))) ∧ yA G M' md cl ll wl sp co lr sh rem nw wst wfc wln ∧ mm_fr [md 0, md 3, md 4, md 5, md 6, md 7, md 8, md 9, md 10, md 11, md 12, md 13, md 14, md 15, md 16] M M') := by
  refine mm_enter (cc := cX9_exchange) (maxL := 3) (ret := (some .int)) _ (by decide) rfl (Nat.le_of_ble_eq_true rfl) ?_
  intro p0 e0 s m0 be0 me0 c0 ls S hr hlocks hname hA hC hR hl
  have hx := S.1
  have hb := S.2.1
  have hl : lv_has ls 3 [(0, .ref (md 0)), (1, .int x), (2, .int y)] := hl
  have inRX9 : ∀ w ∈ wsX90, w ∈ wsX9_exchange := by decide +kernel
  have hF : mm_fr [md 0, md 3, md 4, md 5, md 6, md 7, md 8, md 9, md 10, md 11, md 12, md 13, md 14, md 15, md 16] M M := mm_fr.rf
  obtain ⟨hN1, hN2, hN3, hN4, hN5, hN6, hN7, hN8, hN9, hN10⟩ := hN
  have hya0 := hya
  obtain ⟨⟨v22, f, d, hS⟩, ⟨ss, h3, hs⟩, ⟨rr0, h4, hrm⟩, ⟨fs, h5, hfs⟩, ⟨fl, h6, hfl⟩, ⟨s7, h7, hsh⟩, ⟨cof, h8, hco⟩, ⟨lrf, h9, hlr⟩, ⟨tt, h15⟩, ⟨p, h16⟩⟩ := hya
  have h0 : M (md 0) = some (ob 10 [.ref (md 1), .ref (md 2), .ref (md 3), .ref (md 4), .ref (md 5), .ref (md 6), .int (nI nw), .ref (md 7), .ref (md 8), .int (nI cl), .ref (md 9), .int (nI ll), .int wl, .int sp, .ref (md 10), .int (nI 0), .ref (md 11), .ref (md 12), .ref (md 13), .ref (md 14), .ref (md 15), .ref (md 16), .int v22]) := hS.1
  have h10 : M (md 10) = some (ia G 256 f) := hS.2.1
  have h11 : M (md 11) = some (ia G 32 d) := hS.2.2.1
  refine lv_iload_n hx hb dX9_exchange_0 rfl (lv_at hl 1 rfl) ?_
  refine lv_iconst (v := nI 4) hx hb dX9_exchange_1 (by decide) ?_
  refine mm_calli hA hR (va_runS (As := [.int x, .int (nI 4)]) (rest := []) S (c_X9_isIn l G M _ x 4 (by omega)) (va_cwS 2 S.2.2.2.2 gX9_exchange_X9_isIn rfl rfl rfl (by decide +kernel) ⟨Nat.le_of_ble_eq_true rfl, Nat.le_of_ble_eq_true rfl⟩) (mm_preS hC hA hR _) rfl rfl hl.1 rfl (lv_room (Nat.le_of_ble_eq_true rfl)) dX9_exchange_2 ⟨Nat.le_of_ble_eq_true rfl, Nat.le_of_ble_eq_true rfl⟩) (fun r22 M23 H locs hp hR => ?_)
  obtain ⟨er, eM⟩ := hp
  subst eM
  rcases er with ⟨er, qg⟩ | ⟨er, n_x⟩ <;> subst er
  · skip
    obtain ⟨c, hc, e1⟩ := qg
    subst e1
    refine lv_if_eq (tgt := 21) hx hb dX9_exchange_5 (by decide) (fun z => by first | exact absurd z (by decide) | exact absurd (by decide) z) (fun _ => ?_)
    refine lv_iload_n hx hb dX9_exchange_8 rfl (lv_at hl 2 rfl) ?_
    refine lv_iconst (v := nI 4) hx hb dX9_exchange_9 (by decide) ?_
    refine mm_calli hA hR (va_runS (As := [.int y, .int (nI 4)]) (rest := []) S (c_X9_isIn l G M _ y 4 (by omega)) (va_cwS 2 S.2.2.2.2 gX9_exchange_X9_isIn rfl rfl rfl (by decide +kernel) ⟨Nat.le_of_ble_eq_true rfl, Nat.le_of_ble_eq_true rfl⟩) (mm_preS hC hA hR _) rfl rfl hl.1 rfl (lv_room (Nat.le_of_ble_eq_true rfl)) dX9_exchange_10 ⟨Nat.le_of_ble_eq_true rfl, Nat.le_of_ble_eq_true rfl⟩) (fun r24 M25 H locs hp hR => ?_)
    obtain ⟨er, eM⟩ := hp
    subst eM
    rcases er with ⟨er, qg⟩ | ⟨er, n_y⟩ <;> subst er
    · skip
      obtain ⟨k, hk, e1⟩ := qg
      subst e1
      refine lv_if_eq (tgt := 21) hx hb dX9_exchange_13 (by decide) (fun z => by first | exact absurd z (by decide) | exact absurd (by decide) z) (fun _ => ?_)
      refine lv_iload_n hx hb dX9_exchange_16 rfl (lv_at hl 1 rfl) ?_
      refine lv_iload_n hx hb dX9_exchange_17 rfl (lv_at hl 2 rfl) ?_
      refine lv_icmp_ne (tgt := 23) hx hb dX9_exchange_18 (by decide) (fun c3 => ?_) (fun c3 => ?_)
      · have c3 : c ≠ k := fun z => c3 (congrArg nI z)
        have q8 : ∀ a b, a < 4 → b < 4 → (na (shf rr0 (84 * a)) (shf rr0 (84 * b)) ↔ na (rem a) (rem b)) := fun a b ha hb9 => na_ag (fun i hi => hrm a ha i (by omega)) (fun i hi => hrm b hb9 i (by omega))
        refine lv_aload_n hx hb dX9_exchange_23 rfl (lv_at hl 0 rfl) ?_
        refine mm_get S hC hR (C := RX9) (T := TX9) (N := 23) (ref := "ForkWatchModel") (v := .ref (md 4)) 3 h0 inRX9 rfl (by decide) (by decide +kernel) (fun _ h9 => h9) rfl dX9_exchange_24 ?_
        refine lv_bipush (v := nI 84) hx hb dX9_exchange_27 (by decide) ?_
        refine lv_iload_n hx hb dX9_exchange_29 rfl (lv_at hl 1 rfl) ?_
        refine lv_imul hx hb dX9_exchange_30 ?_
        refine mm_eqi (pk_mul _ _) ?_
        refine lv_bipush (v := nI 84) hx hb dX9_exchange_31 (by decide) ?_
        refine lv_iload_n hx hb dX9_exchange_33 rfl (lv_at hl 2 rfl) ?_
        refine lv_imul hx hb dX9_exchange_34 ?_
        refine mm_eqi (pk_mul _ _) ?_
        refine mm_calli hA hR (va_runS (As := [.ref (md 4), .int (nI (84 * c)), .int (nI (84 * k))]) (rest := []) S (c_X9_isNotAbove l G M _ (md 4) 336 (84 * c) (84 * k) rr0 h4 (by omega) (by omega) (by decide)) (va_cwS 3 S.2.2.2.2 gX9_exchange_X9_isNotAbove rfl rfl rfl (by decide +kernel) ⟨Nat.le_of_ble_eq_true rfl, Nat.le_of_ble_eq_true rfl⟩) (mm_preS hC hA hR _) rfl rfl hl.1 rfl (lv_room (Nat.le_of_ble_eq_true rfl)) dX9_exchange_35 ⟨Nat.le_of_ble_eq_true rfl, Nat.le_of_ble_eq_true rfl⟩) (fun r26 M27 H locs hp hR => ?_)
        obtain ⟨er, eM⟩ := hp
        subst eM
        rw [q8 c k (by omega) (by omega)] at er
        rcases er with ⟨er, q1⟩ | ⟨er, q1⟩ <;> subst er
        · skip
          refine lv_if_ne (tgt := 59) hx hb dX9_exchange_38 (by decide) (fun _ => ?_) (fun z => by first | exact absurd z (by decide) | exact absurd (by decide) z)
          refine lv_iconst (v := nI 0) hx hb dX9_exchange_59 (by decide) ?_
          refine lv_goto (tgt := 64) hx hb dX9_exchange_60 (by decide) ?_
          exact mm_iret S hr hlocks hR ⟨Or.inr ⟨c, k, hc, hk, c3, rfl, rfl, Or.inl ⟨rfl, Or.inl q1⟩⟩, hya0, hF⟩ dX9_exchange_64
        · skip
          refine lv_if_ne (tgt := 59) hx hb dX9_exchange_38 (by decide) (fun z => by first | exact absurd z (by decide) | exact absurd (by decide) z) (fun _ => ?_)
          refine lv_aload_n hx hb dX9_exchange_41 rfl (lv_at hl 0 rfl) ?_
          refine mm_get S hC hR (C := RX9) (T := TX9) (N := 23) (ref := "ForkWatchModel") (v := .ref (md 4)) 3 h0 inRX9 rfl (by decide) (by decide +kernel) (fun _ h9 => h9) rfl dX9_exchange_42 ?_
          refine lv_bipush (v := nI 84) hx hb dX9_exchange_45 (by decide) ?_
          refine lv_iload_n hx hb dX9_exchange_47 rfl (lv_at hl 2 rfl) ?_
          refine lv_imul hx hb dX9_exchange_48 ?_
          refine mm_eqi (pk_mul _ _) ?_
          refine lv_bipush (v := nI 84) hx hb dX9_exchange_49 (by decide) ?_
          refine lv_iload_n hx hb dX9_exchange_51 rfl (lv_at hl 1 rfl) ?_
          refine lv_imul hx hb dX9_exchange_52 ?_
          refine mm_eqi (pk_mul _ _) ?_
          refine mm_calli hA hR (va_runS (As := [.ref (md 4), .int (nI (84 * k)), .int (nI (84 * c))]) (rest := []) S (c_X9_isNotAbove l G M _ (md 4) 336 (84 * k) (84 * c) rr0 h4 (by omega) (by omega) (by decide)) (va_cwS 3 S.2.2.2.2 gX9_exchange_X9_isNotAbove rfl rfl rfl (by decide +kernel) ⟨Nat.le_of_ble_eq_true rfl, Nat.le_of_ble_eq_true rfl⟩) (mm_preS hC hA hR _) rfl rfl hl.1 rfl (lv_room (Nat.le_of_ble_eq_true rfl)) dX9_exchange_53 ⟨Nat.le_of_ble_eq_true rfl, Nat.le_of_ble_eq_true rfl⟩) (fun r28 M29 H locs hp hR => ?_)
          obtain ⟨er, eM⟩ := hp
          subst eM
          rw [q8 k c (by omega) (by omega)] at er
          rcases er with ⟨er, q2⟩ | ⟨er, q2⟩ <;> subst er
          · skip
            refine lv_if_eq (tgt := 63) hx hb dX9_exchange_56 (by decide) (fun z => by first | exact absurd z (by decide) | exact absurd (by decide) z) (fun _ => ?_)
            refine lv_iconst (v := nI 0) hx hb dX9_exchange_59 (by decide) ?_
            refine lv_goto (tgt := 64) hx hb dX9_exchange_60 (by decide) ?_
            exact mm_iret S hr hlocks hR ⟨Or.inr ⟨c, k, hc, hk, c3, rfl, rfl, Or.inl ⟨rfl, Or.inr q2⟩⟩, hya0, hF⟩ dX9_exchange_64
          · skip
            refine lv_if_eq (tgt := 63) hx hb dX9_exchange_56 (by decide) (fun _ => ?_) (fun z => by first | exact absurd z (by decide) | exact absurd (by decide) z)
            refine lv_iconst (v := nI 1) hx hb dX9_exchange_63 (by decide) ?_
            exact mm_iret S hr hlocks hR ⟨Or.inr ⟨c, k, hc, hk, c3, rfl, rfl, Or.inr ⟨rfl, fun z => z.elim q1 q2⟩⟩, hya0, hF⟩ dX9_exchange_64
      · have c3 : c = k := (nI_eq (a := c) (b := k) (by omega) (by omega)).mp c3
        refine lv_iconst (v := -1) hx hb dX9_exchange_21 (by decide) ?_
        exact mm_iret S hr hlocks hR ⟨Or.inl ⟨fun q => q.2.2 (by rw [c3]), rfl⟩, hya0, hF⟩ dX9_exchange_22
    · skip
      refine lv_if_eq (tgt := 21) hx hb dX9_exchange_13 (by decide) (fun _ => ?_) (fun z => by first | exact absurd z (by decide) | exact absurd (by decide) z)
      refine lv_iconst (v := -1) hx hb dX9_exchange_21 (by decide) ?_
      exact mm_iret S hr hlocks hR ⟨Or.inl ⟨fun q => n_y q.2.1, rfl⟩, hya0, hF⟩ dX9_exchange_22
  · skip
    refine lv_if_eq (tgt := 21) hx hb dX9_exchange_5 (by decide) (fun _ => ?_) (fun z => by first | exact absurd z (by decide) | exact absurd (by decide) z)
    refine lv_iconst (v := -1) hx hb dX9_exchange_21 (by decide) ?_
    exact mm_iret S hr hlocks hR ⟨Or.inl ⟨fun q => n_x q.1, rfl⟩, hya0, hF⟩ dX9_exchange_22

set_option maxHeartbeats 4000000 in
set_option maxRecDepth 100000 in
/-- statement(world, client, i) -/
theorem c_X9_statement (l : Launch) (G : mm_G) (M : mm_M) (sz : Nat) (md : Nat → Nat) (cl ll : Nat) (wl sp : Int32) (co lr : Nat → Int32) (sh : Nat → Nat) (rem : Nat → Nat → Int32) (nw : Nat) (wst : Nat → Nat → Nat → Int32) (wfc : Nat → Nat → Int32) (wln : Nat → Nat → Nat) (x y z : Int32)  (hya : yA G M md cl ll wl sp co lr sh rem nw wst wfc wln) (hJ : yI md) (hN : yN cl ll co sh rem nw wst wfc wln) : mm_i l yX9_statement wsX9_statement ({ frames := 1, cells := 0, slots := 0, locals := 40 } : Room) G ([.ref (md 0), .int x, .int y, .int z] : List Value) M sz (fun r M' => ((¬ ((∃ j, j < 4 ∧ y = nI j) ∧ (∃ j, j < 84 ∧ z = nI j) ∧ (x = -1 ∨ ∃ j, j < nw ∧ x = nI j)) ∧ r = -1) ∨ (∃ c i, c < 4 ∧ i < 84 ∧ x = -1 ∧ y = nI c ∧ z = nI i ∧ r = rem c i) ∨ ∃ j c i, j < nw ∧ c < 4 ∧ i < 84 ∧ x = nI j ∧ y = nI c ∧ z = nI i ∧ r = wst j c i) ∧ yA G M' md cl ll wl sp co lr sh rem nw wst wfc wln ∧ mm_fr [md 0, md 3, md 4, md 5, md 6, md 7, md 8, md 9, md 10, md 11, md 12, md 13, md 14, md 15, md 16] M M') := by
  refine mm_enter (cc := cX9_statement) (maxL := 4) (ret := (some .int)) _ (by decide) rfl (Nat.le_of_ble_eq_true rfl) ?_
  intro p0 e0 s m0 be0 me0 c0 ls S hr hlocks hname hA hC hR hl
  have hx := S.1
  have hb := S.2.1
  have hl : lv_has ls 4 [(0, .ref (md 0)), (1, .int x), (2, .int y), (3, .int z)] := hl
  have inRX9 : ∀ w ∈ wsX90, w ∈ wsX9_statement := by decide +kernel
  have hF : mm_fr [md 0, md 3, md 4, md 5, md 6, md 7, md 8, md 9, md 10, md 11, md 12, md 13, md 14, md 15, md 16] M M := mm_fr.rf
  obtain ⟨hN1, hN2, hN3, hN4, hN5, hN6, hN7, hN8, hN9, hN10⟩ := hN
  have hya0 := hya
  obtain ⟨⟨v22, f, d, hS⟩, ⟨ss, h3, hs⟩, ⟨rr0, h4, hrm⟩, ⟨fs, h5, hfs⟩, ⟨fl, h6, hfl⟩, ⟨s7, h7, hsh⟩, ⟨cof, h8, hco⟩, ⟨lrf, h9, hlr⟩, ⟨tt, h15⟩, ⟨p, h16⟩⟩ := hya
  have h0 : M (md 0) = some (ob 10 [.ref (md 1), .ref (md 2), .ref (md 3), .ref (md 4), .ref (md 5), .ref (md 6), .int (nI nw), .ref (md 7), .ref (md 8), .int (nI cl), .ref (md 9), .int (nI ll), .int wl, .int sp, .ref (md 10), .int (nI 0), .ref (md 11), .ref (md 12), .ref (md 13), .ref (md 14), .ref (md 15), .ref (md 16), .int v22]) := hS.1
  have h10 : M (md 10) = some (ia G 256 f) := hS.2.1
  have h11 : M (md 11) = some (ia G 32 d) := hS.2.2.1
  refine lv_iload_n hx hb dX9_statement_0 rfl (lv_at hl 1 rfl) ?_
  refine lv_iconst (v := -1) hx hb dX9_statement_1 (by decide) ?_
  refine lv_icmp_lt (tgt := 30) hx hb dX9_statement_2 (by decide) (fun c1 => ?_) (fun c1 => ?_)
  · skip
    refine lv_iconst (v := -1) hx hb dX9_statement_30 (by decide) ?_
    exact mm_iret S hr hlocks hR ⟨Or.inl ⟨fun q => q.2.2.elim (fun e => by rw [e] at c1; exact absurd c1 (by decide)) (fun ⟨j, hj, e⟩ => by rw [e] at c1; exact nI_pos (by omega) (Int32.lt_trans c1 (by decide))), rfl⟩, hya0, hF⟩ dX9_statement_31
  · skip
    refine lv_iload_n hx hb dX9_statement_5 rfl (lv_at hl 1 rfl) ?_
    refine lv_aload_n hx hb dX9_statement_6 rfl (lv_at hl 0 rfl) ?_
    refine mm_get S hC hR (C := RX9) (T := TX9) (N := 23) (ref := "ForkWatchModel") (v := .int (nI nw)) 6 h0 inRX9 rfl (by decide) (by decide +kernel) (fun _ h9 => h9) rfl dX9_statement_7 ?_
    refine lv_icmp_ge (tgt := 30) hx hb dX9_statement_10 (by decide) (fun c2 => ?_) (fun c2 => ?_)
    · skip
      refine lv_iconst (v := -1) hx hb dX9_statement_30 (by decide) ?_
      exact mm_iret S hr hlocks hR ⟨Or.inl ⟨fun q => q.2.2.elim (fun e => by rw [e] at c2; exact absurd (Int32.le_trans (show nI 0 ≤ nI nw from (nI_leI (by decide) (by omega)).mpr (Nat.zero_le _)) c2) (by decide)) (fun ⟨j, hj, e⟩ => by rw [e] at c2; exact absurd c2 (nI_ge hj (by omega))), rfl⟩, hya0, hF⟩ dX9_statement_31
    · skip
      refine lv_iload_n hx hb dX9_statement_13 rfl (lv_at hl 2 rfl) ?_
      refine lv_iconst (v := nI 4) hx hb dX9_statement_14 (by decide) ?_
      refine mm_calli hA hR (va_runS (As := [.int y, .int (nI 4)]) (rest := []) S (c_X9_isIn l G M _ y 4 (by omega)) (va_cwS 2 S.2.2.2.2 gX9_statement_X9_isIn rfl rfl rfl (by decide +kernel) ⟨Nat.le_of_ble_eq_true rfl, Nat.le_of_ble_eq_true rfl⟩) (mm_preS hC hA hR _) rfl rfl hl.1 rfl (lv_room (Nat.le_of_ble_eq_true rfl)) dX9_statement_15 ⟨Nat.le_of_ble_eq_true rfl, Nat.le_of_ble_eq_true rfl⟩) (fun r30 M31 H locs hp hR => ?_)
      obtain ⟨er, eM⟩ := hp
      subst eM
      rcases er with ⟨er, qg⟩ | ⟨er, n_y⟩ <;> subst er
      · skip
        obtain ⟨c, hc, e1⟩ := qg
        subst e1
        refine lv_if_eq (tgt := 30) hx hb dX9_statement_18 (by decide) (fun z => by first | exact absurd z (by decide) | exact absurd (by decide) z) (fun _ => ?_)
        refine lv_iload_n hx hb dX9_statement_21 rfl (lv_at hl 3 rfl) ?_
        refine lv_bipush (v := nI 84) hx hb dX9_statement_22 (by decide) ?_
        refine mm_calli hA hR (va_runS (As := [.int z, .int (nI 84)]) (rest := []) S (c_X9_isIn l G M _ z 84 (by omega)) (va_cwS 2 S.2.2.2.2 gX9_statement_X9_isIn rfl rfl rfl (by decide +kernel) ⟨Nat.le_of_ble_eq_true rfl, Nat.le_of_ble_eq_true rfl⟩) (mm_preS hC hA hR _) rfl rfl hl.1 rfl (lv_room (Nat.le_of_ble_eq_true rfl)) dX9_statement_24 ⟨Nat.le_of_ble_eq_true rfl, Nat.le_of_ble_eq_true rfl⟩) (fun r32 M33 H locs hp hR => ?_)
        obtain ⟨er, eM⟩ := hp
        subst eM
        rcases er with ⟨er, qg⟩ | ⟨er, n_z⟩ <;> subst er
        · skip
          obtain ⟨i, hi, e1⟩ := qg
          subst e1
          refine lv_if_ne (tgt := 32) hx hb dX9_statement_27 (by decide) (fun _ => ?_) (fun z => by first | exact absurd z (by decide) | exact absurd (by decide) z)
          refine lv_iload_n hx hb dX9_statement_32 rfl (lv_at hl 1 rfl) ?_
          refine lv_iconst (v := -1) hx hb dX9_statement_33 (by decide) ?_
          refine lv_icmp_ne (tgt := 51) hx hb dX9_statement_34 (by decide) (fun c3 => ?_) (fun c3 => ?_)
          · skip
            obtain ⟨j, hj, ej⟩ := ((pk_ix x (n := nw) (by omega)).resolve_left (fun q => by
              have h1 := Int32.lt_iff_toInt_lt.mp q
              have h2 : ¬ x.toInt < (-1 : Int32).toInt := fun h => c1 (Int32.lt_iff_toInt_lt.mpr h)
              have h3 : (0 : Int32).toInt = 0 := by decide
              have h4 : (-1 : Int32).toInt = -1 := by decide
              rw [h3] at h1
              rw [h4] at h2
              exact c3 (Int32.toInt_inj.mp (by rw [h4]; omega)))).resolve_left c2
            subst ej
            refine lv_aload_n hx hb dX9_statement_51 rfl (lv_at hl 0 rfl) ?_
            refine mm_get S hC hR (C := RX9) (T := TX9) (N := 23) (ref := "ForkWatchModel") (v := .ref (md 3)) 2 h0 inRX9 rfl (by decide) (by decide +kernel) (fun _ h9 => h9) rfl dX9_statement_52 ?_
            refine lv_iload_n hx hb dX9_statement_55 rfl (lv_at hl 1 rfl) ?_
            refine lv_iload_n hx hb dX9_statement_56 rfl (lv_at hl 2 rfl) ?_
            refine mm_calli hA hR (va_runS (As := [.int (nI j), .int (nI c)]) (rest := [.ref (md 3)]) S (c_X9_placeOf l G M _ j c) (va_cwS 2 S.2.2.2.2 gX9_statement_X9_placeOf rfl rfl rfl (by decide +kernel) ⟨Nat.le_of_ble_eq_true rfl, Nat.le_of_ble_eq_true rfl⟩) (mm_preS hC hA hR _) rfl rfl hl.1 rfl (lv_room (Nat.le_of_ble_eq_true rfl)) dX9_statement_57 ⟨Nat.le_of_ble_eq_true rfl, Nat.le_of_ble_eq_true rfl⟩) (fun r34 M35 H locs hp hR => ?_)
            obtain ⟨er, eM⟩ := hp
            subst eM
            subst er
            refine lv_iload_n hx hb dX9_statement_60 rfl (lv_at hl 3 rfl) ?_
            refine lv_iadd hx hb dX9_statement_61 ?_
            refine mm_eqi (nI_add _ _) ?_
            refine mm_iald S hC hR h3 (j := (84 * (4 * j + c) + i)) (by omega) (by omega) dX9_statement_62 ?_
            exact mm_iret S hr hlocks hR ⟨Or.inr (Or.inr ⟨j, c, i, hj, hc, hi, rfl, rfl, rfl, hs j hj c hc i hi⟩), hya0, hF⟩ dX9_statement_63
          · skip
            refine lv_aload_n hx hb dX9_statement_37 rfl (lv_at hl 0 rfl) ?_
            refine mm_get S hC hR (C := RX9) (T := TX9) (N := 23) (ref := "ForkWatchModel") (v := .ref (md 4)) 3 h0 inRX9 rfl (by decide) (by decide +kernel) (fun _ h9 => h9) rfl dX9_statement_38 ?_
            refine lv_bipush (v := nI 84) hx hb dX9_statement_41 (by decide) ?_
            refine lv_iload_n hx hb dX9_statement_43 rfl (lv_at hl 2 rfl) ?_
            refine lv_imul hx hb dX9_statement_44 ?_
            refine mm_eqi (pk_mul _ _) ?_
            refine lv_iload_n hx hb dX9_statement_45 rfl (lv_at hl 3 rfl) ?_
            refine lv_iadd hx hb dX9_statement_46 ?_
            refine mm_eqi (nI_add _ _) ?_
            refine mm_iald S hC hR h4 (j := (84 * c + i)) (by omega) (by omega) dX9_statement_47 ?_
            refine lv_goto (tgt := 63) hx hb dX9_statement_48 (by decide) ?_
            exact mm_iret S hr hlocks hR ⟨Or.inr (Or.inl ⟨c, i, hc, hi, c3, rfl, rfl, hrm c hc i hi⟩), hya0, hF⟩ dX9_statement_63
        · skip
          refine lv_if_ne (tgt := 32) hx hb dX9_statement_27 (by decide) (fun z => by first | exact absurd z (by decide) | exact absurd (by decide) z) (fun _ => ?_)
          refine lv_iconst (v := -1) hx hb dX9_statement_30 (by decide) ?_
          exact mm_iret S hr hlocks hR ⟨Or.inl ⟨fun q => n_z q.2.1, rfl⟩, hya0, hF⟩ dX9_statement_31
      · skip
        refine lv_if_eq (tgt := 30) hx hb dX9_statement_18 (by decide) (fun _ => ?_) (fun z => by first | exact absurd z (by decide) | exact absurd (by decide) z)
        refine lv_iconst (v := -1) hx hb dX9_statement_30 (by decide) ?_
        exact mm_iret S hr hlocks hR ⟨Or.inl ⟨fun q => n_y q.1, rfl⟩, hya0, hF⟩ dX9_statement_31

set_option maxHeartbeats 4000000 in
set_option maxRecDepth 100000 in
/-- plain() -/
theorem c_X9_plain (l : Launch) (G : mm_G) (M : mm_M) (sz : Nat) (md : Nat → Nat) (cl ll : Nat) (wl sp : Int32) (co lr : Nat → Int32) (sh : Nat → Nat) (rem : Nat → Nat → Int32) (nw : Nat) (wst : Nat → Nat → Nat → Int32) (wfc : Nat → Nat → Int32) (wln : Nat → Nat → Nat)   (hya : yA G M md cl ll wl sp co lr sh rem nw wst wfc wln) (hJ : yI md) (hN : yN cl ll co sh rem nw wst wfc wln) : mm_i l yX9_plain wsX9_plain ({ frames := 0, cells := 0, slots := 0, locals := 0 } : Room) G ([.ref (md 0)] : List Value) M sz (fun r M' => r = 1 ∧ yA G M' md cl ll wl sp co lr sh rem nw wst wfc wln ∧ mm_fr [md 0, md 3, md 4, md 5, md 6, md 7, md 8, md 9, md 10, md 11, md 12, md 13, md 14, md 15, md 16] M M') := by
  refine mm_enter (cc := cX9_plain) (maxL := 1) (ret := (some .boolean)) _ (by decide) rfl (Nat.le_of_ble_eq_true rfl) ?_
  intro p0 e0 s m0 be0 me0 c0 ls S hr hlocks hname hA hC hR hl
  have hx := S.1
  have hb := S.2.1
  have hl : lv_has ls 1 [(0, .ref (md 0))] := hl
  have hF : mm_fr [md 0, md 3, md 4, md 5, md 6, md 7, md 8, md 9, md 10, md 11, md 12, md 13, md 14, md 15, md 16] M M := mm_fr.rf
  obtain ⟨hN1, hN2, hN3, hN4, hN5, hN6, hN7, hN8, hN9, hN10⟩ := hN
  have hya0 := hya
  obtain ⟨⟨v22, f, d, hS⟩, ⟨ss, h3, hs⟩, ⟨rr0, h4, hrm⟩, ⟨fs, h5, hfs⟩, ⟨fl, h6, hfl⟩, ⟨s7, h7, hsh⟩, ⟨cof, h8, hco⟩, ⟨lrf, h9, hlr⟩, ⟨tt, h15⟩, ⟨p, h16⟩⟩ := hya
  have h0 : M (md 0) = some (ob 10 [.ref (md 1), .ref (md 2), .ref (md 3), .ref (md 4), .ref (md 5), .ref (md 6), .int (nI nw), .ref (md 7), .ref (md 8), .int (nI cl), .ref (md 9), .int (nI ll), .int wl, .int sp, .ref (md 10), .int (nI 0), .ref (md 11), .ref (md 12), .ref (md 13), .ref (md 14), .ref (md 15), .ref (md 16), .int v22]) := hS.1
  have h10 : M (md 10) = some (ia G 256 f) := hS.2.1
  have h11 : M (md 11) = some (ia G 32 d) := hS.2.2.1
  refine lv_iconst (v := nI 1) hx hb dX9_plain_0 (by decide) ?_
  exact mm_zret S hr hlocks (by decide) hR ⟨rfl, hya0, hF⟩ dX9_plain_1

set_option maxHeartbeats 4000000 in
set_option maxRecDepth 100000 in
/-- count(what) -/
theorem c_X9_count (l : Launch) (G : mm_G) (M : mm_M) (sz : Nat) (md : Nat → Nat) (cl ll : Nat) (wl sp : Int32) (co lr : Nat → Int32) (sh : Nat → Nat) (rem : Nat → Nat → Int32) (nw : Nat) (wst : Nat → Nat → Nat → Int32) (wfc : Nat → Nat → Int32) (wln : Nat → Nat → Nat) (x : Int32)  (hya : yA G M md cl ll wl sp co lr sh rem nw wst wfc wln) (hJ : yI md) (hN : yN cl ll co sh rem nw wst wfc wln) : mm_i l yX9_count wsX9_count ({ frames := 0, cells := 0, slots := 0, locals := 0 } : Room) G ([.ref (md 0), .int x] : List Value) M sz (fun r M' => ((x = nI 0 ∧ r = nI nw) ∨ (x = nI 1 ∧ r = wl) ∨ (x = nI 2 ∧ r = sp) ∨ (x = nI 3 ∧ r = nI cl) ∨ (∃ c, c < 4 ∧ x = nI (4 + c) ∧ r = nI (sh c)) ∨ (¬ (∃ j, j < 8 ∧ x = nI j) ∧ r = -1)) ∧ yA G M' md cl ll wl sp co lr sh rem nw wst wfc wln ∧ mm_fr [md 0, md 3, md 4, md 5, md 6, md 7, md 8, md 9, md 10, md 11, md 12, md 13, md 14, md 15, md 16] M M') := by
  refine mm_enter (cc := cX9_count) (maxL := 2) (ret := (some .int)) _ (by decide) rfl (Nat.le_of_ble_eq_true rfl) ?_
  intro p0 e0 s m0 be0 me0 c0 ls S hr hlocks hname hA hC hR hl
  have hx := S.1
  have hb := S.2.1
  have hl : lv_has ls 2 [(0, .ref (md 0)), (1, .int x)] := hl
  have inRX9 : ∀ w ∈ wsX90, w ∈ wsX9_count := by decide +kernel
  have hF : mm_fr [md 0, md 3, md 4, md 5, md 6, md 7, md 8, md 9, md 10, md 11, md 12, md 13, md 14, md 15, md 16] M M := mm_fr.rf
  obtain ⟨hN1, hN2, hN3, hN4, hN5, hN6, hN7, hN8, hN9, hN10⟩ := hN
  have hya0 := hya
  obtain ⟨⟨v22, f, d, hS⟩, ⟨ss, h3, hs⟩, ⟨rr0, h4, hrm⟩, ⟨fs, h5, hfs⟩, ⟨fl, h6, hfl⟩, ⟨s7, h7, hsh⟩, ⟨cof, h8, hco⟩, ⟨lrf, h9, hlr⟩, ⟨tt, h15⟩, ⟨p, h16⟩⟩ := hya
  have h0 : M (md 0) = some (ob 10 [.ref (md 1), .ref (md 2), .ref (md 3), .ref (md 4), .ref (md 5), .ref (md 6), .int (nI nw), .ref (md 7), .ref (md 8), .int (nI cl), .ref (md 9), .int (nI ll), .int wl, .int sp, .ref (md 10), .int (nI 0), .ref (md 11), .ref (md 12), .ref (md 13), .ref (md 14), .ref (md 15), .ref (md 16), .int v22]) := hS.1
  have h10 : M (md 10) = some (ia G 256 f) := hS.2.1
  have h11 : M (md 11) = some (ia G 32 d) := hS.2.2.1
  refine lv_iload_n hx hb dX9_count_0 rfl (lv_at hl 1 rfl) ?_
  rcases pk_ix x (n := 4) (by decide) with c1 | c1 | ⟨j, hj, e1⟩
  · skip
    refine lv_tableOut (tgt := 52) hx hb dX9_count_1 (Or.inl (by have z := Int32.lt_iff_toInt_lt.mp c1; simpa using z)) (by decide) ?_
    refine lv_iload_n hx hb dX9_count_52 rfl (lv_at hl 1 rfl) ?_
    refine lv_iconst (v := nI 4) hx hb dX9_count_53 (by decide) ?_
    refine lv_icmp_lt (tgt := 74) hx hb dX9_count_54 (by decide) (fun c2 => ?_) (fun c2 => ?_)
    · skip
      refine lv_iconst (v := -1) hx hb dX9_count_74 (by decide) ?_
      exact mm_iret S hr hlocks hR ⟨Or.inr (Or.inr (Or.inr (Or.inr (Or.inr ⟨fun ⟨j, hj, e⟩ => by rw [e] at c1; exact nI_pos (by omega) c1, rfl⟩)))), hya0, hF⟩ dX9_count_75
    · skip
      exact absurd (Int32.lt_trans c1 (by decide)) c2
  · skip
    refine lv_tableOut (tgt := 52) hx hb dX9_count_1 (Or.inr (by have z := Int32.le_iff_toInt_le.mp c1; have y : (nI 4).toInt = 4 := (by decide); rw [y] at z; omega)) (by decide) ?_
    refine lv_iload_n hx hb dX9_count_52 rfl (lv_at hl 1 rfl) ?_
    refine lv_iconst (v := nI 4) hx hb dX9_count_53 (by decide) ?_
    refine lv_icmp_lt (tgt := 74) hx hb dX9_count_54 (by decide) (fun c2 => ?_) (fun c2 => ?_)
    · skip
      exact absurd c2 (Int32.not_lt.mpr c1)
    · skip
      refine lv_iload_n hx hb dX9_count_57 rfl (lv_at hl 1 rfl) ?_
      refine lv_bipush (v := nI 8) hx hb dX9_count_58 (by decide) ?_
      refine lv_icmp_ge (tgt := 74) hx hb dX9_count_60 (by decide) (fun c3 => ?_) (fun c3 => ?_)
      · skip
        refine lv_iconst (v := -1) hx hb dX9_count_74 (by decide) ?_
        exact mm_iret S hr hlocks hR ⟨Or.inr (Or.inr (Or.inr (Or.inr (Or.inr ⟨fun ⟨j, hj, e⟩ => by rw [e] at c3; exact absurd c3 (nI_ge hj (by omega)), rfl⟩)))), hya0, hF⟩ dX9_count_75
      · skip
        obtain ⟨j, hj, ej⟩ := ((pk_ix x (n := 8) (by decide)).resolve_left (fun z => c2 (Int32.lt_trans z (by decide)))).resolve_left c3
        subst ej
        have hj4 : 4 ≤ j := (nI_leI (by omega) (by omega)).mp c1
        refine lv_aload_n hx hb dX9_count_63 rfl (lv_at hl 0 rfl) ?_
        refine mm_get S hC hR (C := RX9) (T := TX9) (N := 23) (ref := "ForkWatchModel") (v := .ref (md 7)) 7 h0 inRX9 rfl (by decide) (by decide +kernel) (fun _ h9 => h9) rfl dX9_count_64 ?_
        refine lv_iload_n hx hb dX9_count_67 rfl (lv_at hl 1 rfl) ?_
        refine lv_iconst (v := nI 4) hx hb dX9_count_68 (by decide) ?_
        refine lv_isub hx hb dX9_count_69 ?_
        refine mm_eqi (pk_sub (by omega)) ?_
        refine mm_iald S hC hR h7 (j := (j - 4)) (by omega) (by omega) dX9_count_70 ?_
        refine lv_goto (tgt := 75) hx hb dX9_count_71 (by decide) ?_
        have e9 := hsh (j - 4) (by omega)
        exact mm_iret S hr hlocks hR ⟨Or.inr (Or.inr (Or.inr (Or.inr (Or.inl ⟨j - 4, by omega, by rw [show 4 + (j - 4) = j by omega], e9⟩)))), hya0, hF⟩ dX9_count_75
  · skip
    rcases (show j = 0 ∨ j = 1 ∨ j = 2 ∨ j = 3 by omega) with e2 | e2 | e2 | e2 <;> subst e2 <;> subst e1
    · skip
      refine lv_tableIn (tgt := 32) (off := 31) hx hb dX9_count_1 (by decide) (by decide) (by decide) (by decide) ?_
      refine lv_aload_n hx hb dX9_count_32 rfl (lv_at hl 0 rfl) ?_
      refine mm_get S hC hR (C := RX9) (T := TX9) (N := 23) (ref := "ForkWatchModel") (v := .int (nI nw)) 6 h0 inRX9 rfl (by decide) (by decide +kernel) (fun _ h9 => h9) rfl dX9_count_33 ?_
      exact mm_iret S hr hlocks hR ⟨Or.inl ⟨rfl, rfl⟩, hya0, hF⟩ dX9_count_36
    · skip
      refine lv_tableIn (tgt := 37) (off := 36) hx hb dX9_count_1 (by decide) (by decide) (by decide) (by decide) ?_
      refine lv_aload_n hx hb dX9_count_37 rfl (lv_at hl 0 rfl) ?_
      refine mm_get S hC hR (C := RX9) (T := TX9) (N := 23) (ref := "ForkWatchModel") (v := .int wl) 12 h0 inRX9 rfl (by decide) (by decide +kernel) (fun _ h9 => h9) rfl dX9_count_38 ?_
      exact mm_iret S hr hlocks hR ⟨Or.inr (Or.inl ⟨rfl, rfl⟩), hya0, hF⟩ dX9_count_41
    · skip
      refine lv_tableIn (tgt := 42) (off := 41) hx hb dX9_count_1 (by decide) (by decide) (by decide) (by decide) ?_
      refine lv_aload_n hx hb dX9_count_42 rfl (lv_at hl 0 rfl) ?_
      refine mm_get S hC hR (C := RX9) (T := TX9) (N := 23) (ref := "ForkWatchModel") (v := .int sp) 13 h0 inRX9 rfl (by decide) (by decide +kernel) (fun _ h9 => h9) rfl dX9_count_43 ?_
      exact mm_iret S hr hlocks hR ⟨Or.inr (Or.inr (Or.inl ⟨rfl, rfl⟩)), hya0, hF⟩ dX9_count_46
    · skip
      refine lv_tableIn (tgt := 47) (off := 46) hx hb dX9_count_1 (by decide) (by decide) (by decide) (by decide) ?_
      refine lv_aload_n hx hb dX9_count_47 rfl (lv_at hl 0 rfl) ?_
      refine mm_get S hC hR (C := RX9) (T := TX9) (N := 23) (ref := "ForkWatchModel") (v := .int (nI cl)) 9 h0 inRX9 rfl (by decide) (by decide +kernel) (fun _ h9 => h9) rfl dX9_count_48 ?_
      exact mm_iret S hr hlocks hR ⟨Or.inr (Or.inr (Or.inr (Or.inl ⟨rfl, rfl⟩))), hya0, hF⟩ dX9_count_51
