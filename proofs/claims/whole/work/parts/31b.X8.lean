set_option maxHeartbeats 4000000 in
set_option maxRecDepth 100000 in
/-- feed(b) -/
theorem c_X8_feed (l : Launch) (G : mm_G) (M : mm_M) (sz : Nat) (ad : Nat → Nat) (cl ll : Nat) (chg wl sp : Int32) (co lr : Nat → Int32) (sh : Nat → Nat) (rem : Nat → Nat → Int32) (nw : Nat) (wst : Nat → Nat → Nat → Int32) (wfc wfl wtn : Nat → Nat → Int32) (wln : Nat → Nat → Nat) (no : Nat) (op : Nat → OpT) (dc : Nat → Nat) (x : Int32)  (hxa : xA G M ad cl ll chg wl sp co lr sh rem nw wst wfc wfl wtn wln no op dc) (hI : xI ad nw no) (hN : xN cl ll chg sh nw wfc wfl wtn wln no) (h18 : no = 0 → ad 18 = G.2.2.2.2.1) : mm_i l yX8_feed wsX8_feed ({ frames := 0, cells := 0, slots := 0, locals := 0 } : Room) G ([.ref (ad 0), .int x] : List Value) M sz (fun r M' => (r = 0 ∧ ¬ ((∃ j, j < 256 ∧ x = nI j) ∧ cl < 64) ∧ xA G M' ad cl ll chg wl sp co lr sh rem nw wst wfc wfl wtn wln no op dc ∧ xF ad nw no M M') ∨ (r = 1 ∧ ((∃ j, j < 256 ∧ x = nI j) ∧ cl < 64) ∧ xA G M' ad (cl + 1) ll chg wl sp (upd co cl x) lr sh rem nw wst wfc wfl wtn wln no op dc ∧ xF ad nw no M M')) := by
  refine mm_enter (cc := cX8_feed) (maxL := 2) (ret := (some .boolean)) _ (by decide) rfl (Nat.le_of_ble_eq_true rfl) ?_
  intro p0 e0 s m0 be0 me0 c0 ls S hr hlocks hname hA hC hR hl
  have hx := S.1
  have hb := S.2.1
  have hl : lv_has ls 2 [(0, .ref (ad 0)), (1, .int x)] := hl
  have inRX8 : ∀ w ∈ wsX80, w ∈ wsX8_feed := by decide +kernel
  have hF : mm_fr [ad 0, ad 14] M M := mm_fr.rf
  have hR0 := hR
  obtain ⟨hX, hb1, hb2, ⟨dg, hb3⟩, ⟨lmc, lf, hb4a, hb4b, hb4c⟩, ⟨rf, hb5a, hb5b⟩, hb6, ⟨shf, hb7a, hb7b⟩, hb8, hb9, hb10, hb11, ⟨dnf, hb12a, hb12b⟩, ⟨sfc, sfl, hb13⟩, hb14⟩ := id hxa
  have hcl := hN.1
  refine lv_iload_n hx hb dX8_feed_0 rfl (lv_at hl 1 rfl) ?_
  refine lv_if_lt (tgt := 20) hx hb dX8_feed_1 (by decide) (fun c1 => ?_) (fun c1 => ?_)
  · skip
    refine lv_iconst (v := nI 0) hx hb dX8_feed_20 (by decide) ?_
    exact mm_zret S hr hlocks (by decide) hR (Or.inl ⟨rfl, fun z => by obtain ⟨⟨j, hj, e⟩, _⟩ := z; rw [e] at c1; exact nI_pos (by omega) c1, hxa, fun q e hq _ => hq⟩) dX8_feed_21
  · skip
    refine lv_iload_n hx hb dX8_feed_4 rfl (lv_at hl 1 rfl) ?_
    refine lv_sipush (v := nI 255) hx hb dX8_feed_5 (by decide) ?_
    refine lv_icmp_gt (tgt := 20) hx hb dX8_feed_8 (by decide) (fun c2 => ?_) (fun c2 => ?_)
    · skip
      refine lv_iconst (v := nI 0) hx hb dX8_feed_20 (by decide) ?_
      exact mm_zret S hr hlocks (by decide) hR (Or.inl ⟨rfl, fun z => by obtain ⟨⟨j, hj, e⟩, _⟩ := z; rw [e] at c2; exact absurd c2 (nI_nlt (show j ≤ 255 by omega) (by omega)), hxa, fun q e hq _ => hq⟩) dX8_feed_21
    · skip
      refine lv_aload_n hx hb dX8_feed_11 rfl (lv_at hl 0 rfl) ?_
      refine mm_get S hC hR (C := RX8) (T := TX8) (N := 14) (ref := "ForkWatch") (v := .int (nI cl)) 7 hX inRX8 rfl (by decide) (by decide +kernel) (fun _ h9 => h9) rfl dX8_feed_12 ?_
      refine lv_bipush (v := nI 64) hx hb dX8_feed_15 (by decide) ?_
      refine lv_icmp_lt (tgt := 22) hx hb dX8_feed_17 (by decide) (fun c3 => ?_) (fun c3 => ?_)
      · have c3 : cl < 64 := (nI_ltI (a := cl) (b := 64) (by omega) (by omega)).mp c3
        have hx2 : ¬ nI 256 ≤ x := fun z => c2 (Int32.lt_of_lt_of_le (show nI 255 < nI 256 by decide) z)
        have hj := ((pk_ix x (n := 256) (by decide)).resolve_left c1).resolve_left hx2
        refine lv_aload_n hx hb dX8_feed_22 rfl (lv_at hl 0 rfl) ?_
        refine mm_get S hC hR (C := RX8) (T := TX8) (N := 14) (ref := "ForkWatch") (v := .ref (ad 14)) 6 hX inRX8 rfl (by decide) (by decide +kernel) (fun _ h9 => h9) rfl dX8_feed_23 ?_
        refine lv_aload_n hx hb dX8_feed_26 rfl (lv_at hl 0 rfl) ?_
        refine mm_get S hC hR (C := RX8) (T := TX8) (N := 14) (ref := "ForkWatch") (v := .int (nI cl)) 7 hX inRX8 rfl (by decide) (by decide +kernel) (fun _ h9 => h9) rfl dX8_feed_27 ?_
        refine lv_iload_n hx hb dX8_feed_30 rfl (lv_at hl 1 rfl) ?_
        refine mm_iast S hC hR hb8 (j := cl) (by omega) (by omega) dX8_feed_31 (fun H locs M1 g3 f2 hR => ?_)
        have hX := f2.at hX (mm_nc (xne0 hI (by decide) (by decide) (by decide)) mm_n0)
        have hb4a := f2.at hb4a (mm_nc (xne0 hI (by decide) (by decide) (by decide)) mm_n0)
        have hb4b := f2.at hb4b (mm_nc (xne0 hI (by decide) (by decide) (by decide)) mm_n0)
        have hb5a := f2.at hb5a (mm_nc (xne0 hI (by decide) (by decide) (by decide)) mm_n0)
        have hb7a := f2.at hb7a (mm_nc (xne0 hI (by decide) (by decide) (by decide)) mm_n0)
        have hb9 := f2.at hb9 (mm_nc (xne0 hI (by decide) (by decide) (by decide)) mm_n0)
        have hb10 := f2.at hb10 (mm_nc (xne0 hI (by decide) (by decide) (by decide)) mm_n0)
        have hb3 := f2.at hb3 (mm_nc (xne0 hI (by decide) (by decide) (by decide)) mm_n0)
        have hb8 : M1 (ad 14) = some (ia G 64 (upd co cl x)) := g3
        have hF := hF.tr f2 (mm_ic 1 rfl mm_i0)
        refine lv_aload_n hx hb dX8_feed_32 rfl (lv_at hl 0 rfl) ?_
        refine lv_dup hx hb dX8_feed_33 rfl ?_
        refine mm_get S hC hR (C := RX8) (T := TX8) (N := 14) (ref := "ForkWatch") (v := .int (nI cl)) 7 hX inRX8 rfl (by decide) (by decide +kernel) (fun _ h9 => h9) rfl dX8_feed_34 ?_
        refine lv_iconst (v := nI 1) hx hb dX8_feed_37 (by decide) ?_
        refine lv_iadd hx hb dX8_feed_38 ?_
        refine mm_eqi (nI_add _ _) ?_
        refine mm_put S hC hR (C := RX8) (T := TX8) (N := 14) (ref := "ForkWatch") 7 hX inRX8 rfl tyX8_ok nmX8 (by decide) (by decide +kernel) (fun _ h9 => h9) rfl rfl rfl (Nat.le_of_ble_eq_true rfl) dX8_feed_39 (fun H locs M4 g6 f5 hR => ?_)
        have hb4a := f5.at hb4a (mm_nc (xne0 hI (by decide) (by decide) (by decide)) mm_n0)
        have hb4b := f5.at hb4b (mm_nc (xne0 hI (by decide) (by decide) (by decide)) mm_n0)
        have hb5a := f5.at hb5a (mm_nc (xne0 hI (by decide) (by decide) (by decide)) mm_n0)
        have hb7a := f5.at hb7a (mm_nc (xne0 hI (by decide) (by decide) (by decide)) mm_n0)
        have hb8 := f5.at hb8 (mm_nc (xne0 hI (by decide) (by decide) (by decide)) mm_n0)
        have hb9 := f5.at hb9 (mm_nc (xne0 hI (by decide) (by decide) (by decide)) mm_n0)
        have hb10 := f5.at hb10 (mm_nc (xne0 hI (by decide) (by decide) (by decide)) mm_n0)
        have hb3 := f5.at hb3 (mm_nc (xne0 hI (by decide) (by decide) (by decide)) mm_n0)
        have hX : M4 (ad 0) = some (ob 9 [.ref (ad 1), .ref (ad 4), .ref (ad 9), .ref (ad 10), .ref (ad 12), .ref (ad 13), .ref (ad 14), .int (nI (cl + 1)), .ref (ad 15), .int (nI ll), .ref (ad 16), .int chg, .int wl, .int sp]) := g6
        have hF := hF.tr f5 (mm_ic 0 rfl mm_i0)
        refine lv_iconst (v := nI 1) hx hb dX8_feed_42 (by decide) ?_
        have fr := xA.fr (rs := [0, 14]) hxa hI hF (by intro z hz; simp only [List.mem_cons, List.not_mem_nil, or_false] at hz; unfold xD; omega)
        obtain ⟨u0, u1, u2, u3, u4, u5, u6, u7, u8, u9, u10, u11, u12, u13, u14⟩ := fr
        have hxa2 : xA G M4 ad (cl + 1) ll chg wl sp (upd co cl x) lr sh rem nw wst wfc wfl wtn wln no op dc := ⟨hX, u1 (by decide) (by decide) (by decide), u2 (by decide) (by decide) (by decide) (by decide) (by decide), u3 (by decide), u4 (by decide) (by decide), u5 (by decide), fun c hc => u6 c hc (by simp only [List.mem_cons, List.not_mem_nil, or_false]; omega) (by simp only [List.mem_cons, List.not_mem_nil, or_false]; omega), u7 (by decide), hb8, u9 (by decide), u10 (by decide), u11 (by decide) (by decide) (by intro r hr; simp only [List.mem_cons, List.not_mem_nil, or_false] at hr; omega) (xn18 hC hR0 hxa hI h18 (by intro z hz; simp only [List.mem_cons, List.not_mem_nil, or_false] at hz; omega) (by intro z hz; simp only [List.mem_cons, List.not_mem_nil, or_false] at hz; unfold xD; omega)), u12 (by decide), u13 (by decide) (by decide) (by decide), fun j hj => u14 j hj (by intro r hr; simp only [List.mem_cons, List.not_mem_nil, or_false] at hr; omega)⟩
        have hxf : xF ad nw no M M4 := xF.of (rs := [0, 14]) hF (by intro z hz; simp only [List.mem_cons, List.not_mem_nil, or_false] at hz; unfold xD; omega)
        exact mm_zret S hr hlocks (by decide) hR (Or.inr ⟨rfl, ⟨hj, c3⟩, hxa2, hxf⟩) dX8_feed_43
      · have c3 : ¬ (cl < 64) := fun z => c3 ((nI_ltI (a := cl) (b := 64) (by omega) (by omega)).mpr z)
        refine lv_iconst (v := nI 0) hx hb dX8_feed_20 (by decide) ?_
        exact mm_zret S hr hlocks (by decide) hR (Or.inl ⟨rfl, fun z => c3 z.2, hxa, fun q e hq _ => hq⟩) dX8_feed_21

set_option maxHeartbeats 4000000 in
set_option maxRecDepth 100000 in
/-- got(i) -/
theorem c_X8_got (l : Launch) (G : mm_G) (M : mm_M) (sz : Nat) (ad : Nat → Nat) (cl ll : Nat) (chg wl sp : Int32) (co lr : Nat → Int32) (sh : Nat → Nat) (rem : Nat → Nat → Int32) (nw : Nat) (wst : Nat → Nat → Nat → Int32) (wfc wfl wtn : Nat → Nat → Int32) (wln : Nat → Nat → Nat) (no : Nat) (op : Nat → OpT) (dc : Nat → Nat) (x : Int32)  (hxa : xA G M ad cl ll chg wl sp co lr sh rem nw wst wfc wfl wtn wln no op dc) (hI : xI ad nw no) (hN : xN cl ll chg sh nw wfc wfl wtn wln no) (h18 : no = 0 → ad 18 = G.2.2.2.2.1) : mm_i l yX8_got wsX8_got ({ frames := 0, cells := 0, slots := 0, locals := 0 } : Room) G ([.ref (ad 0), .int x] : List Value) M sz (fun r M' => ((¬ (∃ j, j < ll ∧ x = nI j) ∧ r = -1) ∨ ∃ j, j < ll ∧ x = nI j ∧ r = lr j) ∧ xA G M' ad cl ll chg wl sp co lr sh rem nw wst wfc wfl wtn wln no op dc ∧ xF ad nw no M M') := by
  refine mm_enter (cc := cX8_got) (maxL := 2) (ret := (some .int)) _ (by decide) rfl (Nat.le_of_ble_eq_true rfl) ?_
  intro p0 e0 s m0 be0 me0 c0 ls S hr hlocks hname hA hC hR hl
  have hx := S.1
  have hb := S.2.1
  have hl : lv_has ls 2 [(0, .ref (ad 0)), (1, .int x)] := hl
  have inRX8 : ∀ w ∈ wsX80, w ∈ wsX8_got := by decide +kernel
  have hF : mm_fr [] M M := mm_fr.rf
  have hR0 := hR
  obtain ⟨hX, hb1, hb2, ⟨dg, hb3⟩, ⟨lmc, lf, hb4a, hb4b, hb4c⟩, ⟨rf, hb5a, hb5b⟩, hb6, ⟨shf, hb7a, hb7b⟩, hb8, hb9, hb10, hb11, ⟨dnf, hb12a, hb12b⟩, ⟨sfc, sfl, hb13⟩, hb14⟩ := id hxa
  have hll := hN.2.1
  refine lv_iload_n hx hb dX8_got_0 rfl (lv_at hl 1 rfl) ?_
  refine lv_if_lt (tgt := 21) hx hb dX8_got_1 (by decide) (fun c1 => ?_) (fun c1 => ?_)
  · skip
    refine lv_iconst (v := -1) hx hb dX8_got_21 (by decide) ?_
    exact mm_iret S hr hlocks hR ⟨Or.inl ⟨fun ⟨j, hj, e⟩ => by rw [e] at c1; exact nI_pos (by omega) c1, rfl⟩, hxa, fun q e hq _ => hq⟩ dX8_got_22
  · skip
    refine lv_iload_n hx hb dX8_got_4 rfl (lv_at hl 1 rfl) ?_
    refine lv_aload_n hx hb dX8_got_5 rfl (lv_at hl 0 rfl) ?_
    refine mm_get S hC hR (C := RX8) (T := TX8) (N := 14) (ref := "ForkWatch") (v := .int (nI ll)) 9 hX inRX8 rfl (by decide) (by decide +kernel) (fun _ h9 => h9) rfl dX8_got_6 ?_
    refine lv_icmp_ge (tgt := 21) hx hb dX8_got_9 (by decide) (fun c2 => ?_) (fun c2 => ?_)
    · skip
      refine lv_iconst (v := -1) hx hb dX8_got_21 (by decide) ?_
      exact mm_iret S hr hlocks hR ⟨Or.inl ⟨fun ⟨j, hj, e⟩ => by rw [e] at c2; exact absurd c2 (nI_ge hj (by omega)), rfl⟩, hxa, fun q e hq _ => hq⟩ dX8_got_22
    · skip
      obtain ⟨j, hj, ej⟩ := ((pk_ix x (n := ll) (by omega)).resolve_left c1).resolve_left c2
      subst ej
      refine lv_aload_n hx hb dX8_got_12 rfl (lv_at hl 0 rfl) ?_
      refine mm_get S hC hR (C := RX8) (T := TX8) (N := 14) (ref := "ForkWatch") (v := .ref (ad 15)) 8 hX inRX8 rfl (by decide) (by decide +kernel) (fun _ h9 => h9) rfl dX8_got_13 ?_
      refine lv_iload_n hx hb dX8_got_16 rfl (lv_at hl 1 rfl) ?_
      refine mm_iald S hC hR hb9 (j := j) (by omega) (by omega) dX8_got_17 ?_
      refine lv_goto (tgt := 22) hx hb dX8_got_18 (by decide) ?_
      exact mm_iret S hr hlocks hR ⟨Or.inr ⟨j, hj, rfl, rfl⟩, hxa, fun q e hq _ => hq⟩ dX8_got_22

set_option maxHeartbeats 4000000 in
set_option maxRecDepth 100000 in
/-- isWorld(x) -/
theorem c_X8_isWorld (l : Launch) (G : mm_G) (M : mm_M) (sz : Nat) (ad : Nat → Nat) (cl ll : Nat) (chg wl sp : Int32) (co lr : Nat → Int32) (sh : Nat → Nat) (rem : Nat → Nat → Int32) (nw : Nat) (wst : Nat → Nat → Nat → Int32) (wfc wfl wtn : Nat → Nat → Int32) (wln : Nat → Nat → Nat) (no : Nat) (op : Nat → OpT) (dc : Nat → Nat) (x : Int32)  (hxa : xA G M ad cl ll chg wl sp co lr sh rem nw wst wfc wfl wtn wln no op dc) (hI : xI ad nw no) (hN : xN cl ll chg sh nw wfc wfl wtn wln no) (h18 : no = 0 → ad 18 = G.2.2.2.2.1) : mm_i l yX8_isWorld wsX8_isWorld ({ frames := 1, cells := 0, slots := 0, locals := 30 } : Room) G ([.ref (ad 0), .int x] : List Value) M sz (fun r M' => bq r (∃ j, j < nw ∧ x = nI j) ∧ mm_fr [] M M') := by
  refine mm_enter (cc := cX8_isWorld) (maxL := 2) (ret := (some .boolean)) _ (by decide) rfl (Nat.le_of_ble_eq_true rfl) ?_
  intro p0 e0 s m0 be0 me0 c0 ls S hr hlocks hname hA hC hR hl
  have hx := S.1
  have hb := S.2.1
  have hl : lv_has ls 2 [(0, .ref (ad 0)), (1, .int x)] := hl
  have inRJx4a65c : ∀ w ∈ wsJx4a65c0, w ∈ wsX8_isWorld := by decide +kernel
  have inRX8 : ∀ w ∈ wsX80, w ∈ wsX8_isWorld := by decide +kernel
  have hF : mm_fr [] M M := mm_fr.rf
  have hR0 := hR
  obtain ⟨hX, hb1, hb2, ⟨dg, hb3⟩, ⟨lmc, lf, hb4a, hb4b, hb4c⟩, ⟨rf, hb5a, hb5b⟩, hb6, ⟨shf, hb7a, hb7b⟩, hb8, hb9, hb10, hb11, ⟨dnf, hb12a, hb12b⟩, ⟨sfc, sfl, hb13⟩, hb14⟩ := id hxa
  have hnw := hN.2.2.2.2.1
  refine lv_iload_n hx hb dX8_isWorld_0 rfl (lv_at hl 1 rfl) ?_
  refine lv_if_lt (tgt := 19) hx hb dX8_isWorld_1 (by decide) (fun c1 => ?_) (fun c1 => ?_)
  · skip
    refine lv_iconst (v := nI 0) hx hb dX8_isWorld_19 (by decide) ?_
    exact mm_zret S hr hlocks (by decide) hR ⟨Or.inr ⟨rfl, fun ⟨j, hj, e⟩ => by rw [e] at c1; exact nI_pos (by omega) c1⟩, hF⟩ dX8_isWorld_20
  · skip
    refine lv_iload_n hx hb dX8_isWorld_4 rfl (lv_at hl 1 rfl) ?_
    refine lv_aload_n hx hb dX8_isWorld_5 rfl (lv_at hl 0 rfl) ?_
    refine mm_get S hC hR (C := RX8) (T := TX8) (N := 14) (ref := "ForkWatch") (v := .ref (ad 10)) 3 hX inRX8 rfl (by decide) (by decide +kernel) (fun _ h9 => h9) rfl dX8_isWorld_6 ?_
    refine mm_calli hA hR (va_runV (As := []) (rest := [.int x]) S (c_Jx4a65c_size_8abf5 l G M _ (ad 10) (ad 11) nw lmc hb4a) (cwV 0 S.2.2.2.2 gX8_isWorld_Jx4a65c_size_8abf5 rfl rfl rfl (by decide +kernel) ⟨Nat.le_of_ble_eq_true rfl, Nat.le_of_ble_eq_true rfl⟩) (mm_preV hC hA hR _ hb4a rfl) rfl rfl hl.1 rfl (lv_room (Nat.le_of_ble_eq_true rfl)) dX8_isWorld_9 ⟨Nat.le_of_ble_eq_true rfl, Nat.le_of_ble_eq_true rfl⟩) (fun r7 M8 H locs hp hR => ?_)
    obtain ⟨e1, ff⟩ := hp
    subst e1
    have hX := ff.at hX mm_n0
    have hb4a := ff.at hb4a mm_n0
    have hb4b := ff.at hb4b mm_n0
    have hb5a := ff.at hb5a mm_n0
    have hb7a := ff.at hb7a mm_n0
    have hb8 := ff.at hb8 mm_n0
    have hb9 := ff.at hb9 mm_n0
    have hb10 := ff.at hb10 mm_n0
    have hb3 := ff.at hb3 mm_n0
    have hF := hF.tr ff mm_i0
    refine lv_icmp_ge (tgt := 19) hx hb dX8_isWorld_12 (by decide) (fun c2 => ?_) (fun c2 => ?_)
    · skip
      refine lv_iconst (v := nI 0) hx hb dX8_isWorld_19 (by decide) ?_
      exact mm_zret S hr hlocks (by decide) hR ⟨Or.inr ⟨rfl, fun ⟨j, hj, e⟩ => by rw [e] at c2; exact absurd c2 (nI_ge hj (by omega))⟩, hF⟩ dX8_isWorld_20
    · skip
      refine lv_iconst (v := nI 1) hx hb dX8_isWorld_15 (by decide) ?_
      refine lv_goto (tgt := 20) hx hb dX8_isWorld_16 (by decide) ?_
      exact mm_zret S hr hlocks (by decide) hR ⟨Or.inl ⟨rfl, ((pk_ix x (n := nw) (by omega)).resolve_left c1).resolve_left c2⟩, hF⟩ dX8_isWorld_20
