theorem xA.fr0 {G : mm_G} {M M' : mm_M} {ad : Nat → Nat} {cl ll : Nat} {chg wl sp : Int32} {co lr : Nat → Int32} {sh : Nat → Nat} {rem : Nat → Nat → Int32} {nw : Nat} {wst : Nat → Nat → Nat → Int32} {wfc wfl wtn : Nat → Nat → Int32} {wln : Nat → Nat → Nat} {no : Nat} {op : Nat → OpT} {dc : Nat → Nat} (h : xA G M ad cl ll chg wl sp co lr sh rem nw wst wfc wfl wtn wln no op dc) (hI : xI ad nw no) (ff : mm_fr [] M M') : xA G M' ad cl ll chg wl sp co lr sh rem nw wst wfc wfl wtn wln no op dc := by
  obtain ⟨u0, u1, u2, u3, u4, u5, u6, u7, u8, u9, u10, u11, u12, u13, u14⟩ := xA.fr (rs := []) h hI ff (fun x hx => absurd hx List.not_mem_nil)
  have nn : ∀ r, r ∉ ([] : List Nat) := fun _ => List.not_mem_nil
  exact ⟨u0 (nn _), u1 (nn _) (nn _) (nn _), u2 (nn _) (nn _) (nn _) (nn _) (nn _), u3 (nn _), u4 (nn _) (nn _), u5 (nn _), fun c hc => u6 c hc (nn _) (nn _), u7 (nn _), u8 (nn _), u9 (nn _), u10 (nn _), u11 (nn _) (nn _) (fun r hr => absurd hr (nn r)) (fun z => by cases z), u12 (nn _), u13 (nn _) (nn _) (nn _), fun j hj => u14 j hj (fun r hr => absurd hr (nn r))⟩
def upN (f : Nat → Nat) (c j : Nat) : Nat → Nat := fun k => if k = c then j else f k

set_option maxHeartbeats 4000000 in
set_option maxRecDepth 100000 in
/-- show(client, world) -/
theorem c_X8_show (l : Launch) (G : mm_G) (M : mm_M) (sz : Nat) (ad : Nat → Nat) (cl ll : Nat) (chg wl sp : Int32) (co lr : Nat → Int32) (sh : Nat → Nat) (rem : Nat → Nat → Int32) (nw : Nat) (wst : Nat → Nat → Nat → Int32) (wfc wfl wtn : Nat → Nat → Int32) (wln : Nat → Nat → Nat) (no : Nat) (op : Nat → OpT) (dc : Nat → Nat) (x y : Int32)  (hxa : xA G M ad cl ll chg wl sp co lr sh rem nw wst wfc wfl wtn wln no op dc) (hI : xI ad nw no) (hN : xN cl ll chg sh nw wfc wfl wtn wln no) (h18 : no = 0 → ad 18 = G.2.2.2.2.1) : mm_i l yX8_show wsX8_show ({ frames := 2, cells := 0, slots := 0, locals := 60 } : Room) G ([.ref (ad 0), .int x, .int y] : List Value) M sz (fun r M' => (r = -1 ∧ ¬ ((∃ j, j < 4 ∧ x = nI j) ∧ ∃ j, j < nw ∧ y = nI j) ∧ xA G M' ad cl ll chg wl sp co lr sh rem nw wst wfc wfl wtn wln no op dc ∧ xF ad nw no M M') ∨ ∃ c j, c < 4 ∧ j < nw ∧ x = nI c ∧ y = nI j ∧ r = nI (sh c) ∧ xA G M' ad cl ll chg wl sp co lr (upN sh c j) rem nw wst wfc wfl wtn wln no op dc ∧ xF ad nw no M M') := by
  refine mm_enter (cc := cX8_show) (maxL := 4) (ret := (some .int)) _ (by decide) rfl (Nat.le_of_ble_eq_true rfl) ?_
  intro p0 e0 s m0 be0 me0 c0 ls S hr hlocks hname hA hC hR hl
  have hx := S.1
  have hb := S.2.1
  have hl : lv_has ls 4 [(0, .ref (ad 0)), (1, .int x), (2, .int y)] := hl
  have inRJx4a65c : ∀ w ∈ wsJx4a65c0, w ∈ wsX8_show := by decide +kernel
  have inRX8 : ∀ w ∈ wsX80, w ∈ wsX8_show := by decide +kernel
  have hF : mm_fr [ad 13] M M := mm_fr.rf
  have hR0 := hR
  obtain ⟨hX, hb1, hb2, ⟨dg, hb3⟩, ⟨lmc, lf, hb4a, hb4b, hb4c⟩, ⟨rf, hb5a, hb5b⟩, hb6, ⟨shf, hb7a, hb7b⟩, hb8, hb9, hb10, hb11, ⟨dnf, hb12a, hb12b⟩, ⟨sfc, sfl, hb13⟩, hb14⟩ := id hxa
  have hZ : mm_fr [] M M := mm_fr.rf
  have hnw := hN.2.2.2.2.1
  refine lv_iload_n hx hb dX8_show_0 rfl (lv_at hl 1 rfl) ?_
  refine mm_calli hA hR (va_runS (As := [.int x]) (rest := []) S (c_X8_isClient l G M _ x) (va_cwS 1 S.2.2.2.2 gX8_show_X8_isClient rfl rfl rfl (by decide +kernel) ⟨Nat.le_of_ble_eq_true rfl, Nat.le_of_ble_eq_true rfl⟩) (mm_preS hC hA hR _) rfl rfl hl.1 rfl (lv_room (Nat.le_of_ble_eq_true rfl)) dX8_show_1 ⟨Nat.le_of_ble_eq_true rfl, Nat.le_of_ble_eq_true rfl⟩) (fun r1 M2 H locs hp hR => ?_)
  obtain ⟨qg, ff⟩ := hp
  have hX := ff.at hX mm_n0
  have hb4a := ff.at hb4a mm_n0
  have hb4b := ff.at hb4b mm_n0
  have hb5a := ff.at hb5a mm_n0
  have hb7a := ff.at hb7a mm_n0
  have hb8 := ff.at hb8 mm_n0
  have hb9 := ff.at hb9 mm_n0
  have hb10 := ff.at hb10 mm_n0
  have hb3 := ff.at hb3 mm_n0
  have hF := hF.tr ff mm_i0
  have hZ := hZ.tr ff mm_i0
  rcases qg with ⟨e1, qg⟩ | ⟨e1, n_x⟩ <;> subst e1
  · skip
    obtain ⟨c, hc, e1⟩ := qg
    subst e1
    refine lv_if_eq (tgt := 15) hx hb dX8_show_4 (by decide) (fun z => by first | exact absurd z (by decide) | exact absurd (by decide) z) (fun _ => ?_)
    refine lv_aload_n hx hb dX8_show_7 rfl (lv_at hl 0 rfl) ?_
    refine lv_iload_n hx hb dX8_show_8 rfl (lv_at hl 2 rfl) ?_
    refine mm_calli hA hR (va_runV (As := [.int y]) (rest := []) S (c_X8_isWorld l G M2 _ ad cl ll chg wl sp co lr sh rem nw wst wfc wfl wtn wln no op dc y (hxa.fr0 hI hZ) hI hN h18) (cwV 1 S.2.2.2.2 gX8_show_X8_isWorld rfl rfl rfl (by decide +kernel) ⟨Nat.le_of_ble_eq_true rfl, Nat.le_of_ble_eq_true rfl⟩) (mm_preV hC hA hR _ hX rfl) rfl rfl hl.1 rfl (lv_room (Nat.le_of_ble_eq_true rfl)) dX8_show_9 ⟨Nat.le_of_ble_eq_true rfl, Nat.le_of_ble_eq_true rfl⟩) (fun r3 M4 H locs hp hR => ?_)
    obtain ⟨qg, ff⟩ := hp
    have hX := ff.at hX mm_n0
    have hb4a := ff.at hb4a mm_n0
    have hb4b := ff.at hb4b mm_n0
    have hb5a := ff.at hb5a mm_n0
    have hb7a := ff.at hb7a mm_n0
    have hb8 := ff.at hb8 mm_n0
    have hb9 := ff.at hb9 mm_n0
    have hb10 := ff.at hb10 mm_n0
    have hb3 := ff.at hb3 mm_n0
    have hF := hF.tr ff mm_i0
    have hZ := hZ.tr ff mm_i0
    rcases qg with ⟨e1, qg⟩ | ⟨e1, n_y⟩ <;> subst e1
    · skip
      obtain ⟨j, hj, e1⟩ := qg
      subst e1
      refine lv_if_ne (tgt := 17) hx hb dX8_show_12 (by decide) (fun _ => ?_) (fun z => by first | exact absurd z (by decide) | exact absurd (by decide) z)
      refine lv_aload_n hx hb dX8_show_17 rfl (lv_at hl 0 rfl) ?_
      refine mm_get S hC hR (C := RX8) (T := TX8) (N := 14) (ref := "ForkWatch") (v := .ref (ad 13)) 5 hX inRX8 rfl (by decide) (by decide +kernel) (fun _ h9 => h9) rfl dX8_show_18 ?_
      refine lv_iload_n hx hb dX8_show_21 rfl (lv_at hl 1 rfl) ?_
      refine mm_iald S hC hR hb7a (j := c) (by omega) (by omega) dX8_show_22 ?_
      refine mm_eqi (hb7b c hc) ?_
      refine lv_istore_n (lv' := [(3, .int (nI (sh c))), (0, .ref (ad 0)), (1, .int (nI c)), (2, .int (nI j))]) hx hb dX8_show_23 rfl hl (by decide) rfl (fun ls hl => ?_)
      refine lv_aload_n hx hb dX8_show_24 rfl (lv_at hl 1 rfl) ?_
      refine mm_get S hC hR (C := RX8) (T := TX8) (N := 14) (ref := "ForkWatch") (v := .ref (ad 13)) 5 hX inRX8 rfl (by decide) (by decide +kernel) (fun _ h9 => h9) rfl dX8_show_25 ?_
      refine lv_iload_n hx hb dX8_show_28 rfl (lv_at hl 2 rfl) ?_
      refine lv_iload_n hx hb dX8_show_29 rfl (lv_at hl 3 rfl) ?_
      refine mm_iast S hC hR hb7a (j := c) (by omega) (by omega) dX8_show_30 (fun H locs M5 g7 f6 hR => ?_)
      have hX := f6.at hX (mm_nc (xne0 hI (by decide) (by decide) (by decide)) mm_n0)
      have hb4a := f6.at hb4a (mm_nc (xne0 hI (by decide) (by decide) (by decide)) mm_n0)
      have hb4b := f6.at hb4b (mm_nc (xne0 hI (by decide) (by decide) (by decide)) mm_n0)
      have hb5a := f6.at hb5a (mm_nc (xne0 hI (by decide) (by decide) (by decide)) mm_n0)
      have hb8 := f6.at hb8 (mm_nc (xne0 hI (by decide) (by decide) (by decide)) mm_n0)
      have hb9 := f6.at hb9 (mm_nc (xne0 hI (by decide) (by decide) (by decide)) mm_n0)
      have hb10 := f6.at hb10 (mm_nc (xne0 hI (by decide) (by decide) (by decide)) mm_n0)
      have hb3 := f6.at hb3 (mm_nc (xne0 hI (by decide) (by decide) (by decide)) mm_n0)
      have hb7a : M5 (ad 13) = some (ia G 4 (upd shf c (nI j))) := g7
      have hF := hF.tr f6 (mm_ic 0 rfl mm_i0)
      refine lv_iload_n hx hb dX8_show_31 rfl (lv_at hl 0 rfl) ?_
      have fr := xA.fr (rs := [13]) hxa hI hF (by intro z hz; simp only [List.mem_cons, List.not_mem_nil, or_false] at hz; unfold xD; omega)
      obtain ⟨u0, u1, u2, u3, u4, u5, u6, u7, u8, u9, u10, u11, u12, u13, u14⟩ := fr
      have hxa2 : xA G M5 ad cl ll chg wl sp co lr (upN sh c j) rem nw wst wfc wfl wtn wln no op dc := ⟨u0 (by decide), u1 (by decide) (by decide) (by decide), u2 (by decide) (by decide) (by decide) (by decide) (by decide), u3 (by decide), u4 (by decide) (by decide), u5 (by decide), fun c hc => u6 c hc (by simp only [List.mem_cons, List.not_mem_nil, or_false]; omega) (by simp only [List.mem_cons, List.not_mem_nil, or_false]; omega), ⟨_, hb7a, fun k hk => by unfold upN upd; by_cases e : k = c; (rw [if_pos e, if_pos e]); (rw [if_neg e, if_neg e]; exact hb7b k hk)⟩, u8 (by decide), u9 (by decide), u10 (by decide), u11 (by decide) (by decide) (by intro r hr; simp only [List.mem_cons, List.not_mem_nil, or_false] at hr; omega) (xn18 hC hR0 hxa hI h18 (by intro z hz; simp only [List.mem_cons, List.not_mem_nil, or_false] at hz; omega) (by intro z hz; simp only [List.mem_cons, List.not_mem_nil, or_false] at hz; unfold xD; omega)), u12 (by decide), u13 (by decide) (by decide) (by decide), fun j hj => u14 j hj (by intro r hr; simp only [List.mem_cons, List.not_mem_nil, or_false] at hr; omega)⟩
      have hxf : xF ad nw no M M5 := xF.of (rs := [13]) hF (by intro z hz; simp only [List.mem_cons, List.not_mem_nil, or_false] at hz; unfold xD; omega)
      exact mm_iret S hr hlocks hR (Or.inr ⟨c, j, hc, hj, rfl, rfl, rfl, hxa2, hxf⟩) dX8_show_32
    · skip
      refine lv_if_ne (tgt := 17) hx hb dX8_show_12 (by decide) (fun z => by first | exact absurd z (by decide) | exact absurd (by decide) z) (fun _ => ?_)
      refine lv_iconst (v := -1) hx hb dX8_show_15 (by decide) ?_
      have hxa2 := hxa.fr0 hI hZ
      have hxf : xF ad nw no M M4 := fun q e hq _ => hZ.at hq mm_n0
      exact mm_iret S hr hlocks hR (Or.inl ⟨rfl, fun q => n_y q.2, hxa2, hxf⟩) dX8_show_16
  · skip
    refine lv_if_eq (tgt := 15) hx hb dX8_show_4 (by decide) (fun _ => ?_) (fun z => by first | exact absurd z (by decide) | exact absurd (by decide) z)
    refine lv_iconst (v := -1) hx hb dX8_show_15 (by decide) ?_
    have hxa2 := hxa.fr0 hI hZ
    have hxf : xF ad nw no M M2 := fun q e hq _ => hZ.at hq mm_n0
    exact mm_iret S hr hlocks hR (Or.inl ⟨rfl, fun q => n_x q.1, hxa2, hxf⟩) dX8_show_16

set_option maxHeartbeats 4000000 in
set_option maxRecDepth 100000 in
/-- seen(client, k) -/
theorem c_X8_seen (l : Launch) (G : mm_G) (M : mm_M) (sz : Nat) (ad : Nat → Nat) (cl ll : Nat) (chg wl sp : Int32) (co lr : Nat → Int32) (sh : Nat → Nat) (rem : Nat → Nat → Int32) (nw : Nat) (wst : Nat → Nat → Nat → Int32) (wfc wfl wtn : Nat → Nat → Int32) (wln : Nat → Nat → Nat) (no : Nat) (op : Nat → OpT) (dc : Nat → Nat) (x y : Int32)  (hxa : xA G M ad cl ll chg wl sp co lr sh rem nw wst wfc wfl wtn wln no op dc) (hI : xI ad nw no) (hN : xN cl ll chg sh nw wfc wfl wtn wln no) (h18 : no = 0 → ad 18 = G.2.2.2.2.1) : mm_i l yX8_seen wsX8_seen ({ frames := 1, cells := 0, slots := 0, locals := 40 } : Room) G ([.ref (ad 0), .int x, .int y] : List Value) M sz (fun r M' => ((¬ ((∃ j, j < 4 ∧ x = nI j) ∧ ∃ j, j < 4 ∧ y = nI j) ∧ r = -1) ∨ ∃ c k, c < 4 ∧ k < 4 ∧ x = nI c ∧ y = nI k ∧ r = (ct (rem c) k).toInt32) ∧ xA G M' ad cl ll chg wl sp co lr sh rem nw wst wfc wfl wtn wln no op dc ∧ xF ad nw no M M') := by
  refine mm_enter (cc := cX8_seen) (maxL := 3) (ret := (some .int)) _ (by decide) rfl (Nat.le_of_ble_eq_true rfl) ?_
  intro p0 e0 s m0 be0 me0 c0 ls S hr hlocks hname hA hC hR hl
  have hx := S.1
  have hb := S.2.1
  have hl : lv_has ls 3 [(0, .ref (ad 0)), (1, .int x), (2, .int y)] := hl
  have inRX5 : ∀ w ∈ wsX50, w ∈ wsX8_seen := by decide +kernel
  have inRX8 : ∀ w ∈ wsX80, w ∈ wsX8_seen := by decide +kernel
  have hF : mm_fr [] M M := mm_fr.rf
  have hR0 := hR
  obtain ⟨hX, hb1, hb2, ⟨dg, hb3⟩, ⟨lmc, lf, hb4a, hb4b, hb4c⟩, ⟨rf, hb5a, hb5b⟩, hb6, ⟨shf, hb7a, hb7b⟩, hb8, hb9, hb10, hb11, ⟨dnf, hb12a, hb12b⟩, ⟨sfc, sfl, hb13⟩, hb14⟩ := id hxa
  have hZ : mm_fr [] M M := mm_fr.rf
  have hnw := hN.2.2.2.2.1
  refine lv_iload_n hx hb dX8_seen_0 rfl (lv_at hl 1 rfl) ?_
  refine mm_calli hA hR (va_runS (As := [.int x]) (rest := []) S (c_X8_isClient l G M _ x) (va_cwS 1 S.2.2.2.2 gX8_seen_X8_isClient rfl rfl rfl (by decide +kernel) ⟨Nat.le_of_ble_eq_true rfl, Nat.le_of_ble_eq_true rfl⟩) (mm_preS hC hA hR _) rfl rfl hl.1 rfl (lv_room (Nat.le_of_ble_eq_true rfl)) dX8_seen_1 ⟨Nat.le_of_ble_eq_true rfl, Nat.le_of_ble_eq_true rfl⟩) (fun r8 M9 H locs hp hR => ?_)
  obtain ⟨qg, ff⟩ := hp
  have hX := ff.at hX mm_n0
  have hb4a := ff.at hb4a mm_n0
  have hb4b := ff.at hb4b mm_n0
  have hb5a := ff.at hb5a mm_n0
  have hb7a := ff.at hb7a mm_n0
  have hb8 := ff.at hb8 mm_n0
  have hb9 := ff.at hb9 mm_n0
  have hb10 := ff.at hb10 mm_n0
  have hb3 := ff.at hb3 mm_n0
  have hF := hF.tr ff mm_i0
  have hZ := hZ.tr ff mm_i0
  rcases qg with ⟨e1, qg⟩ | ⟨e1, n_x⟩ <;> subst e1
  · skip
    obtain ⟨c, hc, e1⟩ := qg
    subst e1
    refine lv_if_eq (tgt := 28) hx hb dX8_seen_4 (by decide) (fun z => by first | exact absurd z (by decide) | exact absurd (by decide) z) (fun _ => ?_)
    refine lv_iload_n hx hb dX8_seen_7 rfl (lv_at hl 2 rfl) ?_
    refine mm_calli hA hR (va_runS (As := [.int y]) (rest := []) S (c_X8_isClient l G M9 _ y) (va_cwS 1 S.2.2.2.2 gX8_seen_X8_isClient rfl rfl rfl (by decide +kernel) ⟨Nat.le_of_ble_eq_true rfl, Nat.le_of_ble_eq_true rfl⟩) (mm_preS hC hA hR _) rfl rfl hl.1 rfl (lv_room (Nat.le_of_ble_eq_true rfl)) dX8_seen_8 ⟨Nat.le_of_ble_eq_true rfl, Nat.le_of_ble_eq_true rfl⟩) (fun r10 M11 H locs hp hR => ?_)
    obtain ⟨qg, ff⟩ := hp
    have hX := ff.at hX mm_n0
    have hb4a := ff.at hb4a mm_n0
    have hb4b := ff.at hb4b mm_n0
    have hb5a := ff.at hb5a mm_n0
    have hb7a := ff.at hb7a mm_n0
    have hb8 := ff.at hb8 mm_n0
    have hb9 := ff.at hb9 mm_n0
    have hb10 := ff.at hb10 mm_n0
    have hb3 := ff.at hb3 mm_n0
    have hF := hF.tr ff mm_i0
    have hZ := hZ.tr ff mm_i0
    rcases qg with ⟨e1, qg⟩ | ⟨e1, n_y⟩ <;> subst e1
    · skip
      obtain ⟨k, hk, e1⟩ := qg
      subst e1
      refine lv_if_eq (tgt := 28) hx hb dX8_seen_11 (by decide) (fun z => by first | exact absurd z (by decide) | exact absurd (by decide) z) (fun _ => ?_)
      obtain ⟨k12a, k12b⟩ := hb6 c (by omega)
      have k12a := hZ.at k12a mm_n0
      have k12b := hZ.at k12b mm_n0
      refine lv_aload_n hx hb dX8_seen_14 rfl (lv_at hl 0 rfl) ?_
      refine mm_get S hC hR (C := RX8) (T := TX8) (N := 14) (ref := "ForkWatch") (v := .ref (ad 12)) 4 hX inRX8 rfl (by decide) (by decide +kernel) (fun _ h9 => h9) rfl dX8_seen_15 ?_
      refine lv_iload_n hx hb dX8_seen_18 rfl (lv_at hl 1 rfl) ?_
      refine mm_sald S hC hR hb5a (j := c) (v := .ref (ad (24 + 2 * c))) (by omega) (by omega) (by rw [hb5b _ (by omega)]; rfl) dX8_seen_19 ?_
      refine lv_iload_n hx hb dX8_seen_20 rfl (lv_at hl 2 rfl) ?_
      refine mm_calll hA hR (va_runV (As := [.int (nI k)]) (rest := []) S (c_X5_countOf l G M11 _ (ad (24 + 2 * c)) (ad (25 + 2 * c)) k (rem c) k12a k12b hk) (cwV 1 S.2.2.2.2 gX8_seen_X5_countOf rfl rfl rfl (by decide +kernel) ⟨Nat.le_of_ble_eq_true rfl, Nat.le_of_ble_eq_true rfl⟩) (mm_preV hC hA hR _ k12a rfl) rfl rfl hl.1 rfl (lv_room (Nat.le_of_ble_eq_true rfl)) dX8_seen_21 ⟨Nat.le_of_ble_eq_true rfl, Nat.le_of_ble_eq_true rfl⟩) (fun r13 M14 H locs hp hR => ?_)
      obtain ⟨e1, ff⟩ := hp
      subst e1
      have hX := ff.at hX mm_n0
      have hb4a := ff.at hb4a mm_n0
      have hb4b := ff.at hb4b mm_n0
      have hb5a := ff.at hb5a mm_n0
      have hb7a := ff.at hb7a mm_n0
      have hb8 := ff.at hb8 mm_n0
      have hb9 := ff.at hb9 mm_n0
      have hb10 := ff.at hb10 mm_n0
      have hb3 := ff.at hb3 mm_n0
      have k12a := ff.at k12a mm_n0
      have k12b := ff.at k12b mm_n0
      have hF := hF.tr ff mm_i0
      have hZ := hZ.tr ff mm_i0
      refine lv_l2i hx hb dX8_seen_24 rfl ?_
      refine lv_goto (tgt := 29) hx hb dX8_seen_25 (by decide) ?_
      have hxa2 := hxa.fr0 hI hZ
      have hxf : xF ad nw no M M14 := fun q e hq _ => hZ.at hq mm_n0
      exact mm_iret S hr hlocks hR ⟨Or.inr ⟨c, k, hc, hk, rfl, rfl, rfl⟩, hxa2, hxf⟩ dX8_seen_29
    · skip
      refine lv_if_eq (tgt := 28) hx hb dX8_seen_11 (by decide) (fun _ => ?_) (fun z => by first | exact absurd z (by decide) | exact absurd (by decide) z)
      refine lv_iconst (v := -1) hx hb dX8_seen_28 (by decide) ?_
      have hxa2 := hxa.fr0 hI hZ
      have hxf : xF ad nw no M M11 := fun q e hq _ => hZ.at hq mm_n0
      exact mm_iret S hr hlocks hR ⟨Or.inl ⟨fun q => n_y q.2, rfl⟩, hxa2, hxf⟩ dX8_seen_29
  · skip
    refine lv_if_eq (tgt := 28) hx hb dX8_seen_4 (by decide) (fun _ => ?_) (fun z => by first | exact absurd z (by decide) | exact absurd (by decide) z)
    refine lv_iconst (v := -1) hx hb dX8_seen_28 (by decide) ?_
    have hxa2 := hxa.fr0 hI hZ
    have hxf : xF ad nw no M M9 := fun q e hq _ => hZ.at hq mm_n0
    exact mm_iret S hr hlocks hR ⟨Or.inl ⟨fun q => n_x q.1, rfl⟩, hxa2, hxf⟩ dX8_seen_29

set_option maxHeartbeats 4000000 in
set_option maxRecDepth 100000 in
/-- exchange(a, b) -/
theorem c_X8_exchange (l : Launch) (G : mm_G) (M : mm_M) (sz : Nat) (ad : Nat → Nat) (cl ll : Nat) (chg wl sp : Int32) (co lr : Nat → Int32) (sh : Nat → Nat) (rem : Nat → Nat → Int32) (nw : Nat) (wst : Nat → Nat → Nat → Int32) (wfc wfl wtn : Nat → Nat → Int32) (wln : Nat → Nat → Nat) (no : Nat) (op : Nat → OpT) (dc : Nat → Nat) (x y : Int32)  (hxa : xA G M ad cl ll chg wl sp co lr sh rem nw wst wfc wfl wtn wln no op dc) (hI : xI ad nw no) (hN : xN cl ll chg sh nw wfc wfl wtn wln no) (h18 : no = 0 → ad 18 = G.2.2.2.2.1) : mm_i l yX8_exchange wsX8_exchange ({ frames := 3, cells := 0, slots := 0, locals := 90 } : Room) G ([.ref (ad 0), .int x, .int y] : List Value) M sz (fun r M' => ((¬ ((∃ j, j < 4 ∧ x = nI j) ∧ (∃ j, j < 4 ∧ y = nI j) ∧ x ≠ y) ∧ r = -1) ∨ ∃ c k, c < 4 ∧ k < 4 ∧ c ≠ k ∧ x = nI c ∧ y = nI k ∧ ((r = 0 ∧ (na (rem c) (rem k) ∨ na (rem k) (rem c))) ∨ (r = 1 ∧ ¬ (na (rem c) (rem k) ∨ na (rem k) (rem c))))) ∧ xA G M' ad cl ll chg wl sp co lr sh rem nw wst wfc wfl wtn wln no op dc ∧ xF ad nw no M M') := by
  refine mm_enter (cc := cX8_exchange) (maxL := 3) (ret := (some .int)) _ (by decide) rfl (Nat.le_of_ble_eq_true rfl) ?_
  intro p0 e0 s m0 be0 me0 c0 ls S hr hlocks hname hA hC hR hl
  have hx := S.1
  have hb := S.2.1
  have hl : lv_has ls 3 [(0, .ref (ad 0)), (1, .int x), (2, .int y)] := hl
  have inRX5 : ∀ w ∈ wsX50, w ∈ wsX8_exchange := by decide +kernel
  have inRX8 : ∀ w ∈ wsX80, w ∈ wsX8_exchange := by decide +kernel
  have hF : mm_fr [] M M := mm_fr.rf
  have hR0 := hR
  obtain ⟨hX, hb1, hb2, ⟨dg, hb3⟩, ⟨lmc, lf, hb4a, hb4b, hb4c⟩, ⟨rf, hb5a, hb5b⟩, hb6, ⟨shf, hb7a, hb7b⟩, hb8, hb9, hb10, hb11, ⟨dnf, hb12a, hb12b⟩, ⟨sfc, sfl, hb13⟩, hb14⟩ := id hxa
  have hZ : mm_fr [] M M := mm_fr.rf
  have hnw := hN.2.2.2.2.1
  refine lv_iload_n hx hb dX8_exchange_0 rfl (lv_at hl 1 rfl) ?_
  refine mm_calli hA hR (va_runS (As := [.int x]) (rest := []) S (c_X8_isClient l G M _ x) (va_cwS 1 S.2.2.2.2 gX8_exchange_X8_isClient rfl rfl rfl (by decide +kernel) ⟨Nat.le_of_ble_eq_true rfl, Nat.le_of_ble_eq_true rfl⟩) (mm_preS hC hA hR _) rfl rfl hl.1 rfl (lv_room (Nat.le_of_ble_eq_true rfl)) dX8_exchange_1 ⟨Nat.le_of_ble_eq_true rfl, Nat.le_of_ble_eq_true rfl⟩) (fun r15 M16 H locs hp hR => ?_)
  obtain ⟨qg, ff⟩ := hp
  have hX := ff.at hX mm_n0
  have hb4a := ff.at hb4a mm_n0
  have hb4b := ff.at hb4b mm_n0
  have hb5a := ff.at hb5a mm_n0
  have hb7a := ff.at hb7a mm_n0
  have hb8 := ff.at hb8 mm_n0
  have hb9 := ff.at hb9 mm_n0
  have hb10 := ff.at hb10 mm_n0
  have hb3 := ff.at hb3 mm_n0
  have hF := hF.tr ff mm_i0
  have hZ := hZ.tr ff mm_i0
  rcases qg with ⟨e1, qg⟩ | ⟨e1, n_x⟩ <;> subst e1
  · skip
    obtain ⟨c, hc, e1⟩ := qg
    subst e1
    refine lv_if_eq (tgt := 19) hx hb dX8_exchange_4 (by decide) (fun z => by first | exact absurd z (by decide) | exact absurd (by decide) z) (fun _ => ?_)
    refine lv_iload_n hx hb dX8_exchange_7 rfl (lv_at hl 2 rfl) ?_
    refine mm_calli hA hR (va_runS (As := [.int y]) (rest := []) S (c_X8_isClient l G M16 _ y) (va_cwS 1 S.2.2.2.2 gX8_exchange_X8_isClient rfl rfl rfl (by decide +kernel) ⟨Nat.le_of_ble_eq_true rfl, Nat.le_of_ble_eq_true rfl⟩) (mm_preS hC hA hR _) rfl rfl hl.1 rfl (lv_room (Nat.le_of_ble_eq_true rfl)) dX8_exchange_8 ⟨Nat.le_of_ble_eq_true rfl, Nat.le_of_ble_eq_true rfl⟩) (fun r17 M18 H locs hp hR => ?_)
    obtain ⟨qg, ff⟩ := hp
    have hX := ff.at hX mm_n0
    have hb4a := ff.at hb4a mm_n0
    have hb4b := ff.at hb4b mm_n0
    have hb5a := ff.at hb5a mm_n0
    have hb7a := ff.at hb7a mm_n0
    have hb8 := ff.at hb8 mm_n0
    have hb9 := ff.at hb9 mm_n0
    have hb10 := ff.at hb10 mm_n0
    have hb3 := ff.at hb3 mm_n0
    have hF := hF.tr ff mm_i0
    have hZ := hZ.tr ff mm_i0
    rcases qg with ⟨e1, qg⟩ | ⟨e1, n_y⟩ <;> subst e1
    · skip
      obtain ⟨k, hk, e1⟩ := qg
      subst e1
      refine lv_if_eq (tgt := 19) hx hb dX8_exchange_11 (by decide) (fun z => by first | exact absurd z (by decide) | exact absurd (by decide) z) (fun _ => ?_)
      refine lv_iload_n hx hb dX8_exchange_14 rfl (lv_at hl 1 rfl) ?_
      refine lv_iload_n hx hb dX8_exchange_15 rfl (lv_at hl 2 rfl) ?_
      refine lv_icmp_ne (tgt := 21) hx hb dX8_exchange_16 (by decide) (fun c3 => ?_) (fun c3 => ?_)
      · have c3 : c ≠ k := fun z => c3 (congrArg nI z)
        obtain ⟨k19a, k19b⟩ := hb6 c (by omega)
        have k19a := hZ.at k19a mm_n0
        have k19b := hZ.at k19b mm_n0
        obtain ⟨k20a, k20b⟩ := hb6 k (by omega)
        have k20a := hZ.at k20a mm_n0
        have k20b := hZ.at k20b mm_n0
        refine lv_aload_n hx hb dX8_exchange_21 rfl (lv_at hl 0 rfl) ?_
        refine mm_get S hC hR (C := RX8) (T := TX8) (N := 14) (ref := "ForkWatch") (v := .ref (ad 12)) 4 hX inRX8 rfl (by decide) (by decide +kernel) (fun _ h9 => h9) rfl dX8_exchange_22 ?_
        refine lv_iload_n hx hb dX8_exchange_25 rfl (lv_at hl 1 rfl) ?_
        refine mm_sald S hC hR hb5a (j := c) (v := .ref (ad (24 + 2 * c))) (by omega) (by omega) (by rw [hb5b _ (by omega)]; rfl) dX8_exchange_26 ?_
        refine lv_aload_n hx hb dX8_exchange_27 rfl (lv_at hl 0 rfl) ?_
        refine mm_get S hC hR (C := RX8) (T := TX8) (N := 14) (ref := "ForkWatch") (v := .ref (ad 12)) 4 hX inRX8 rfl (by decide) (by decide +kernel) (fun _ h9 => h9) rfl dX8_exchange_28 ?_
        refine lv_iload_n hx hb dX8_exchange_31 rfl (lv_at hl 2 rfl) ?_
        refine mm_sald S hC hR hb5a (j := k) (v := .ref (ad (24 + 2 * k))) (by omega) (by omega) (by rw [hb5b _ (by omega)]; rfl) dX8_exchange_32 ?_
        refine mm_calli hA hR (va_runV (As := [.ref (ad (24 + 2 * k))]) (rest := []) S (c_X5_isInLineWith l G M18 _ (ad (24 + 2 * c)) (ad (25 + 2 * c)) (ad (24 + 2 * k)) (ad (25 + 2 * k)) (rem c) (rem k) k19a k19b k20a k20b) (cwV 1 S.2.2.2.2 gX8_exchange_X5_isInLineWith rfl rfl rfl (by decide +kernel) ⟨Nat.le_of_ble_eq_true rfl, Nat.le_of_ble_eq_true rfl⟩) (mm_preV hC hA hR _ k19a rfl) rfl rfl hl.1 rfl (lv_room (Nat.le_of_ble_eq_true rfl)) dX8_exchange_33 ⟨Nat.le_of_ble_eq_true rfl, Nat.le_of_ble_eq_true rfl⟩) (fun r21 M22 H locs hp hR => ?_)
        obtain ⟨q1, ff⟩ := hp
        have hX := ff.at hX mm_n0
        have hb4a := ff.at hb4a mm_n0
        have hb4b := ff.at hb4b mm_n0
        have hb5a := ff.at hb5a mm_n0
        have hb7a := ff.at hb7a mm_n0
        have hb8 := ff.at hb8 mm_n0
        have hb9 := ff.at hb9 mm_n0
        have hb10 := ff.at hb10 mm_n0
        have hb3 := ff.at hb3 mm_n0
        have k19a := ff.at k19a mm_n0
        have k19b := ff.at k19b mm_n0
        have k20a := ff.at k20a mm_n0
        have k20b := ff.at k20b mm_n0
        have hF := hF.tr ff mm_i0
        have hZ := hZ.tr ff mm_i0
        rcases q1 with ⟨e1, q1⟩ | ⟨e1, q1⟩ <;> subst e1
        · skip
          refine lv_if_eq (tgt := 43) hx hb dX8_exchange_36 (by decide) (fun z => by first | exact absurd z (by decide) | exact absurd (by decide) z) (fun _ => ?_)
          refine lv_iconst (v := nI 0) hx hb dX8_exchange_39 (by decide) ?_
          refine lv_goto (tgt := 44) hx hb dX8_exchange_40 (by decide) ?_
          have hxa2 := hxa.fr0 hI hZ
          have hxf : xF ad nw no M M22 := fun q e hq _ => hZ.at hq mm_n0
          exact mm_iret S hr hlocks hR ⟨Or.inr ⟨c, k, hc, hk, c3, rfl, rfl, Or.inl ⟨rfl, q1⟩⟩, hxa2, hxf⟩ dX8_exchange_44
        · skip
          refine lv_if_eq (tgt := 43) hx hb dX8_exchange_36 (by decide) (fun _ => ?_) (fun z => by first | exact absurd z (by decide) | exact absurd (by decide) z)
          refine lv_iconst (v := nI 1) hx hb dX8_exchange_43 (by decide) ?_
          have hxa2 := hxa.fr0 hI hZ
          have hxf : xF ad nw no M M22 := fun q e hq _ => hZ.at hq mm_n0
          exact mm_iret S hr hlocks hR ⟨Or.inr ⟨c, k, hc, hk, c3, rfl, rfl, Or.inr ⟨rfl, q1⟩⟩, hxa2, hxf⟩ dX8_exchange_44
      · have c3 : c = k := (nI_eq (a := c) (b := k) (by omega) (by omega)).mp c3
        refine lv_iconst (v := -1) hx hb dX8_exchange_19 (by decide) ?_
        have hxa2 := hxa.fr0 hI hZ
        have hxf : xF ad nw no M M18 := fun q e hq _ => hZ.at hq mm_n0
        exact mm_iret S hr hlocks hR ⟨Or.inl ⟨fun q => q.2.2 (by rw [c3]), rfl⟩, hxa2, hxf⟩ dX8_exchange_20
    · skip
      refine lv_if_eq (tgt := 19) hx hb dX8_exchange_11 (by decide) (fun _ => ?_) (fun z => by first | exact absurd z (by decide) | exact absurd (by decide) z)
      refine lv_iconst (v := -1) hx hb dX8_exchange_19 (by decide) ?_
      have hxa2 := hxa.fr0 hI hZ
      have hxf : xF ad nw no M M18 := fun q e hq _ => hZ.at hq mm_n0
      exact mm_iret S hr hlocks hR ⟨Or.inl ⟨fun q => n_y q.2.1, rfl⟩, hxa2, hxf⟩ dX8_exchange_20
  · skip
    refine lv_if_eq (tgt := 19) hx hb dX8_exchange_4 (by decide) (fun _ => ?_) (fun z => by first | exact absurd z (by decide) | exact absurd (by decide) z)
    refine lv_iconst (v := -1) hx hb dX8_exchange_19 (by decide) ?_
    have hxa2 := hxa.fr0 hI hZ
    have hxf : xF ad nw no M M16 := fun q e hq _ => hZ.at hq mm_n0
    exact mm_iret S hr hlocks hR ⟨Or.inl ⟨fun q => n_x q.1, rfl⟩, hxa2, hxf⟩ dX8_exchange_20
