set_option maxHeartbeats 4000000 in
set_option maxRecDepth 100000 in
/-- statement(world, client, i) -/
theorem c_X8_statement (l : Launch) (G : mm_G) (M : mm_M) (sz : Nat) (ad : Nat → Nat) (cl ll : Nat) (chg wl sp : Int32) (co lr : Nat → Int32) (sh : Nat → Nat) (rem : Nat → Nat → Int32) (nw : Nat) (wst : Nat → Nat → Nat → Int32) (wfc wfl wtn : Nat → Nat → Int32) (wln : Nat → Nat → Nat) (no : Nat) (op : Nat → OpT) (dc : Nat → Nat) (x y z : Int32)  (hxa : xA G M ad cl ll chg wl sp co lr sh rem nw wst wfc wfl wtn wln no op dc) (hI : xI ad nw no) (hN : xN cl ll chg sh nw wfc wfl wtn wln no) (h18 : no = 0 → ad 18 = G.2.2.2.2.1) : mm_i l yX8_statement wsX8_statement ({ frames := 3, cells := 0, slots := 0, locals := 90 } : Room) G ([.ref (ad 0), .int x, .int y, .int z] : List Value) M sz (fun r M' => ((¬ ((∃ j, j < 4 ∧ y = nI j) ∧ (∃ j, j < 84 ∧ z = nI j) ∧ (x = -1 ∨ ∃ j, j < nw ∧ x = nI j)) ∧ r = -1) ∨ (∃ c i, c < 4 ∧ i < 84 ∧ x = -1 ∧ y = nI c ∧ z = nI i ∧ r = rem c i) ∨ ∃ j c i, j < nw ∧ c < 4 ∧ i < 84 ∧ x = nI j ∧ y = nI c ∧ z = nI i ∧ r = wst j c i) ∧ xA G M' ad cl ll chg wl sp co lr sh rem nw wst wfc wfl wtn wln no op dc ∧ xF ad nw no M M') := by
  refine mm_enter (cc := cX8_statement) (maxL := 4) (ret := (some .int)) _ (by decide) rfl (Nat.le_of_ble_eq_true rfl) ?_
  intro p0 e0 s m0 be0 me0 c0 ls S hr hlocks hname hA hC hR hl
  have hx := S.1
  have hb := S.2.1
  have hl : lv_has ls 4 [(0, .ref (ad 0)), (1, .int x), (2, .int y), (3, .int z)] := hl
  have inRJx4a65c : ∀ w ∈ wsJx4a65c0, w ∈ wsX8_statement := by decide +kernel
  have inRX5 : ∀ w ∈ wsX50, w ∈ wsX8_statement := by decide +kernel
  have inRX7 : ∀ w ∈ wsX70, w ∈ wsX8_statement := by decide +kernel
  have inRX8 : ∀ w ∈ wsX80, w ∈ wsX8_statement := by decide +kernel
  have hF : mm_fr [] M M := mm_fr.rf
  have hR0 := hR
  obtain ⟨hX, hb1, hb2, ⟨dg, hb3⟩, ⟨lmc, lf, hb4a, hb4b, hb4c⟩, ⟨rf, hb5a, hb5b⟩, hb6, ⟨shf, hb7a, hb7b⟩, hb8, hb9, hb10, hb11, ⟨dnf, hb12a, hb12b⟩, ⟨sfc, sfl, hb13⟩, hb14⟩ := id hxa
  have hZ : mm_fr [] M M := mm_fr.rf
  have hnw := hN.2.2.2.2.1
  refine lv_iload_n hx hb dX8_statement_0 rfl (lv_at hl 2 rfl) ?_
  refine mm_calli hA hR (va_runS (As := [.int y]) (rest := []) S (c_X8_isClient l G M _ y) (va_cwS 1 S.2.2.2.2 gX8_statement_X8_isClient rfl rfl rfl (by decide +kernel) ⟨Nat.le_of_ble_eq_true rfl, Nat.le_of_ble_eq_true rfl⟩) (mm_preS hC hA hR _) rfl rfl hl.1 rfl (lv_room (Nat.le_of_ble_eq_true rfl)) dX8_statement_1 ⟨Nat.le_of_ble_eq_true rfl, Nat.le_of_ble_eq_true rfl⟩) (fun r1 M2 H locs hp hR => ?_)
  obtain ⟨qg, ff⟩ := hp
  have hX := ff.at hX mm_n0
  have hb4a := ff.at hb4a mm_n0
  have hb4b := ff.at hb4b mm_n0
  have hb5a := ff.at hb5a mm_n0
  have hb7a := ff.at hb7a mm_n0
  have hb8 := ff.at hb8 mm_n0
  have hb9 := ff.at hb9 mm_n0
  have hb10 := ff.at hb10 mm_n0
  have hb3 := ff.at hb3 mm_n0
  have hF := hF.tr ff mm_i0
  have hZ := hZ.tr ff mm_i0
  rcases qg with ⟨e1, qg⟩ | ⟨e1, n_y⟩ <;> subst e1
  · skip
    obtain ⟨c, hc, e1⟩ := qg
    subst e1
    refine lv_if_eq (tgt := 14) hx hb dX8_statement_4 (by decide) (fun z => by first | exact absurd z (by decide) | exact absurd (by decide) z) (fun _ => ?_)
    refine lv_iload_n hx hb dX8_statement_7 rfl (lv_at hl 3 rfl) ?_
    refine mm_calli hA hR (va_runS (As := [.int z]) (rest := []) S (c_X8_isStatementByte l G M2 _ z) (va_cwS 1 S.2.2.2.2 gX8_statement_X8_isStatementByte rfl rfl rfl (by decide +kernel) ⟨Nat.le_of_ble_eq_true rfl, Nat.le_of_ble_eq_true rfl⟩) (mm_preS hC hA hR _) rfl rfl hl.1 rfl (lv_room (Nat.le_of_ble_eq_true rfl)) dX8_statement_8 ⟨Nat.le_of_ble_eq_true rfl, Nat.le_of_ble_eq_true rfl⟩) (fun r3 M4 H locs hp hR => ?_)
    obtain ⟨qg, ff⟩ := hp
    have hX := ff.at hX mm_n0
    have hb4a := ff.at hb4a mm_n0
    have hb4b := ff.at hb4b mm_n0
    have hb5a := ff.at hb5a mm_n0
    have hb7a := ff.at hb7a mm_n0
    have hb8 := ff.at hb8 mm_n0
    have hb9 := ff.at hb9 mm_n0
    have hb10 := ff.at hb10 mm_n0
    have hb3 := ff.at hb3 mm_n0
    have hF := hF.tr ff mm_i0
    have hZ := hZ.tr ff mm_i0
    rcases qg with ⟨e1, qg⟩ | ⟨e1, n_z⟩ <;> subst e1
    · skip
      obtain ⟨i, hi, e1⟩ := qg
      subst e1
      refine lv_if_ne (tgt := 16) hx hb dX8_statement_11 (by decide) (fun _ => ?_) (fun z => by first | exact absurd z (by decide) | exact absurd (by decide) z)
      refine lv_iload_n hx hb dX8_statement_16 rfl (lv_at hl 1 rfl) ?_
      refine lv_iconst (v := -1) hx hb dX8_statement_17 (by decide) ?_
      refine lv_icmp_ne (tgt := 33) hx hb dX8_statement_18 (by decide) (fun c3 => ?_) (fun c3 => ?_)
      · skip
        refine lv_aload_n hx hb dX8_statement_33 rfl (lv_at hl 0 rfl) ?_
        refine lv_iload_n hx hb dX8_statement_34 rfl (lv_at hl 1 rfl) ?_
        refine mm_calli hA hR (va_runV (As := [.int x]) (rest := []) S (c_X8_isWorld l G M4 _ ad cl ll chg wl sp co lr sh rem nw wst wfc wfl wtn wln no op dc x (hxa.fr0 hI hZ) hI hN h18) (cwV 1 S.2.2.2.2 gX8_statement_X8_isWorld rfl rfl rfl (by decide +kernel) ⟨Nat.le_of_ble_eq_true rfl, Nat.le_of_ble_eq_true rfl⟩) (mm_preV hC hA hR _ hX rfl) rfl rfl hl.1 rfl (lv_room (Nat.le_of_ble_eq_true rfl)) dX8_statement_35 ⟨Nat.le_of_ble_eq_true rfl, Nat.le_of_ble_eq_true rfl⟩) (fun r5 M6 H locs hp hR => ?_)
        obtain ⟨qg, ff⟩ := hp
        have hX := ff.at hX mm_n0
        have hb4a := ff.at hb4a mm_n0
        have hb4b := ff.at hb4b mm_n0
        have hb5a := ff.at hb5a mm_n0
        have hb7a := ff.at hb7a mm_n0
        have hb8 := ff.at hb8 mm_n0
        have hb9 := ff.at hb9 mm_n0
        have hb10 := ff.at hb10 mm_n0
        have hb3 := ff.at hb3 mm_n0
        have hF := hF.tr ff mm_i0
        have hZ := hZ.tr ff mm_i0
        rcases qg with ⟨e1, qg⟩ | ⟨e1, n_x⟩ <;> subst e1
        · skip
          obtain ⟨j, hj, e1⟩ := qg
          subst e1
          refine lv_if_eq (tgt := 65) hx hb dX8_statement_38 (by decide) (fun z => by first | exact absurd z (by decide) | exact absurd (by decide) z) (fun _ => ?_)
          refine lv_aload_n hx hb dX8_statement_41 rfl (lv_at hl 0 rfl) ?_
          refine mm_get S hC hR (C := RX8) (T := TX8) (N := 14) (ref := "ForkWatch") (v := .ref (ad 10)) 3 hX inRX8 rfl (by decide) (by decide +kernel) (fun _ h9 => h9) rfl dX8_statement_42 ?_
          refine lv_iload_n hx hb dX8_statement_45 rfl (lv_at hl 1 rfl) ?_
          refine mm_callq hA hR (va_runV (As := [.int (nI j)]) (rest := []) S (c_Jx4a65c_get_915e3 l G M6 _ (ad 10) (ad 11) nw 10 j lmc lf hb4a hb4b hj (by omega) (by decide)) (cwV 1 S.2.2.2.2 gX8_statement_Jx4a65c_get_915e3 rfl rfl rfl (by decide +kernel) ⟨Nat.le_of_ble_eq_true rfl, Nat.le_of_ble_eq_true rfl⟩) (mm_preV hC hA hR _ hb4a rfl) rfl rfl hl.1 rfl (lv_room (Nat.le_of_ble_eq_true rfl)) dX8_statement_46 ⟨Nat.le_of_ble_eq_true rfl, Nat.le_of_ble_eq_true rfl⟩) (fun r7 M8 H locs hp hR => ?_)
          obtain ⟨e1, ff⟩ := hp
          rw [hb4c j hj] at e1
          subst e1
          have hX := ff.at hX mm_n0
          have hb4a := ff.at hb4a mm_n0
          have hb4b := ff.at hb4b mm_n0
          have hb5a := ff.at hb5a mm_n0
          have hb7a := ff.at hb7a mm_n0
          have hb8 := ff.at hb8 mm_n0
          have hb9 := ff.at hb9 mm_n0
          have hb10 := ff.at hb10 mm_n0
          have hb3 := ff.at hb3 mm_n0
          have hF := hF.tr ff mm_i0
          have hZ := hZ.tr ff mm_i0
          have hwo := (hb14 j hj).fr0 hZ
          obtain ⟨hw0, ⟨tf, hw1, htf⟩, hst, hw2, hw3, hw4, hw5, hw6⟩ := id hwo
          refine mm_cast (r := (RX7, TX7, 3)) S hC hR hw0 rfl (by decide +kernel) dX8_statement_49 ?_
          obtain ⟨k9a, k9b⟩ := hst c (by omega)
          refine mm_get S hC hR (C := RX7) (T := TX7) (N := 3) (ref := "ForkWatch$World") (v := .ref (xW ad j 1)) 0 hw0 inRX7 rfl (by decide) (by decide +kernel) (fun _ h9 => h9) rfl dX8_statement_52 ?_
          refine lv_iload_n hx hb dX8_statement_55 rfl (lv_at hl 2 rfl) ?_
          refine mm_sald S hC hR hw1 (j := c) (v := .ref (xW ad j (7 + 2 * c))) (by omega) (by omega) (by rw [htf _ (by omega)]; rfl) dX8_statement_56 ?_
          refine mm_get S hC hR (C := RX5) (T := TX5) (N := 1) (ref := "ForkWatch$Statement") (v := .ref (xW ad j (8 + 2 * c))) 0 k9a inRX5 rfl (by decide) (by decide +kernel) (fun _ h9 => h9) rfl dX8_statement_57 ?_
          refine lv_iload_n hx hb dX8_statement_60 rfl (lv_at hl 3 rfl) ?_
          refine mm_iald S hC hR k9b (j := i) (by omega) (by omega) dX8_statement_61 ?_
          refine lv_goto (tgt := 66) hx hb dX8_statement_62 (by decide) ?_
          have hxa2 := hxa.fr0 hI hZ
          have hxf : xF ad nw no M M8 := fun q e hq _ => hZ.at hq mm_n0
          exact mm_iret S hr hlocks hR ⟨Or.inr (Or.inr ⟨j, c, i, hj, hc, hi, rfl, rfl, rfl, rfl⟩), hxa2, hxf⟩ dX8_statement_66
        · skip
          refine lv_if_eq (tgt := 65) hx hb dX8_statement_38 (by decide) (fun _ => ?_) (fun z => by first | exact absurd z (by decide) | exact absurd (by decide) z)
          refine lv_iconst (v := -1) hx hb dX8_statement_65 (by decide) ?_
          have hxa2 := hxa.fr0 hI hZ
          have hxf : xF ad nw no M M6 := fun q e hq _ => hZ.at hq mm_n0
          exact mm_iret S hr hlocks hR ⟨Or.inl ⟨fun q => q.2.2.elim c3 n_x, rfl⟩, hxa2, hxf⟩ dX8_statement_66
      · skip
        obtain ⟨k10a, k10b⟩ := hb6 c (by omega)
        have k10a := hZ.at k10a mm_n0
        have k10b := hZ.at k10b mm_n0
        refine lv_aload_n hx hb dX8_statement_21 rfl (lv_at hl 0 rfl) ?_
        refine mm_get S hC hR (C := RX8) (T := TX8) (N := 14) (ref := "ForkWatch") (v := .ref (ad 12)) 4 hX inRX8 rfl (by decide) (by decide +kernel) (fun _ h9 => h9) rfl dX8_statement_22 ?_
        refine lv_iload_n hx hb dX8_statement_25 rfl (lv_at hl 2 rfl) ?_
        refine mm_sald S hC hR hb5a (j := c) (v := .ref (ad (24 + 2 * c))) (by omega) (by omega) (by rw [hb5b _ (by omega)]; rfl) dX8_statement_26 ?_
        refine mm_get S hC hR (C := RX5) (T := TX5) (N := 1) (ref := "ForkWatch$Statement") (v := .ref (ad (25 + 2 * c))) 0 k10a inRX5 rfl (by decide) (by decide +kernel) (fun _ h9 => h9) rfl dX8_statement_27 ?_
        refine lv_iload_n hx hb dX8_statement_30 rfl (lv_at hl 3 rfl) ?_
        refine mm_iald S hC hR k10b (j := i) (by omega) (by omega) dX8_statement_31 ?_
        have hxa2 := hxa.fr0 hI hZ
        have hxf : xF ad nw no M M4 := fun q e hq _ => hZ.at hq mm_n0
        exact mm_iret S hr hlocks hR ⟨Or.inr (Or.inl ⟨c, i, hc, hi, c3, rfl, rfl, rfl⟩), hxa2, hxf⟩ dX8_statement_32
    · skip
      refine lv_if_ne (tgt := 16) hx hb dX8_statement_11 (by decide) (fun z => by first | exact absurd z (by decide) | exact absurd (by decide) z) (fun _ => ?_)
      refine lv_iconst (v := -1) hx hb dX8_statement_14 (by decide) ?_
      have hxa2 := hxa.fr0 hI hZ
      have hxf : xF ad nw no M M4 := fun q e hq _ => hZ.at hq mm_n0
      exact mm_iret S hr hlocks hR ⟨Or.inl ⟨fun q => n_z q.2.1, rfl⟩, hxa2, hxf⟩ dX8_statement_15
  · skip
    refine lv_if_eq (tgt := 14) hx hb dX8_statement_4 (by decide) (fun _ => ?_) (fun z => by first | exact absurd z (by decide) | exact absurd (by decide) z)
    refine lv_iconst (v := -1) hx hb dX8_statement_14 (by decide) ?_
    have hxa2 := hxa.fr0 hI hZ
    have hxf : xF ad nw no M M2 := fun q e hq _ => hZ.at hq mm_n0
    exact mm_iret S hr hlocks hR ⟨Or.inl ⟨fun q => n_y q.1, rfl⟩, hxa2, hxf⟩ dX8_statement_15

set_option maxHeartbeats 4000000 in
set_option maxRecDepth 100000 in
/-- count(what) -/
theorem c_X8_count (l : Launch) (G : mm_G) (M : mm_M) (sz : Nat) (ad : Nat → Nat) (cl ll : Nat) (chg wl sp : Int32) (co lr : Nat → Int32) (sh : Nat → Nat) (rem : Nat → Nat → Int32) (nw : Nat) (wst : Nat → Nat → Nat → Int32) (wfc wfl wtn : Nat → Nat → Int32) (wln : Nat → Nat → Nat) (no : Nat) (op : Nat → OpT) (dc : Nat → Nat) (x : Int32)  (hxa : xA G M ad cl ll chg wl sp co lr sh rem nw wst wfc wfl wtn wln no op dc) (hI : xI ad nw no) (hN : xN cl ll chg sh nw wfc wfl wtn wln no) (h18 : no = 0 → ad 18 = G.2.2.2.2.1) : mm_i l yX8_count wsX8_count ({ frames := 1, cells := 0, slots := 0, locals := 40 } : Room) G ([.ref (ad 0), .int x] : List Value) M sz (fun r M' => ((x = nI 0 ∧ r = nI nw) ∨ (x = nI 1 ∧ r = wl) ∨ (x = nI 2 ∧ r = sp) ∨ (x = nI 3 ∧ r = nI cl) ∨ (∃ c, c < 4 ∧ x = nI (4 + c) ∧ r = nI (sh c)) ∨ (¬ (∃ j, j < 8 ∧ x = nI j) ∧ r = -1)) ∧ xA G M' ad cl ll chg wl sp co lr sh rem nw wst wfc wfl wtn wln no op dc ∧ xF ad nw no M M') := by
  refine mm_enter (cc := cX8_count) (maxL := 2) (ret := (some .int)) _ (by decide) rfl (Nat.le_of_ble_eq_true rfl) ?_
  intro p0 e0 s m0 be0 me0 c0 ls S hr hlocks hname hA hC hR hl
  have hx := S.1
  have hb := S.2.1
  have hl : lv_has ls 2 [(0, .ref (ad 0)), (1, .int x)] := hl
  have inRJx4a65c : ∀ w ∈ wsJx4a65c0, w ∈ wsX8_count := by decide +kernel
  have inRX8 : ∀ w ∈ wsX80, w ∈ wsX8_count := by decide +kernel
  have hF : mm_fr [] M M := mm_fr.rf
  have hR0 := hR
  obtain ⟨hX, hb1, hb2, ⟨dg, hb3⟩, ⟨lmc, lf, hb4a, hb4b, hb4c⟩, ⟨rf, hb5a, hb5b⟩, hb6, ⟨shf, hb7a, hb7b⟩, hb8, hb9, hb10, hb11, ⟨dnf, hb12a, hb12b⟩, ⟨sfc, sfl, hb13⟩, hb14⟩ := id hxa
  have hZ : mm_fr [] M M := mm_fr.rf
  have hnw := hN.2.2.2.2.1
  refine lv_iload_n hx hb dX8_count_0 rfl (lv_at hl 1 rfl) ?_
  rcases pk_ix x (n := 4) (by decide) with c1 | c1 | ⟨j, hj, e1⟩
  · skip
    refine lv_tableOut (tgt := 55) hx hb dX8_count_1 (Or.inl (by have z := Int32.lt_iff_toInt_lt.mp c1; simpa using z)) (by decide) ?_
    refine lv_iload_n hx hb dX8_count_55 rfl (lv_at hl 1 rfl) ?_
    refine lv_iconst (v := nI 4) hx hb dX8_count_56 (by decide) ?_
    refine lv_icmp_lt (tgt := 77) hx hb dX8_count_57 (by decide) (fun c2 => ?_) (fun c2 => ?_)
    · skip
      refine lv_iconst (v := -1) hx hb dX8_count_77 (by decide) ?_
      have hxa2 := hxa.fr0 hI hZ
      have hxf : xF ad nw no M M := fun q e hq _ => hZ.at hq mm_n0
      exact mm_iret S hr hlocks hR ⟨Or.inr (Or.inr (Or.inr (Or.inr (Or.inr ⟨fun ⟨j, hj, e⟩ => by rw [e] at c1; exact nI_pos (by omega) c1, rfl⟩)))), hxa2, hxf⟩ dX8_count_78
    · skip
      exact absurd (Int32.lt_trans c1 (by decide)) c2
  · skip
    refine lv_tableOut (tgt := 55) hx hb dX8_count_1 (Or.inr (by have z := Int32.le_iff_toInt_le.mp c1; have y : (nI 4).toInt = 4 := (by decide); rw [y] at z; omega)) (by decide) ?_
    refine lv_iload_n hx hb dX8_count_55 rfl (lv_at hl 1 rfl) ?_
    refine lv_iconst (v := nI 4) hx hb dX8_count_56 (by decide) ?_
    refine lv_icmp_lt (tgt := 77) hx hb dX8_count_57 (by decide) (fun c2 => ?_) (fun c2 => ?_)
    · skip
      exact absurd c2 (Int32.not_lt.mpr c1)
    · skip
      refine lv_iload_n hx hb dX8_count_60 rfl (lv_at hl 1 rfl) ?_
      refine lv_bipush (v := nI 8) hx hb dX8_count_61 (by decide) ?_
      refine lv_icmp_ge (tgt := 77) hx hb dX8_count_63 (by decide) (fun c3 => ?_) (fun c3 => ?_)
      · skip
        refine lv_iconst (v := -1) hx hb dX8_count_77 (by decide) ?_
        have hxa2 := hxa.fr0 hI hZ
        have hxf : xF ad nw no M M := fun q e hq _ => hZ.at hq mm_n0
        exact mm_iret S hr hlocks hR ⟨Or.inr (Or.inr (Or.inr (Or.inr (Or.inr ⟨fun ⟨j, hj, e⟩ => by rw [e] at c3; exact absurd c3 (nI_ge hj (by omega)), rfl⟩)))), hxa2, hxf⟩ dX8_count_78
      · skip
        obtain ⟨j, hj, ej⟩ := ((pk_ix x (n := 8) (by decide)).resolve_left (fun z => c2 (Int32.lt_trans z (by decide)))).resolve_left c3
        subst ej
        have hj4 : 4 ≤ j := (nI_leI (by omega) (by omega)).mp c1
        refine lv_aload_n hx hb dX8_count_66 rfl (lv_at hl 0 rfl) ?_
        refine mm_get S hC hR (C := RX8) (T := TX8) (N := 14) (ref := "ForkWatch") (v := .ref (ad 13)) 5 hX inRX8 rfl (by decide) (by decide +kernel) (fun _ h9 => h9) rfl dX8_count_67 ?_
        refine lv_iload_n hx hb dX8_count_70 rfl (lv_at hl 1 rfl) ?_
        refine lv_iconst (v := nI 4) hx hb dX8_count_71 (by decide) ?_
        refine lv_isub hx hb dX8_count_72 ?_
        refine mm_eqi (pk_sub (by omega)) ?_
        refine mm_iald S hC hR hb7a (j := (j - 4)) (by omega) (by omega) dX8_count_73 ?_
        refine mm_eqi (hb7b (j - 4) (by omega)) ?_
        refine lv_goto (tgt := 78) hx hb dX8_count_74 (by decide) ?_
        have hxa2 := hxa.fr0 hI hZ
        have hxf : xF ad nw no M M := fun q e hq _ => hZ.at hq mm_n0
        exact mm_iret S hr hlocks hR ⟨Or.inr (Or.inr (Or.inr (Or.inr (Or.inl ⟨j - 4, by omega, by rw [show 4 + (j - 4) = j by omega], rfl⟩)))), hxa2, hxf⟩ dX8_count_78
  · skip
    rcases (show j = 0 ∨ j = 1 ∨ j = 2 ∨ j = 3 by omega) with e2 | e2 | e2 | e2 <;> subst e2 <;> subst e1
    · skip
      refine lv_tableIn (tgt := 32) (off := 31) hx hb dX8_count_1 (by decide) (by decide) (by decide) (by decide) ?_
      refine lv_aload_n hx hb dX8_count_32 rfl (lv_at hl 0 rfl) ?_
      refine mm_get S hC hR (C := RX8) (T := TX8) (N := 14) (ref := "ForkWatch") (v := .ref (ad 10)) 3 hX inRX8 rfl (by decide) (by decide +kernel) (fun _ h9 => h9) rfl dX8_count_33 ?_
      refine mm_calli hA hR (va_runV (As := []) (rest := []) S (c_Jx4a65c_size_8abf5 l G M _ (ad 10) (ad 11) nw lmc hb4a) (cwV 0 S.2.2.2.2 gX8_count_Jx4a65c_size_8abf5 rfl rfl rfl (by decide +kernel) ⟨Nat.le_of_ble_eq_true rfl, Nat.le_of_ble_eq_true rfl⟩) (mm_preV hC hA hR _ hb4a rfl) rfl rfl hl.1 rfl (lv_room (Nat.le_of_ble_eq_true rfl)) dX8_count_36 ⟨Nat.le_of_ble_eq_true rfl, Nat.le_of_ble_eq_true rfl⟩) (fun r11 M12 H locs hp hR => ?_)
      obtain ⟨e1, ff⟩ := hp
      subst e1
      have hX := ff.at hX mm_n0
      have hb4a := ff.at hb4a mm_n0
      have hb4b := ff.at hb4b mm_n0
      have hb5a := ff.at hb5a mm_n0
      have hb7a := ff.at hb7a mm_n0
      have hb8 := ff.at hb8 mm_n0
      have hb9 := ff.at hb9 mm_n0
      have hb10 := ff.at hb10 mm_n0
      have hb3 := ff.at hb3 mm_n0
      have hF := hF.tr ff mm_i0
      have hZ := hZ.tr ff mm_i0
      have hxa2 := hxa.fr0 hI hZ
      have hxf : xF ad nw no M M12 := fun q e hq _ => hZ.at hq mm_n0
      exact mm_iret S hr hlocks hR ⟨Or.inl ⟨rfl, rfl⟩, hxa2, hxf⟩ dX8_count_39
    · skip
      refine lv_tableIn (tgt := 40) (off := 39) hx hb dX8_count_1 (by decide) (by decide) (by decide) (by decide) ?_
      refine lv_aload_n hx hb dX8_count_40 rfl (lv_at hl 0 rfl) ?_
      refine mm_get S hC hR (C := RX8) (T := TX8) (N := 14) (ref := "ForkWatch") (v := .int wl) 12 hX inRX8 rfl (by decide) (by decide +kernel) (fun _ h9 => h9) rfl dX8_count_41 ?_
      have hxa2 := hxa.fr0 hI hZ
      have hxf : xF ad nw no M M := fun q e hq _ => hZ.at hq mm_n0
      exact mm_iret S hr hlocks hR ⟨Or.inr (Or.inl ⟨rfl, rfl⟩), hxa2, hxf⟩ dX8_count_44
    · skip
      refine lv_tableIn (tgt := 45) (off := 44) hx hb dX8_count_1 (by decide) (by decide) (by decide) (by decide) ?_
      refine lv_aload_n hx hb dX8_count_45 rfl (lv_at hl 0 rfl) ?_
      refine mm_get S hC hR (C := RX8) (T := TX8) (N := 14) (ref := "ForkWatch") (v := .int sp) 13 hX inRX8 rfl (by decide) (by decide +kernel) (fun _ h9 => h9) rfl dX8_count_46 ?_
      have hxa2 := hxa.fr0 hI hZ
      have hxf : xF ad nw no M M := fun q e hq _ => hZ.at hq mm_n0
      exact mm_iret S hr hlocks hR ⟨Or.inr (Or.inr (Or.inl ⟨rfl, rfl⟩)), hxa2, hxf⟩ dX8_count_49
    · skip
      refine lv_tableIn (tgt := 50) (off := 49) hx hb dX8_count_1 (by decide) (by decide) (by decide) (by decide) ?_
      refine lv_aload_n hx hb dX8_count_50 rfl (lv_at hl 0 rfl) ?_
      refine mm_get S hC hR (C := RX8) (T := TX8) (N := 14) (ref := "ForkWatch") (v := .int (nI cl)) 7 hX inRX8 rfl (by decide) (by decide +kernel) (fun _ h9 => h9) rfl dX8_count_51 ?_
      have hxa2 := hxa.fr0 hI hZ
      have hxf : xF ad nw no M M := fun q e hq _ => hZ.at hq mm_n0
      exact mm_iret S hr hlocks hR ⟨Or.inr (Or.inr (Or.inr (Or.inl ⟨rfl, rfl⟩))), hxa2, hxf⟩ dX8_count_54
