set_option maxHeartbeats 4000000 in
set_option maxRecDepth 100000 in
/-- write(client, file) -/
theorem c_X8_write (l : Launch) (G : mm_G) (M : mm_M) (sz : Nat) (ad : Nat → Nat) (cl ll : Nat) (chg wl sp : Int32) (co lr : Nat → Int32) (sh : Nat → Nat) (rem : Nat → Nat → Int32) (nw : Nat) (wst : Nat → Nat → Nat → Int32) (wfc wfl wtn : Nat → Nat → Int32) (wln : Nat → Nat → Nat) (no : Nat) (op : Nat → OpT) (dc : Nat → Nat) (x y : Int32)  (hxa : xA G M ad cl ll chg wl sp co lr sh rem nw wst wfc wfl wtn wln no op dc) (hI : xI ad nw no) (hN : xN cl ll chg sh nw wfc wfl wtn wln no) (h18 : no = 0 → ad 18 = G.2.2.2.2.1) (hno : no < 512) : mm_i l yX8_write wsX8_write ({ frames := 8, cells := 3, slots := 1105, locals := 280 } : Room) G ([.ref (ad 0), .int x, .int y] : List Value) M sz (fun r M' => (r = -9 ∧ ¬ ((∃ j, j < 4 ∧ x = nI j) ∧ (∃ j, j < 16 ∧ y = nI j) ∧ cl ≤ 12) ∧ xA G M' ad cl ll chg wl sp co lr sh rem nw wst wfc wfl wtn wln no op dc ∧ xF ad nw no M M') ∨ ∃ c fi j, c < 4 ∧ fi < 16 ∧ j < nw ∧ sh c = j ∧ x = nI c ∧ y = nI fi ∧ cl ≤ 12 ∧ ((∃ k, k ≠ 0 ∧ k ≤ 4 ∧ r = -1 - nI k ∧ fckR (wst j) (rem c) (wtn j) c k ∧ xA G M' ad 0 ll chg wl (sp + nI 1) co lr sh rem nw wst wfc wfl wtn wln no op dc ∧ xF ad nw no M M') ∨ (r = nI 1 ∧ fckR (wst j) (rem c) (wtn j) c 0 ∧ ∃ tn1, tOK (va_cpy co (wfc j) 0 (fi * 12) cl) (upd (wfl j) fi (nI cl)) tn1 (setL (wln j) fi cl) ∧ ∃ an : Nat → Nat, an 0 = ad 0 ∧ xI an nw (no + 1) ∧ (∀ r, xD nw (no + 1) r → (∃ r0, xD nw no r0 ∧ an r = ad r0) ∨ M (an r) = none) ∧ xA G M' an 0 ll chg (wl + nI 1) sp co lr sh (updS rem c (nst (wst j) (rem c) tn1 c)) nw (updW wst j c (va_cpy (nst (wst j) (rem c) tn1 c) (wst j c) 0 0 84)) (updS wfc j (va_cpy co (wfc j) 0 (fi * 12) cl)) (updS wfl j (upd (wfl j) fi (nI cl))) (updS wtn j tn1) (putW wln j (setL (wln j) fi cl)) (no + 1) (opx op no (nI 1, c, dc c + 1, fi, cl, co)) (upN dc c (dc c + 1)) ∧ xF ad nw no M M'))) := by
  refine mm_enter (cc := cX8_write) (maxL := 6) (ret := (some .int)) _ (by decide) rfl (Nat.le_of_ble_eq_true rfl) ?_
  intro p0 e0 s m0 be0 me0 c0 ls S hr hlocks hname hA hC hR hl
  have hx := S.1
  have hb := S.2.1
  have hl : lv_has ls 6 [(0, .ref (ad 0)), (1, .int x), (2, .int y)] := hl
  have inRJx4a65c : ∀ w ∈ wsJx4a65c0, w ∈ wsX8_write := by decide +kernel
  have inRX0 : ∀ w ∈ wsX00, w ∈ wsX8_write := by decide +kernel
  have inRX1 : ∀ w ∈ wsX10, w ∈ wsX8_write := by decide +kernel
  have inRX2 : ∀ w ∈ wsX20, w ∈ wsX8_write := by decide +kernel
  have inRX3 : ∀ w ∈ wsX30, w ∈ wsX8_write := by decide +kernel
  have inRX4 : ∀ w ∈ wsX40, w ∈ wsX8_write := by decide +kernel
  have inRX5 : ∀ w ∈ wsX50, w ∈ wsX8_write := by decide +kernel
  have inRX6 : ∀ w ∈ wsX60, w ∈ wsX8_write := by decide +kernel
  have inRX7 : ∀ w ∈ wsX70, w ∈ wsX8_write := by decide +kernel
  have inRX8 : ∀ w ∈ wsX80, w ∈ wsX8_write := by decide +kernel
  have hF : mm_fr [] M M := mm_fr.rf
  have hR0 := hR
  obtain ⟨hX, hb1, hb2, ⟨dg, hb3⟩, ⟨lmc, lf, hb4a, hb4b, hb4c⟩, ⟨rf, hb5a, hb5b⟩, hb6, ⟨shf, hb7a, hb7b⟩, hb8, hb9, hb10, hb11, ⟨dnf, hb12a, hb12b⟩, ⟨sfc, sfl, hb13⟩, hb14⟩ := id hxa
  have hZ : mm_fr [] M M := mm_fr.rf
  have hnw := hN.2.2.2.2.1
  have hxf : xF ad nw no M M := xF.rf
  refine lv_iload_n hx hb dX8_write_0 rfl (lv_at hl 1 rfl) ?_
  refine mm_calli hA hR (va_runS (As := [.int x]) (rest := []) S (c_X8_isClient l G M _ x) (va_cwS 1 S.2.2.2.2 gX8_write_X8_isClient rfl rfl rfl (by decide +kernel) ⟨Nat.le_of_ble_eq_true rfl, Nat.le_of_ble_eq_true rfl⟩) (mm_preS hC hA hR _) rfl rfl hl.1 rfl (lv_room (Nat.le_of_ble_eq_true rfl)) dX8_write_1 ⟨Nat.le_of_ble_eq_true rfl, Nat.le_of_ble_eq_true rfl⟩) (fun r1 M2 H locs hp hR => ?_)
  obtain ⟨qg, ff⟩ := hp
  have hX := ff.at hX mm_n0
  have hb4a := ff.at hb4a mm_n0
  have hb4b := ff.at hb4b mm_n0
  have hb5a := ff.at hb5a mm_n0
  have hb7a := ff.at hb7a mm_n0
  have hb8 := ff.at hb8 mm_n0
  have hb9 := ff.at hb9 mm_n0
  have hb10 := ff.at hb10 mm_n0
  have hb3 := ff.at hb3 mm_n0
  have hF := hF.tr ff mm_i0
  have hZ := hZ.tr ff mm_i0
  rcases qg with ⟨e1, qg⟩ | ⟨e1, n_x⟩ <;> subst e1
  · skip
    obtain ⟨c, hc, e1⟩ := qg
    subst e1
    refine lv_if_eq (tgt := 23) hx hb dX8_write_4 (by decide) (fun z => by first | exact absurd z (by decide) | exact absurd (by decide) z) (fun _ => ?_)
    refine lv_iload_n hx hb dX8_write_7 rfl (lv_at hl 2 rfl) ?_
    refine mm_calli hA hR (va_runS (As := [.int y]) (rest := []) S (c_X8_isFile l G M2 _ y) (va_cwS 1 S.2.2.2.2 gX8_write_X8_isFile rfl rfl rfl (by decide +kernel) ⟨Nat.le_of_ble_eq_true rfl, Nat.le_of_ble_eq_true rfl⟩) (mm_preS hC hA hR _) rfl rfl hl.1 rfl (lv_room (Nat.le_of_ble_eq_true rfl)) dX8_write_8 ⟨Nat.le_of_ble_eq_true rfl, Nat.le_of_ble_eq_true rfl⟩) (fun r3 M4 H locs hp hR => ?_)
    obtain ⟨qg, ff⟩ := hp
    have hX := ff.at hX mm_n0
    have hb4a := ff.at hb4a mm_n0
    have hb4b := ff.at hb4b mm_n0
    have hb5a := ff.at hb5a mm_n0
    have hb7a := ff.at hb7a mm_n0
    have hb8 := ff.at hb8 mm_n0
    have hb9 := ff.at hb9 mm_n0
    have hb10 := ff.at hb10 mm_n0
    have hb3 := ff.at hb3 mm_n0
    have hF := hF.tr ff mm_i0
    have hZ := hZ.tr ff mm_i0
    rcases qg with ⟨e1, qg⟩ | ⟨e1, n_y⟩ <;> subst e1
    · skip
      obtain ⟨fi, hfi, e1⟩ := qg
      subst e1
      refine lv_if_eq (tgt := 23) hx hb dX8_write_11 (by decide) (fun z => by first | exact absurd z (by decide) | exact absurd (by decide) z) (fun _ => ?_)
      have hcl := hN.1
      refine lv_aload_n hx hb dX8_write_14 rfl (lv_at hl 0 rfl) ?_
      refine mm_get S hC hR (C := RX8) (T := TX8) (N := 14) (ref := "ForkWatch") (v := .int (nI cl)) 7 hX inRX8 rfl (by decide) (by decide +kernel) (fun _ h9 => h9) rfl dX8_write_15 ?_
      refine lv_bipush (v := nI 12) hx hb dX8_write_18 (by decide) ?_
      refine lv_icmp_le (tgt := 26) hx hb dX8_write_20 (by decide) (fun c3 => ?_) (fun c3 => ?_)
      · have c3 : cl ≤ 12 := (nI_leI (a := cl) (b := 12) (by omega) (by omega)).mp c3
        have hxa := hxa.fr0 hI hZ
        have hxf := hxf.fr0 hZ
        have hR0 := hR
        have hF : mm_fr [ad 0] M4 M4 := mm_fr.rf
        refine lv_aload_n hx hb dX8_write_26 rfl (lv_at hl 0 rfl) ?_
        refine mm_get S hC hR (C := RX8) (T := TX8) (N := 14) (ref := "ForkWatch") (v := .int (nI cl)) 7 hX inRX8 rfl (by decide) (by decide +kernel) (fun _ h9 => h9) rfl dX8_write_27 ?_
        refine lv_istore_n (lv' := [(3, .int (nI cl)), (0, .ref (ad 0)), (1, .int (nI c)), (2, .int (nI fi))]) hx hb dX8_write_30 rfl hl (by decide) rfl (fun ls hl => ?_)
        refine lv_aload_n hx hb dX8_write_31 rfl (lv_at hl 1 rfl) ?_
        refine lv_iconst (v := nI 0) hx hb dX8_write_32 (by decide) ?_
        refine mm_put S hC hR (C := RX8) (T := TX8) (N := 14) (ref := "ForkWatch") 7 hX inRX8 rfl tyX8_ok nmX8 (by decide) (by decide +kernel) (fun _ h9 => h9) rfl rfl rfl (Nat.le_of_ble_eq_true rfl) dX8_write_33 (fun H locs M5 g7 f6 hR => ?_)
        have hb4a := f6.at hb4a (mm_nc (xne0 hI (by decide) (by decide) (by decide)) mm_n0)
        have hb4b := f6.at hb4b (mm_nc (xne0 hI (by decide) (by decide) (by decide)) mm_n0)
        have hb5a := f6.at hb5a (mm_nc (xne0 hI (by decide) (by decide) (by decide)) mm_n0)
        have hb7a := f6.at hb7a (mm_nc (xne0 hI (by decide) (by decide) (by decide)) mm_n0)
        have hb8 := f6.at hb8 (mm_nc (xne0 hI (by decide) (by decide) (by decide)) mm_n0)
        have hb9 := f6.at hb9 (mm_nc (xne0 hI (by decide) (by decide) (by decide)) mm_n0)
        have hb10 := f6.at hb10 (mm_nc (xne0 hI (by decide) (by decide) (by decide)) mm_n0)
        have hb3 := f6.at hb3 (mm_nc (xne0 hI (by decide) (by decide) (by decide)) mm_n0)
        have hX : M5 (ad 0) = some (ob 9 [.ref (ad 1), .ref (ad 4), .ref (ad 9), .ref (ad 10), .ref (ad 12), .ref (ad 13), .ref (ad 14), .int (nI 0), .ref (ad 15), .int (nI ll), .ref (ad 16), .int chg, .int wl, .int sp]) := g7
        have hF := hF.tr f6 (mm_ic 0 rfl mm_i0)
        obtain ⟨hxa, hxg⟩ := xe_top hC hR0 hxa hI h18 hnw (cl' := 0) hX hF
        have hxf := hxf.tr hxg
        have hR0 := hR
        have hF : mm_fr [] M5 M5 := mm_fr.rf
        have hZ : mm_fr [] M5 M5 := mm_fr.rf
        obtain ⟨hX, hb1, hb2, ⟨dg, hb3⟩, ⟨lmc, lf, hb4a, hb4b, hb4c⟩, ⟨rf, hb5a, hb5b⟩, hb6, ⟨shf, hb7a, hb7b⟩, hb8, hb9, hb10, hb11, ⟨dnf, hb12a, hb12b⟩, ⟨sfc, sfl, hb13⟩, hb14⟩ := id hxa
        refine lv_aload_n hx hb dX8_write_36 rfl (lv_at hl 1 rfl) ?_
        refine mm_get S hC hR (C := RX8) (T := TX8) (N := 14) (ref := "ForkWatch") (v := .ref (ad 10)) 3 hX inRX8 rfl (by decide) (by decide +kernel) (fun _ h9 => h9) rfl dX8_write_37 ?_
        refine lv_aload_n hx hb dX8_write_40 rfl (lv_at hl 1 rfl) ?_
        refine mm_get S hC hR (C := RX8) (T := TX8) (N := 14) (ref := "ForkWatch") (v := .ref (ad 13)) 5 hX inRX8 rfl (by decide) (by decide +kernel) (fun _ h9 => h9) rfl dX8_write_41 ?_
        refine lv_iload_n hx hb dX8_write_44 rfl (lv_at hl 2 rfl) ?_
        refine mm_iald S hC hR hb7a (j := c) (by omega) (by omega) dX8_write_45 ?_
        obtain ⟨j, hj, ej⟩ : ∃ j, j < nw ∧ sh c = j := ⟨_, hN.2.2.2.2.2.1 c hc, rfl⟩
        refine mm_eqi ((hb7b c hc).trans (congrArg nI ej)) ?_
        refine mm_callq hA hR (va_runV (As := [.int (nI j)]) (rest := []) S (c_Jx4a65c_get_915e3 l G M5 _ (ad 10) (ad 11) nw 10 j lmc lf hb4a hb4b hj (by omega) (by decide)) (cwV 1 S.2.2.2.2 gX8_write_Jx4a65c_get_915e3 rfl rfl rfl (by decide +kernel) ⟨Nat.le_of_ble_eq_true rfl, Nat.le_of_ble_eq_true rfl⟩) (mm_preV hC hA hR _ hb4a rfl) rfl rfl hl.1 rfl (lv_room (Nat.le_of_ble_eq_true rfl)) dX8_write_46 ⟨Nat.le_of_ble_eq_true rfl, Nat.le_of_ble_eq_true rfl⟩) (fun r8 M9 H locs hp hR => ?_)
        obtain ⟨e1, ff⟩ := hp
        rw [hb4c j hj] at e1
        subst e1
        have hX := ff.at hX mm_n0
        have hb4a := ff.at hb4a mm_n0
        have hb4b := ff.at hb4b mm_n0
        have hb5a := ff.at hb5a mm_n0
        have hb7a := ff.at hb7a mm_n0
        have hb8 := ff.at hb8 mm_n0
        have hb9 := ff.at hb9 mm_n0
        have hb10 := ff.at hb10 mm_n0
        have hb3 := ff.at hb3 mm_n0
        have hF := hF.tr ff mm_i0
        have hZ := hZ.tr ff mm_i0
        have hwo := (hb14 j hj).fr0 hZ
        obtain ⟨hw0, ⟨tf, hw1, htf⟩, hst, hw2, hw3, hw4, hw5, hw6⟩ := id hwo
        refine mm_cast (r := (RX7, TX7, 3)) S hC hR hw0 rfl (by decide +kernel) dX8_write_49 ?_
        obtain ⟨k10a, k10b⟩ := hb6 c (by omega)
        have k10a := hZ.at k10a mm_n0
        have k10b := hZ.at k10b mm_n0
        refine lv_astore (lv' := [(4, .ref (xW ad j 0)), (3, .int (nI cl)), (0, .ref (ad 0)), (1, .int (nI c)), (2, .int (nI fi))]) hx hb dX8_write_52 hl (by decide) rfl (fun ls hl => ?_)
        refine lv_aload_n hx hb dX8_write_54 rfl (lv_at hl 2 rfl) ?_
        refine lv_iload_n hx hb dX8_write_55 rfl (lv_at hl 3 rfl) ?_
        refine lv_aload hx hb dX8_write_56 (lv_at hl 0 rfl) ?_
        have hmc := hb2.fr0 hZ
        have hxa := hxa.fr0 hI hZ
        have hxf := hxf.fr0 hZ
        have hR0 := hR
        have hrs5 : ∀ z, z ∈ [5, 6, 7, 8, 9] → xD nw no z := by
          intro z hz
          simp only [List.mem_cons, List.not_mem_nil, or_false] at hz
          unfold xD
          omega
        refine mm_calli hA hR (va_runV (As := [.int (nI c), .ref (xW ad j 0)]) (rest := []) S (c_X8_failedCheck l G M9 _ (ad 0) (ad 1) (ad 4) (ad 9) (ad 10) (ad 12) (ad 13) (ad 14) (ad 15) (ad 16) 0 ll chg wl sp (ad 5) (ad 6) (ad 7) (ad 8) (xW ad j) (wst j) (wfc j) (wfl j) (wtn j) dg (ad (24 + 2 * c)) (ad (25 + 2 * c)) c rf (rem c) hX hb3 hb5a k10a k10b hmc hwo (xne0 (i := 9) (j := 8) hI (by decide) (by decide) (by decide)) (fun i hi => (xnin (rs := [5, 6, 7, 8, 9]) (r := 100 + 15 * j + i) hI (by unfold xD; omega) hrs5 (by simp only [List.mem_cons, List.not_mem_nil, or_false]; omega))) (hb5b c hc) hc (xnin (rs := [5, 6, 7, 8, 9]) (r := 0) hI (by unfold xD; omega) hrs5 (by simp only [List.mem_cons, List.not_mem_nil, or_false]; omega)) (xnin (rs := [5, 6, 7, 8, 9]) (r := 12) hI (by unfold xD; omega) hrs5 (by simp only [List.mem_cons, List.not_mem_nil, or_false]; omega)) (xnin (rs := [5, 6, 7, 8, 9]) (r := 24 + 2 * c) hI (by unfold xD; omega) hrs5 (by simp only [List.mem_cons, List.not_mem_nil, or_false]; omega)) (xnin (rs := [5, 6, 7, 8, 9]) (r := 25 + 2 * c) hI (by unfold xD; omega) hrs5 (by simp only [List.mem_cons, List.not_mem_nil, or_false]; omega))) (cwV 2 S.2.2.2.2 gX8_write_X8_failedCheck rfl rfl rfl (by decide +kernel) ⟨Nat.le_of_ble_eq_true rfl, Nat.le_of_ble_eq_true rfl⟩) (mm_preV hC hA hR _ hX rfl) rfl rfl hl.1 rfl (lv_room (Nat.le_of_ble_eq_true rfl)) dX8_write_58 ⟨Nat.le_of_ble_eq_true rfl, Nat.le_of_ble_eq_true rfl⟩) (fun r11 M12 H locs hp hR => ?_)
        obtain ⟨⟨k, ek, hck⟩, hmc, h9, ff⟩ := hp
        subst ek
        have hk4 : k ≤ 4 := by rcases hck with z | z | z | z | z <;> have := z.1 <;> omega
        obtain ⟨hxa, hxg⟩ := xe_chk hC hR0 hxa hI h18 hnw hmc h9 ff
        have hxf := hxf.tr hxg
        have hR0 := hR
        have hF : mm_fr [] M12 M12 := mm_fr.rf
        have hZ : mm_fr [] M12 M12 := mm_fr.rf
        obtain ⟨hX, hb1, hb2, ⟨dg, hb3⟩, ⟨lmc, lf, hb4a, hb4b, hb4c⟩, ⟨rf, hb5a, hb5b⟩, hb6, ⟨shf, hb7a, hb7b⟩, hb8, hb9, hb10, hb11, ⟨dnf, hb12a, hb12b⟩, ⟨sfc, sfl, hb13⟩, hb14⟩ := id hxa
        refine lv_istore (lv' := [(5, .int (nI k)), (4, .ref (xW ad j 0)), (3, .int (nI cl)), (0, .ref (ad 0)), (1, .int (nI c)), (2, .int (nI fi))]) hx hb dX8_write_61 hl (by decide) rfl (fun ls hl => ?_)
        refine lv_iload hx hb dX8_write_63 (lv_at hl 0 rfl) ?_
        refine lv_if_eq (tgt := 75) hx hb dX8_write_65 (by decide) (fun ck => ?_) (fun ck => ?_)
        · have ck : k = 0 := (nI_eq (a := k) (b := 0) (by omega) (by omega)).mp ck
          subst ck
          have htk := hN.2.2.2.2.2.2.1 j hj
          have hwo := hb14 j hj
          have hBase := hxf
          refine lv_aload hx hb dX8_write_75 (lv_at hl 1 rfl) ?_
          refine lv_iload_n hx hb dX8_write_77 rfl (lv_at hl 5 rfl) ?_
          refine lv_aload_n hx hb dX8_write_78 rfl (lv_at hl 3 rfl) ?_
          refine mm_get S hC hR (C := RX8) (T := TX8) (N := 14) (ref := "ForkWatch") (v := .ref (ad 14)) 6 hX inRX8 rfl (by decide) (by decide +kernel) (fun _ h9 => h9) rfl dX8_write_79 ?_
          refine lv_iload_n hx hb dX8_write_82 rfl (lv_at hl 2 rfl) ?_
          refine lv_aload_n hx hb dX8_write_83 rfl (lv_at hl 3 rfl) ?_
          refine mm_get S hC hR (C := RX8) (T := TX8) (N := 14) (ref := "ForkWatch") (v := .ref (ad 1)) 0 hX inRX8 rfl (by decide) (by decide +kernel) (fun _ h9 => h9) rfl dX8_write_84 ?_
          have hxa := hxa.fr0 hI hZ
          have hxf := hxf.fr0 hZ
          have hR0 := hR
          obtain ⟨sf_, sg_, sa_, sb_, s1, s2, s3⟩ := id hb1
          have hsp : ∀ i, i < 15 → xW ad j i ≠ ad 1 ∧ xW ad j i ≠ ad 2 ∧ xW ad j i ≠ ad 3 := fun i hi => ⟨xne hI (by unfold xD; omega) (by unfold xD; omega) (by omega), xne hI (by unfold xD; omega) (by unfold xD; omega) (by omega), xne hI (by unfold xD; omega) (by unfold xD; omega) (by omega)⟩
          refine mm_callv hA hR (va_runV (As := [.int (nI fi), .ref (ad 14), .int (nI cl), .ref (ad 1)]) (rest := []) S (c_X7_put l G M12 _ (xW ad j) (wst j) (wfc j) (wfl j) (wtn j) (ad 1) (ad 2) (ad 3) sa_ sb_ sf_ sg_ (ad 14) 64 fi cl co (wln j) s1 s2 s3 hb8 hwo (xW_I hI hj) hsp htk hfi c3 (by omega) (by decide)) (cwV 4 S.2.2.2.2 gX8_write_X7_put rfl rfl rfl (by decide +kernel) ⟨Nat.le_of_ble_eq_true rfl, Nat.le_of_ble_eq_true rfl⟩) (mm_preV hC hA hR _ hwo.1 rfl) rfl rfl hl.1 rfl (lv_room (Nat.le_of_ble_eq_true rfl)) dX8_write_87 ⟨Nat.le_of_ble_eq_true rfl, Nat.le_of_ble_eq_true rfl⟩) (fun M14 H locs hp hR => ?_)
          obtain ⟨tn1, hwo2, htk2, ej1, ff⟩ := hp
          obtain ⟨hxa, hxg⟩ := xe_put (wln1 := putW wln j (setL (wln j) fi cl)) hC hR0 hxa hI h18 hnw hj ej1 hwo2 ff
          have hxf := hxf.tr hxg
          have hR0 := hR
          have hF : mm_fr [] M14 M14 := mm_fr.rf
          have hZ : mm_fr [] M14 M14 := mm_fr.rf
          obtain ⟨hX, hb1, hb2, ⟨dg, hb3⟩, ⟨lmc, lf, hb4a, hb4b, hb4c⟩, ⟨rf, hb5a, hb5b⟩, hb6, ⟨shf, hb7a, hb7b⟩, hb8, hb9, hb10, hb11, ⟨dnf, hb12a, hb12b⟩, ⟨sfc, sfl, hb13⟩, hb14⟩ := id hxa
          refine lv_aload_n hx hb dX8_write_90 rfl (lv_at hl 3 rfl) ?_
          refine mm_get S hC hR (C := RX8) (T := TX8) (N := 14) (ref := "ForkWatch") (v := .ref (ad 16)) 10 hX inRX8 rfl (by decide) (by decide +kernel) (fun _ h9 => h9) rfl dX8_write_91 ?_
          refine lv_iconst (v := nI 1) hx hb dX8_write_94 (by decide) ?_
          refine lv_iload_n hx hb dX8_write_95 rfl (lv_at hl 4 rfl) ?_
          refine lv_iload_n hx hb dX8_write_96 rfl (lv_at hl 5 rfl) ?_
          refine lv_aload_n hx hb dX8_write_97 rfl (lv_at hl 3 rfl) ?_
          refine mm_get S hC hR (C := RX8) (T := TX8) (N := 14) (ref := "ForkWatch") (v := .ref (ad 14)) 6 hX inRX8 rfl (by decide) (by decide +kernel) (fun _ h9 => h9) rfl dX8_write_98 ?_
          refine lv_iload_n hx hb dX8_write_101 rfl (lv_at hl 2 rfl) ?_
          have hxfB := hxf
          have hxa := hxa.fr0 hI hZ
          have hxf := hxf.fr0 hZ
          have hR0 := hR
          have hYd : ∀ i, i < no → (fun i => ad (1001 + 2 * i)) i ≠ ad 19 := fun i hi => xne hI (by unfold xD; omega) (by unfold xD; omega) (by omega)
          refine mm_callv hA hR (va_runV (As := [.int (nI 1), .int (nI c), .int (nI fi), .ref (ad 14), .int (nI cl)]) (rest := []) S (c_X1_note l G M14 _ (ad 16) (ad 17) (ad 19) (ad 20) (ad 18) no (ad 14) 64 c fi cl (dc c) (nI 1) (fun i => ad (1000 + 2 * i)) (fun i => ad (1001 + 2 * i)) op dnf co hb10 hb12a hb8 hxa.2.2.2.2.2.2.2.2.2.2.2.1 hno (hb12b c hc) hc hfi c3 (by omega) (by decide) (Or.inr rfl) hYd (xne0 hI (by decide) (by decide) (by decide))) (cwV 5 S.2.2.2.2 gX8_write_X1_note rfl rfl rfl (by decide +kernel) ⟨Nat.le_of_ble_eq_true rfl, Nat.le_of_ble_eq_true rfl⟩) (mm_preV hC hA hR _ hb10 rfl) rfl rfl hl.1 rfl (lv_room (Nat.le_of_ble_eq_true rfl)) dX8_write_102 ⟨Nat.le_of_ble_eq_true rfl, Nat.le_of_ble_eq_true rfl⟩) (fun M16 H locs hp hR => ?_)
          obtain ⟨E', q, q9, nq, nO, hE', hop', hdn', ff⟩ := hp
          have hdc' : ∀ k, k < 4 → upd dnf c (nI (dc c + 1)) k = nI (upN dc c (dc c + 1) k) := fun k hk => by
            unfold upN upd
            by_cases e : k = c
            · rw [if_pos e, if_pos e]
            · rw [if_neg e, if_neg e]
              exact hb12b k hk
          obtain ⟨hxn, hIn, hxg, hnew⟩ := xe_note hC hR0 hR hxa hI h18 hnw nq nO hE' hop' hdn' hdc' ff
          obtain ⟨rs, hrs, f2⟩ := xe_nf (nw := nw) hC hR0 h18 ff
          have nr : ∀ z, z ≠ 17 → z ≠ 18 → z ≠ 19 → z ∉ rs := fun z h1 h2 h3 h => by
            have := (hrs z h).2
            omega
          obtain ⟨u0, u1, u2, u3, u4, u5, u6, u7, u8, u9, u10, -, -, u13, u14⟩ := xA.fr (rs := rs) hxa hI f2 (fun x hx => (hrs x hx).1)
          have hX := u0 (nr _ (by omega) (by omega) (by omega))
          have hmc := u2 (nr _ (by omega) (by omega) (by omega)) (nr _ (by omega) (by omega) (by omega)) (nr _ (by omega) (by omega) (by omega)) (nr _ (by omega) (by omega) (by omega)) (nr _ (by omega) (by omega) (by omega))
          obtain ⟨rf, hb5a, hb5b⟩ := u5 (nr _ (by omega) (by omega) (by omega))
          obtain ⟨hra, hrb⟩ := u6 c hc (nr _ (by omega) (by omega) (by omega)) (nr _ (by omega) (by omega) (by omega))
          have hwo := u14 j hj (fun r hr => by have := (hrs r hr).2; omega)
          have hxf := hxf.tr hxg
          have hRn := hR
          have hF : mm_fr [] M16 M16 := mm_fr.rf
          refine lv_aload_n hx hb dX8_write_105 rfl (lv_at hl 3 rfl) ?_
          refine lv_iload_n hx hb dX8_write_106 rfl (lv_at hl 4 rfl) ?_
          refine lv_aload hx hb dX8_write_107 (lv_at hl 1 rfl) ?_
          have hr1 : ∀ z, z ∈ [5, 6, 7, 8, 25 + 2 * c, 0] → xD nw no z := by
            intro z hz
            simp only [List.mem_cons, List.not_mem_nil, or_false] at hz
            unfold xD
            omega
          have hr2 : ∀ z, z ∈ [5, 6, 7, 8] → xD nw no z := by
            intro z hz
            simp only [List.mem_cons, List.not_mem_nil, or_false] at hz
            unfold xD
            omega
          have hr3 : ∀ z, z ∈ [5, 6, 7, 8, 0] → xD nw no z := by
            intro z hz
            simp only [List.mem_cons, List.not_mem_nil, or_false] at hz
            unfold xD
            omega
          have hr4 : ∀ z, z ∈ [100 + 15 * j + (8 + 2 * c)] → xD nw no z := by
            intro z hz
            simp only [List.mem_cons, List.not_mem_nil, or_false] at hz
            unfold xD
            omega
          rw [updS_s, updS_s, updS_s] at hwo
          refine mm_callv hA hR (va_runV (As := [.int (nI c), .ref (xW ad j 0)]) (rest := []) S (c_X8_makeStatement l G M16 _ (ad 0) (ad 1) (ad 4) (ad 9) (ad 10) (ad 12) (ad 13) (ad 14) (ad 15) (ad 16) 0 ll chg wl sp (ad 5) (ad 6) (ad 7) (ad 8) (xW ad j) (wst j) (va_cpy co (wfc j) 0 (fi * 12) cl) (upd (wfl j) fi (nI cl)) (tn1) (ad (24 + 2 * c)) (ad (25 + 2 * c)) c rf (rem c) hX hb5a hra hrb hmc hwo (xW_I hI hj) (fun i hi => (xnin (rs := [5, 6, 7, 8, 25 + 2 * c, 0]) (r := 100 + 15 * j + i) hI (by unfold xD; omega) hr1 (by simp only [List.mem_cons, List.not_mem_nil, or_false]; omega))) (hb5b c hc) hc (xnin (rs := [5, 6, 7, 8]) (r := 0) hI (by unfold xD; omega) hr2 (by simp only [List.mem_cons, List.not_mem_nil, or_false]; omega)) (xnin (rs := [5, 6, 7, 8, 0]) (r := 24 + 2 * c) hI (by unfold xD; omega) hr3 (by simp only [List.mem_cons, List.not_mem_nil, or_false]; omega)) (xnin (rs := [5, 6, 7, 8]) (r := 12) hI (by unfold xD; omega) hr2 (by simp only [List.mem_cons, List.not_mem_nil, or_false]; omega)) (xnin (rs := [100 + 15 * j + (8 + 2 * c)]) (r := 0) hI (by unfold xD; omega) hr4 (by simp only [List.mem_cons, List.not_mem_nil, or_false]; omega))) (cwV 2 S.2.2.2.2 gX8_write_X8_makeStatement rfl rfl rfl (by decide +kernel) ⟨Nat.le_of_ble_eq_true rfl, Nat.le_of_ble_eq_true rfl⟩) (mm_preV hC hA hR _ hX rfl) rfl rfl hl.1 rfl (lv_room (Nat.le_of_ble_eq_true rfl)) dX8_write_109 ⟨Nat.le_of_ble_eq_true rfl, Nat.le_of_ble_eq_true rfl⟩) (fun M18 H locs hp hR => ?_)
          obtain ⟨hr9, hwo9, hX9, hmc9, ff⟩ := hp
          have kk : ∀ r, r < 1000 → r ≠ 18 → adN ad no E' q9 q r = ad r := fun r h1 h2 => adN_o h2 (by omega) (by omega)
          have e9 : ∀ i, i < 15 → xW (adN ad no E' q9 q) j i = xW ad j i := fun i hi => kk _ (by omega) (by omega)
          generalize hadn : adN ad no E' q9 q = an at *
          obtain ⟨hxz, -⟩ := xe_mk (M' := M18) (j := j) (c := c) hC hRn hxn hIn (fun z => absurd z (by omega)) hnw hj hc (by rw [kk 0 (by omega) (by omega), kk 1 (by omega) (by omega), kk 4 (by omega) (by omega), kk 9 (by omega) (by omega), kk 10 (by omega) (by omega), kk 12 (by omega) (by omega), kk 13 (by omega) (by omega), kk 14 (by omega) (by omega), kk 15 (by omega) (by omega), kk 16 (by omega) (by omega)]; exact hX9) (by rw [kk 4 (by omega) (by omega), kk 5 (by omega) (by omega), kk 6 (by omega) (by omega), kk 7 (by omega) (by omega), kk 8 (by omega) (by omega)]; exact hmc9) (by rw [kk _ (by omega) (by omega)]; exact hr9) (by rw [updS_s, updS_s, updS_s]; exact hwo9.ext e9) (by
            intro z e hz hn
            refine ff z e hz (fun y => hn ?_)
            rw [List.map_cons, List.map_cons, List.map_cons, List.map_cons, List.map_cons, List.map_cons, List.map_cons, List.map_nil, kk 5 (by omega) (by omega), kk 6 (by omega) (by omega), kk 7 (by omega) (by omega), kk 8 (by omega) (by omega), kk (25 + 2 * c) (by omega) (by omega), kk (100 + 15 * j + (8 + 2 * c)) (by omega) (by omega), kk 0 (by omega) (by omega)]
            exact y)
          have hxf9 : xF ad nw no M16 M18 := xF.of (rs := [5, 6, 7, 8, 25 + 2 * c, 100 + 15 * j + (8 + 2 * c), 0]) ff (by
            intro z hz
            simp only [List.mem_cons, List.not_mem_nil, or_false] at hz
            unfold xD
            omega)
          have hxf := hxf.tr hxf9
          have hF : mm_fr [] M18 M18 := mm_fr.rf
          refine lv_iconst (v := nI 1) hx hb dX8_write_112 (by decide) ?_
          have hnew2 : ∀ r, xD nw (no + 1) r → (∃ r0, xD nw no r0 ∧ an r = ad r0) ∨ M (an r) = none := fun r hr => by
            rcases hnew r hr with z | z
            · exact Or.inl z
            · by_cases hold : ∃ r0, xD nw no r0 ∧ an r = ad r0
              · exact Or.inl hold
              · refine Or.inr ?_
                cases hM : M (an r) with
                | none => rfl
                | some e =>
                  have y := hxfB _ _ hM (fun r0 h0 e0 => hold ⟨r0, h0, e0.symm⟩)
                  rw [z] at y
                  cases y
          refine W.widen (k := 3) (n := 1105) (Nat.le_of_ble_eq_true rfl) (Nat.le_of_ble_eq_true rfl) ?_
          exact mm_iret S hr hlocks hR (Or.inr ⟨c, fi, j, hc, hfi, hj, ej, rfl, rfl, c3, Or.inr ⟨rfl, hck, tn1, htk2, an, kk 0 (by omega) (by omega), hIn, hnew2, hxz, hxf⟩⟩) dX8_write_113
        · have ck : ¬ (k = 0) := fun z => ck ((nI_eq (a := k) (b := 0) (by omega) (by omega)).mpr z)
          refine lv_aload_n hx hb dX8_write_68 rfl (lv_at hl 3 rfl) ?_
          refine lv_iload hx hb dX8_write_69 (lv_at hl 0 rfl) ?_
          have hxa := hxa.fr0 hI hZ
          have hxf := hxf.fr0 hZ
          have hR0 := hR
          refine mm_calli hA hR (va_runV (As := [.int (nI k)]) (rest := []) S (c_X8_stoppedBy l G M12 _ (ad 0) (ad 1) (ad 4) (ad 9) (ad 10) (ad 12) (ad 13) (ad 14) (ad 15) (ad 16) 0 ll chg wl sp k hX) (cwV 1 S.2.2.2.2 gX8_write_X8_stoppedBy rfl rfl rfl (by decide +kernel) ⟨Nat.le_of_ble_eq_true rfl, Nat.le_of_ble_eq_true rfl⟩) (mm_preV hC hA hR _ hX rfl) rfl rfl hl.1 rfl (lv_room (Nat.le_of_ble_eq_true rfl)) dX8_write_71 ⟨Nat.le_of_ble_eq_true rfl, Nat.le_of_ble_eq_true rfl⟩) (fun r19 M20 H locs hp hR => ?_)
          obtain ⟨e1, e2, ff⟩ := hp
          subst e1
          obtain ⟨hxa, hxg⟩ := xe_top hC hR0 hxa hI h18 hnw e2 ff
          have hxf := hxf.tr hxg
          have hR0 := hR
          have hF : mm_fr [] M20 M20 := mm_fr.rf
          have hZ : mm_fr [] M20 M20 := mm_fr.rf
          obtain ⟨hX, hb1, hb2, ⟨dg, hb3⟩, ⟨lmc, lf, hb4a, hb4b, hb4c⟩, ⟨rf, hb5a, hb5b⟩, hb6, ⟨shf, hb7a, hb7b⟩, hb8, hb9, hb10, hb11, ⟨dnf, hb12a, hb12b⟩, ⟨sfc, sfl, hb13⟩, hb14⟩ := id hxa
          refine W.widen (k := 3) (n := 1105) (Nat.le_of_ble_eq_true rfl) (Nat.le_of_ble_eq_true rfl) ?_
          exact mm_iret S hr hlocks hR (Or.inr ⟨c, fi, j, hc, hfi, hj, ej, rfl, rfl, c3, Or.inl ⟨k, ck, hk4, rfl, hck, hxa, hxf⟩⟩) dX8_write_74
      · have c3 : ¬ (cl ≤ 12) := fun z => c3 ((nI_leI (a := cl) (b := 12) (by omega) (by omega)).mpr z)
        refine lv_bipush (v := -9) hx hb dX8_write_23 (by decide) ?_
        refine W.widen (k := 3) (n := 1105) (Nat.le_of_ble_eq_true rfl) (Nat.le_of_ble_eq_true rfl) ?_
        have hxa2 := hxa.fr0 hI hZ
        have hxf : xF ad nw no M M4 := fun q e hq _ => hZ.at hq mm_n0
        exact mm_iret S hr hlocks hR (Or.inl ⟨rfl, fun q => c3 q.2.2, hxa2, hxf⟩) dX8_write_25
    · skip
      refine lv_if_eq (tgt := 23) hx hb dX8_write_11 (by decide) (fun _ => ?_) (fun z => by first | exact absurd z (by decide) | exact absurd (by decide) z)
      refine lv_bipush (v := -9) hx hb dX8_write_23 (by decide) ?_
      refine W.widen (k := 3) (n := 1105) (Nat.le_of_ble_eq_true rfl) (Nat.le_of_ble_eq_true rfl) ?_
      have hxa2 := hxa.fr0 hI hZ
      have hxf : xF ad nw no M M4 := fun q e hq _ => hZ.at hq mm_n0
      exact mm_iret S hr hlocks hR (Or.inl ⟨rfl, fun q => n_y q.2.1, hxa2, hxf⟩) dX8_write_25
  · skip
    refine lv_if_eq (tgt := 23) hx hb dX8_write_4 (by decide) (fun _ => ?_) (fun z => by first | exact absurd z (by decide) | exact absurd (by decide) z)
    refine lv_bipush (v := -9) hx hb dX8_write_23 (by decide) ?_
    refine W.widen (k := 3) (n := 1105) (Nat.le_of_ble_eq_true rfl) (Nat.le_of_ble_eq_true rfl) ?_
    have hxa2 := hxa.fr0 hI hZ
    have hxf : xF ad nw no M M2 := fun q e hq _ => hZ.at hq mm_n0
    exact mm_iret S hr hlocks hR (Or.inl ⟨rfl, fun q => n_x q.1, hxa2, hxf⟩) dX8_write_25
