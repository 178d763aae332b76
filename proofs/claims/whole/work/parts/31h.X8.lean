set_option maxHeartbeats 4000000 in
set_option maxRecDepth 100000 in
/-- split(world) -/
theorem c_X8_split (l : Launch) (G : mm_G) (M : mm_M) (sz : Nat) (ad : Nat → Nat) (cl ll : Nat) (chg wl sp : Int32) (co lr : Nat → Int32) (sh : Nat → Nat) (rem : Nat → Nat → Int32) (nw : Nat) (wst : Nat → Nat → Nat → Int32) (wfc wfl wtn : Nat → Nat → Int32) (wln : Nat → Nat → Nat) (no : Nat) (op : Nat → OpT) (dc : Nat → Nat) (x : Int32)  (hxa : xA G M ad cl ll chg wl sp co lr sh rem nw wst wfc wfl wtn wln no op dc) (hI : xI ad nw no) (hN : xN cl ll chg sh nw wfc wfl wtn wln no) (h18 : no = 0 → ad 18 = G.2.2.2.2.1) : mm_i l yX8_split wsX8_split ({ frames := 7, cells := 16, slots := 2582, locals := 220 } : Room) G ([.ref (ad 0), .int x] : List Value) M sz (fun r M' => (r = -1 ∧ ¬ ((∃ j, j < nw ∧ x = nI j) ∧ nw < 6) ∧ xA G M' ad cl ll chg wl sp co lr sh rem nw wst wfc wfl wtn wln no op dc ∧ xF ad nw no M M') ∨ ∃ j wd, j < nw ∧ nw < 6 ∧ x = nI j ∧ r = nI nw ∧ (∀ i, i < 15 → M (wd i) = none) ∧ xI (adW ad wd nw) (nw + 1) no ∧ xA G M' (adW ad wd nw) cl ll chg wl sp co lr sh rem (nw + 1) (putW wst nw (cpS (wst j) s0)) (putW wfc nw (va_cpy (wfc j) (fun _ => 0) 0 0 192)) (putW wfl nw (va_cpy (wfl j) (fun _ => 0) 0 0 16)) (putW wtn nw (va_cpy (wtn j) (fun _ => 0) 0 0 1024)) (putW wln nw (wln j)) no op dc ∧ xF ad nw no M M') := by
  refine mm_enter (cc := cX8_split) (maxL := 3) (ret := (some .int)) _ (by decide) rfl (Nat.le_of_ble_eq_true rfl) ?_
  intro p0 e0 s m0 be0 me0 c0 ls S hr hlocks hname hA hC hR hl
  have hx := S.1
  have hb := S.2.1
  have hl : lv_has ls 3 [(0, .ref (ad 0)), (1, .int x)] := hl
  have inRJx4a65c : ∀ w ∈ wsJx4a65c0, w ∈ wsX8_split := by decide +kernel
  have inRX0 : ∀ w ∈ wsX00, w ∈ wsX8_split := by decide +kernel
  have inRX5 : ∀ w ∈ wsX50, w ∈ wsX8_split := by decide +kernel
  have inRX6 : ∀ w ∈ wsX60, w ∈ wsX8_split := by decide +kernel
  have inRX7 : ∀ w ∈ wsX70, w ∈ wsX8_split := by decide +kernel
  have inRX8 : ∀ w ∈ wsX80, w ∈ wsX8_split := by decide +kernel
  have hF : mm_fr [] M M := mm_fr.rf
  have hR0 := hR
  obtain ⟨hX, hb1, hb2, ⟨dg, hb3⟩, ⟨lmc, lf, hb4a, hb4b, hb4c⟩, ⟨rf, hb5a, hb5b⟩, hb6, ⟨shf, hb7a, hb7b⟩, hb8, hb9, hb10, hb11, ⟨dnf, hb12a, hb12b⟩, ⟨sfc, sfl, hb13⟩, hb14⟩ := id hxa
  have hZ : mm_fr [] M M := mm_fr.rf
  have hX0 := hX
  have hb4a0 := hb4a
  have hb4b0 := hb4b
  have hb5a0 := hb5a
  have hb7a0 := hb7a
  have hb80 := hb8
  have hb90 := hb9
  have hb100 := hb10
  have hb30 := hb3
  have hnw := hN.2.2.2.2.1
  refine lv_aload_n hx hb dX8_split_0 rfl (lv_at hl 0 rfl) ?_
  refine lv_iload_n hx hb dX8_split_1 rfl (lv_at hl 1 rfl) ?_
  refine mm_calli hA hR (va_runV (As := [.int x]) (rest := []) S (c_X8_isWorld l G M _ ad cl ll chg wl sp co lr sh rem nw wst wfc wfl wtn wln no op dc x (hxa.fr0 hI hZ) hI hN h18) (cwV 1 S.2.2.2.2 gX8_split_X8_isWorld rfl rfl rfl (by decide +kernel) ⟨Nat.le_of_ble_eq_true rfl, Nat.le_of_ble_eq_true rfl⟩) (mm_preV hC hA hR _ hX rfl) rfl rfl hl.1 rfl (lv_room (Nat.le_of_ble_eq_true rfl)) dX8_split_2 ⟨Nat.le_of_ble_eq_true rfl, Nat.le_of_ble_eq_true rfl⟩) (fun r1 M2 H locs hp hR => ?_)
  obtain ⟨qg, ff⟩ := hp
  have hX := ff.at hX mm_n0
  have hb4a := ff.at hb4a mm_n0
  have hb4b := ff.at hb4b mm_n0
  have hb5a := ff.at hb5a mm_n0
  have hb7a := ff.at hb7a mm_n0
  have hb8 := ff.at hb8 mm_n0
  have hb9 := ff.at hb9 mm_n0
  have hb10 := ff.at hb10 mm_n0
  have hb3 := ff.at hb3 mm_n0
  have hF := hF.tr ff mm_i0
  have hZ := hZ.tr ff mm_i0
  rcases qg with ⟨e1, qg⟩ | ⟨e1, n_x⟩ <;> subst e1
  · skip
    obtain ⟨j, hj, e1⟩ := qg
    subst e1
    refine lv_if_eq (tgt := 20) hx hb dX8_split_5 (by decide) (fun z => by first | exact absurd z (by decide) | exact absurd (by decide) z) (fun _ => ?_)
    refine lv_aload_n hx hb dX8_split_8 rfl (lv_at hl 0 rfl) ?_
    refine mm_get S hC hR (C := RX8) (T := TX8) (N := 14) (ref := "ForkWatch") (v := .ref (ad 10)) 3 hX inRX8 rfl (by decide) (by decide +kernel) (fun _ h9 => h9) rfl dX8_split_9 ?_
    refine mm_calli hA hR (va_runV (As := []) (rest := []) S (c_Jx4a65c_size_8abf5 l G M2 _ (ad 10) (ad 11) nw lmc hb4a) (cwV 0 S.2.2.2.2 gX8_split_Jx4a65c_size_8abf5 rfl rfl rfl (by decide +kernel) ⟨Nat.le_of_ble_eq_true rfl, Nat.le_of_ble_eq_true rfl⟩) (mm_preV hC hA hR _ hb4a rfl) rfl rfl hl.1 rfl (lv_room (Nat.le_of_ble_eq_true rfl)) dX8_split_12 ⟨Nat.le_of_ble_eq_true rfl, Nat.le_of_ble_eq_true rfl⟩) (fun r3 M4 H locs hp hR => ?_)
    obtain ⟨e1, ff⟩ := hp
    subst e1
    have hX := ff.at hX mm_n0
    have hb4a := ff.at hb4a mm_n0
    have hb4b := ff.at hb4b mm_n0
    have hb5a := ff.at hb5a mm_n0
    have hb7a := ff.at hb7a mm_n0
    have hb8 := ff.at hb8 mm_n0
    have hb9 := ff.at hb9 mm_n0
    have hb10 := ff.at hb10 mm_n0
    have hb3 := ff.at hb3 mm_n0
    have hF := hF.tr ff mm_i0
    have hZ := hZ.tr ff mm_i0
    refine lv_bipush (v := nI 6) hx hb dX8_split_15 (by decide) ?_
    refine lv_icmp_lt (tgt := 22) hx hb dX8_split_17 (by decide) (fun c6 => ?_) (fun c6 => ?_)
    · have c6 : nw < 6 := (nI_ltI (a := nw) (b := 6) (by omega) (by omega)).mp c6
      have hF := hZ
      refine mm_new (fs := [.null, .null, .null]) S hC hA hR (C := RX7) (T := TX7) (N := 3) (ci := 8) inRX7 rfl tyX7_ok (by decide +kernel) (by decide +kernel) (by decide +kernel) (fun j hj => by rcases (show j = 0 ∨ j = 1 ∨ j = 2 by omega) with rfl | rfl | rfl <;> rfl) (Nat.le_of_ble_eq_true rfl) (Nat.le_of_ble_eq_true rfl) dX8_split_22 (fun W9 H M5 z7 hW9 f6 hR => ?_)
      have n_ad_0_W9 : dif (ad 0) W9 := mm_nenew hX z7
      have n_ad_10_W9 : dif (ad 10) W9 := mm_nenew hb4a z7
      have n_ad_11_W9 : dif (ad 11) W9 := mm_nenew hb4b z7
      have n_ad_12_W9 : dif (ad 12) W9 := mm_nenew hb5a z7
      have n_ad_13_W9 : dif (ad 13) W9 := mm_nenew hb7a z7
      have n_ad_14_W9 : dif (ad 14) W9 := mm_nenew hb8 z7
      have n_ad_15_W9 : dif (ad 15) W9 := mm_nenew hb9 z7
      have n_ad_16_W9 : dif (ad 16) W9 := mm_nenew hb10 z7
      have n_ad_9_W9 : dif (ad 9) W9 := mm_nenew hb3 z7
      have nn_W9 : M W9 = none := hF.none z7 mm_o0
      have hX := f6.at hX mm_n0
      have hb4a := f6.at hb4a mm_n0
      have hb4b := f6.at hb4b mm_n0
      have hb5a := f6.at hb5a mm_n0
      have hb7a := f6.at hb7a mm_n0
      have hb8 := f6.at hb8 mm_n0
      have hb9 := f6.at hb9 mm_n0
      have hb10 := f6.at hb10 mm_n0
      have hb3 := f6.at hb3 mm_n0
      have hW9 : M5 W9 = some (ob 8 [.null, .null, .null]) := hW9
      have hF := hF.tr f6 mm_i0
      have hZ := hZ.tr f6 mm_i0
      refine lv_dup hx hb dX8_split_25 rfl ?_
      refine mm_callv hA hR (va_runI (As := []) (rest := [.ref W9]) S (c_X7_init l G M5 _ W9 hW9) (cwI 0 S.2.2.2.2 gX8_split_X7_init rfl rfl rfl (S.2.2.2.2 (.initialized RX7) (by decide +kernel)) (S.2.2.2.2 (.methodLink RX8 75 yX7_init) (by decide +kernel)) (S.2.2.2.2 (.instanceMethod yX7_init) (by decide +kernel)) rfl (by decide +kernel) ⟨Nat.le_of_ble_eq_true rfl, Nat.le_of_ble_eq_true rfl⟩) (mm_preS hC hA hR _) rfl rfl hl.1 rfl (lv_room (Nat.le_of_ble_eq_true rfl)) dX8_split_26 ⟨Nat.le_of_ble_eq_true rfl, Nat.le_of_ble_eq_true rfl⟩) (fun M9 H locs hp hR => ?_)
      obtain ⟨wd, ew0, hwI, hwn, hwo9, ff⟩ := hp
      have hnn : ∀ i, i < 15 → M (wd i) = none := fun i hi => by
        by_cases e : i = 0
        · subst e
          rw [ew0]
          exact nn_W9
        · exact hZ.none (hwn i (by omega) hi) mm_o0
      subst ew0
      have hX9 : ∀ q e, M5 q = some e → q ≠ wd 0 → M9 q = some e := fun q e h1 h2 => ff.at h1 (mm_nc h2 mm_n0)
      have hZ2 : mm_fr [] M M9 := fun q e hq _ => hX9 q e (hZ.at hq mm_n0) (mm_nenew hq (hnn 0 (by omega)))
      have hZ := hZ2
      have hF := hZ2
      have hX := hX9 _ _ hX (fun z => by have y := hnn 0 (by omega); rw [← z] at y; have x := hX0; rw [y] at x; cases x)
      have hb4a := hX9 _ _ hb4a (fun z => by have y := hnn 0 (by omega); rw [← z] at y; have x := hb4a0; rw [y] at x; cases x)
      have hb4b := hX9 _ _ hb4b (fun z => by have y := hnn 0 (by omega); rw [← z] at y; have x := hb4b0; rw [y] at x; cases x)
      have hb5a := hX9 _ _ hb5a (fun z => by have y := hnn 0 (by omega); rw [← z] at y; have x := hb5a0; rw [y] at x; cases x)
      have hb7a := hX9 _ _ hb7a (fun z => by have y := hnn 0 (by omega); rw [← z] at y; have x := hb7a0; rw [y] at x; cases x)
      have hb8 := hX9 _ _ hb8 (fun z => by have y := hnn 0 (by omega); rw [← z] at y; have x := hb80; rw [y] at x; cases x)
      have hb9 := hX9 _ _ hb9 (fun z => by have y := hnn 0 (by omega); rw [← z] at y; have x := hb90; rw [y] at x; cases x)
      have hb10 := hX9 _ _ hb10 (fun z => by have y := hnn 0 (by omega); rw [← z] at y; have x := hb100; rw [y] at x; cases x)
      have hb3 := hX9 _ _ hb3 (fun z => by have y := hnn 0 (by omega); rw [← z] at y; have x := hb30; rw [y] at x; cases x)
      refine lv_astore_n (lv' := [(2, .ref (wd 0)), (0, .ref (ad 0)), (1, .int (nI j))]) hx hb dX8_split_29 rfl hl (by decide) rfl (fun ls hl => ?_)
      refine lv_aload_n hx hb dX8_split_30 rfl (lv_at hl 0 rfl) ?_
      refine lv_aload_n hx hb dX8_split_31 rfl (lv_at hl 1 rfl) ?_
      refine mm_get S hC hR (C := RX8) (T := TX8) (N := 14) (ref := "ForkWatch") (v := .ref (ad 10)) 3 hX inRX8 rfl (by decide) (by decide +kernel) (fun _ h9 => h9) rfl dX8_split_32 ?_
      refine lv_iload_n hx hb dX8_split_35 rfl (lv_at hl 2 rfl) ?_
      refine mm_callq hA hR (va_runV (As := [.int (nI j)]) (rest := [.ref (wd 0)]) S (c_Jx4a65c_get_915e3 l G M9 _ (ad 10) (ad 11) nw 10 j lmc lf hb4a hb4b hj (by omega) (by decide)) (cwV 1 S.2.2.2.2 gX8_split_Jx4a65c_get_915e3 rfl rfl rfl (by decide +kernel) ⟨Nat.le_of_ble_eq_true rfl, Nat.le_of_ble_eq_true rfl⟩) (mm_preV hC hA hR _ hb4a rfl) rfl rfl hl.1 rfl (lv_room (Nat.le_of_ble_eq_true rfl)) dX8_split_36 ⟨Nat.le_of_ble_eq_true rfl, Nat.le_of_ble_eq_true rfl⟩) (fun r10 M11 H locs hp hR => ?_)
      obtain ⟨e1, ff⟩ := hp
      rw [hb4c j hj] at e1
      subst e1
      have hX := ff.at hX mm_n0
      have hb4a := ff.at hb4a mm_n0
      have hb4b := ff.at hb4b mm_n0
      have hb5a := ff.at hb5a mm_n0
      have hb7a := ff.at hb7a mm_n0
      have hb8 := ff.at hb8 mm_n0
      have hb9 := ff.at hb9 mm_n0
      have hb10 := ff.at hb10 mm_n0
      have hb3 := ff.at hb3 mm_n0
      have hF := hF.tr ff mm_i0
      have hZ := hZ.tr ff mm_i0
      have hwo' := (hb14 j hj).fr0 hZ
      obtain ⟨hw0', ⟨tf', hw1', htf'⟩, hst', hw2', hw3', hw4', hw5', hw6'⟩ := id hwo'
      refine mm_cast (r := (RX7, TX7, 3)) S hC hR hw0' rfl (by decide +kernel) dX8_split_39 ?_
      have hwo9 := hwo9.fr0 ff
      have hsp : ∀ i k, i < 15 → k < 15 → wd i ≠ xW ad j k := fun i k hi hk e => by
        obtain ⟨c, hc⟩ := hxa.has (100 + 15 * j + k) (by unfold xD; omega) (by omega)
        have y := hnn i hi
        rw [e] at y
        have x : M (xW ad j k) = some c := hc
        rw [y] at x
        cases x
      refine mm_callv hA hR (va_runV (As := [.ref (xW ad j 0)]) (rest := []) S (c_X7_become l G M11 _ wd s0 (fun _ => 0) (fun _ => 0) (fun _ => 0) (xW ad j) (wst j) (wfc j) (wfl j) (wtn j) hwo9 hwo' hwI hsp) (cwV 1 S.2.2.2.2 gX8_split_X7_become rfl rfl rfl (by decide +kernel) ⟨Nat.le_of_ble_eq_true rfl, Nat.le_of_ble_eq_true rfl⟩) (mm_preV hC hA hR _ hwo9.1 rfl) rfl rfl hl.1 rfl (lv_room (Nat.le_of_ble_eq_true rfl)) dX8_split_42 ⟨Nat.le_of_ble_eq_true rfl, Nat.le_of_ble_eq_true rfl⟩) (fun M13 H locs hp hR => ?_)
      obtain ⟨hwo9, ff⟩ := hp
      have hLB : ∀ q, M q ≠ none → q ∉ [wd 8, wd 10, wd 12, wd 14, wd 3, wd 4, wd 6] := fun q hq z => by
        simp only [List.mem_cons, List.not_mem_nil, or_false] at z
        rcases z with z | z | z | z | z | z | z <;> rw [z] at hq <;> exact hq (hnn _ (by omega))
      have hZ : mm_fr [] M M13 := fun q e hq _ => ff.at (hZ.at hq mm_n0) (hLB q (by rw [hq]; exact fun z => by cases z))
      have hF := hZ
      have hX := hZ.at hX0 mm_n0
      have hb4a := hZ.at hb4a0 mm_n0
      have hb4b := hZ.at hb4b0 mm_n0
      refine lv_aload_n hx hb dX8_split_45 rfl (lv_at hl 1 rfl) ?_
      refine mm_get S hC hR (C := RX8) (T := TX8) (N := 14) (ref := "ForkWatch") (v := .ref (ad 10)) 3 hX inRX8 rfl (by decide) (by decide +kernel) (fun _ h9 => h9) rfl dX8_split_46 ?_
      refine lv_aload_n hx hb dX8_split_49 rfl (lv_at hl 0 rfl) ?_
      refine mm_calli hA hR (va_runV (As := [.ref (wd 0)]) (rest := []) S (c_add_8_lo l G M13 _ (ad 10) (ad 11) nw 10 (wd 0) lmc lf _ hb4a hb4b hwo9.1 (by omega) (by decide)) (cwV 1 S.2.2.2.2 gX8_split_Jx4a65c_add_9ea2d rfl rfl rfl (by decide +kernel) ⟨Nat.le_of_ble_eq_true rfl, Nat.le_of_ble_eq_true rfl⟩) (mm_preV hC hA hR _ hb4a rfl) rfl rfl hl.1 rfl (lv_room (Nat.le_of_ble_eq_true rfl)) dX8_split_50 ⟨Nat.le_of_ble_eq_true rfl, Nat.le_of_ble_eq_true rfl⟩) (fun r14 M15 H locs hp hR => ?_)
      obtain ⟨e1, ⟨lmc2, e2⟩, ff⟩ := hp
      have hF : mm_fr [(ad 10), (ad 11)] M M13 := hZ.up (fun q h => absurd h List.not_mem_nil)
      have hne1 : ∀ i, i < 15 → wd i ∉ [ad 10, ad 11] := fun i hi => mm_nc (fun z => by have y := hnn i hi; rw [z, hb4a0] at y; cases y) (mm_nc (fun z => by have y := hnn i hi; rw [z, hb4b0] at y; cases y) mm_n0)
      have hwo9 := hwo9.out ff hne1
      have hX := ff.at hX (mm_nc (xne0 hI (by decide) (by decide) (by decide)) (mm_nc (xne0 hI (by decide) (by decide) (by decide)) mm_n0))
      have hb4a : M15 (ad 10) = some (ob 0 [.int lmc2, .ref (ad 11), .int (nI (nw + 1))]) := e2
      have hb4b : M15 (ad 11) = some (oa G 10 (va_up lf nw (some (wd 0)))) := e1
      have hF := hF.tr ff (mm_ic 0 rfl (mm_ic 1 rfl mm_i0))
      refine lv_pop hx hb dX8_split_53 rfl ?_
      refine lv_aload_n hx hb dX8_split_54 rfl (lv_at hl 1 rfl) ?_
      refine mm_get S hC hR (C := RX8) (T := TX8) (N := 14) (ref := "ForkWatch") (v := .ref (ad 10)) 3 hX inRX8 rfl (by decide) (by decide +kernel) (fun _ h9 => h9) rfl dX8_split_55 ?_
      refine mm_calli hA hR (va_runV (As := []) (rest := []) S (c_Jx4a65c_size_8abf5 l G M15 _ (ad 10) (ad 11) (nw + 1) lmc2 hb4a) (cwV 0 S.2.2.2.2 gX8_split_Jx4a65c_size_8abf5 rfl rfl rfl (by decide +kernel) ⟨Nat.le_of_ble_eq_true rfl, Nat.le_of_ble_eq_true rfl⟩) (mm_preV hC hA hR _ hb4a rfl) rfl rfl hl.1 rfl (lv_room (Nat.le_of_ble_eq_true rfl)) dX8_split_58 ⟨Nat.le_of_ble_eq_true rfl, Nat.le_of_ble_eq_true rfl⟩) (fun r16 M17 H locs hp hR => ?_)
      obtain ⟨e1, ff⟩ := hp
      subst e1
      have hwo9 := hwo9.fr0 ff
      have hX := ff.at hX mm_n0
      have hb4a := ff.at hb4a mm_n0
      have hb4b := ff.at hb4b mm_n0
      have hF := hF.tr ff mm_i0
      refine lv_iconst (v := nI 1) hx hb dX8_split_61 (by decide) ?_
      refine lv_isub hx hb dX8_split_62 ?_
      refine mm_eqi (pk_sub (by omega)) ?_
      refine mm_eqi (congrArg nI (show (nw + 1) - 1 = nw by omega)) ?_
      have hrs : ∀ z, z ∈ [10, 11] → xD nw no z := by
        intro z hz
        simp only [List.mem_cons, List.not_mem_nil, or_false] at hz
        unfold xD
        omega
      obtain ⟨u0, u1, u2, u3, u4, u5, u6, u7, u8, u9, u10, u11, u12, u13, u14⟩ := xA.fr (rs := [10, 11]) hxa hI hF hrs
      have hold : xA G M17 ad cl ll chg wl sp co lr sh rem nw wst wfc wfl wtn wln no op dc → xA G M17 (adW ad wd nw) cl ll chg wl sp co lr sh rem nw wst wfc wfl wtn wln no op dc := fun h => h.ext (fun r hr => adW_o (by unfold xD at hr; omega)) (adW_o (by omega))
      have hIn : xI (adW ad wd nw) (nw + 1) no := adW_I c6 hI hwI (fun r hr i hi e => by
        by_cases h8 : r = 18
        · rcases hb11.2.1 with ⟨z0, z⟩ | ⟨cap, f, z, _⟩
          · subst h8
            unfold xD at hr
            omega
          · subst h8
            rw [e, hnn i hi] at z
            cases z
        · obtain ⟨c, hc⟩ := hxa.has r hr h8
          rw [e, hnn i hi] at hc
          cases hc)
      have hop9 : opsA G M17 (ad 17) (ad 18) no (fun i => ad (1000 + 2 * i)) (fun i => ad (1001 + 2 * i)) op := u11 (by decide) (by decide) (by intro z hz; simp only [List.mem_cons, List.not_mem_nil, or_false] at hz; omega) (xn18 hC hR0 hxa hI h18 (by intro z hz; simp only [List.mem_cons, List.not_mem_nil, or_false] at hz; omega) hrs)
      have hwn9 : ∀ i, i < 15 → xW (adW ad wd nw) nw i = wd i := fun i hi => adW_w hi
      have hwo8 : ∀ i j2, i < 15 → j2 < nw → xW (adW ad wd nw) j2 i = xW ad j2 i := fun i j2 hi hj2 => adW_o (by omega)
      have k : ∀ r, r < 100 → adW ad wd nw r = ad r := fun r hr => adW_o (by omega)
      have hcap : ∀ i, adW ad wd nw (1000 + i) = ad (1000 + i) := fun i => adW_o (by omega)
      have hxa2 : xA G M17 (adW ad wd nw) cl ll chg wl sp co lr sh rem (nw + 1) (putW wst nw (cpS (wst j) s0)) (putW wfc nw (va_cpy (wfc j) (fun _ => 0) 0 0 192)) (putW wfl nw (va_cpy (wfl j) (fun _ => 0) 0 0 16)) (putW wtn nw (va_cpy (wtn j) (fun _ => 0) 0 0 1024)) (putW wln nw (wln j)) no op dc := by
        unfold xA
        rw [k 0 (by omega), k 1 (by omega), k 2 (by omega), k 3 (by omega), k 4 (by omega), k 5 (by omega), k 6 (by omega), k 7 (by omega), k 8 (by omega), k 9 (by omega), k 10 (by omega), k 11 (by omega), k 12 (by omega), k 13 (by omega), k 14 (by omega), k 15 (by omega), k 16 (by omega), k 17 (by omega), k 18 (by omega), k 19 (by omega), k 20 (by omega), k 21 (by omega), k 22 (by omega)]
        refine ⟨u0 (by decide), u1 (by decide) (by decide) (by decide), u2 (by decide) (by decide) (by decide) (by decide) (by decide), u3 (by decide), ⟨lmc2, _, hb4a, hb4b, fun j2 hj2 => ?_⟩, ?_, fun c hc => ?_, u7 (by decide), u8 (by decide), u9 (by decide), u10 (by decide), ?_, u12 (by decide), u13 (by decide) (by decide) (by decide), fun j2 hj2 => ?_⟩
        · by_cases e : j2 = nw
          · subst e
            rw [va_up_self, hwn9 0 (by omega)]
          · rw [va_up_ne _ _ e, hwo8 0 j2 (by omega) (by omega)]
            exact hb4c j2 (by omega)
        · obtain ⟨rf2, g1, g2⟩ := u5 (by decide)
          exact ⟨rf2, g1, fun c hc => by rw [k _ (by omega)]; exact g2 c hc⟩
        · rw [k _ (by omega), k (25 + 2 * c) (by omega)]
          exact u6 c hc (by simp only [List.mem_cons, List.not_mem_nil, or_false]; omega) (by simp only [List.mem_cons, List.not_mem_nil, or_false]; omega)
        · obtain ⟨g1, g2, g3⟩ := hop9
          refine ⟨g1, ?_, fun i hi => ?_⟩
          · rcases g2 with g | ⟨cap, f2, b1, b2, b3, b4, b5⟩
            · exact Or.inl g
            · exact Or.inr ⟨cap, f2, b1, b2, b3, b4, fun i hi => by show f2 i = some (adW ad wd nw (1000 + 2 * i)); rw [hcap]; exact b5 i hi⟩
          · show opAt G _ (adW ad wd nw (1000 + 2 * i)) (adW ad wd nw (1001 + 2 * i)) (op i)
            rw [hcap, show adW ad wd nw (1001 + 2 * i) = ad (1001 + 2 * i) from adW_o (by omega)]
            exact g3 i hi
        · by_cases e : j2 = nw
          · subst e
            rw [putW_s, putW_s, putW_s, putW_s]
            obtain ⟨w0, ⟨tf, w1, w1b⟩, ws, w2, w3, w4, w5, w6⟩ := hwo9
            unfold woA
            rw [hwn9 0 (by omega), hwn9 1 (by omega), hwn9 2 (by omega), hwn9 3 (by omega), hwn9 4 (by omega), hwn9 5 (by omega), hwn9 6 (by omega)]
            exact ⟨w0, ⟨tf, w1, fun c hc => by rw [hwn9 _ (by omega)]; exact w1b c hc⟩, fun c hc => by rw [hwn9 _ (by omega), hwn9 (8 + 2 * c) (by omega)]; exact ws c hc, w2, w3, w4, w5, w6⟩
          · rw [putW_n e, putW_n e, putW_n e, putW_n e]
            obtain ⟨w0, ⟨tf, w1, w1b⟩, ws, w2, w3, w4, w5, w6⟩ := u14 j2 (by omega) (by intro z hz; simp only [List.mem_cons, List.not_mem_nil, or_false] at hz; omega)
            unfold woA
            have e9 : ∀ i, i < 15 → xW (adW ad wd nw) j2 i = xW ad j2 i := fun i hi => hwo8 i j2 hi (by omega)
            rw [e9 0 (by omega), e9 1 (by omega), e9 2 (by omega), e9 3 (by omega), e9 4 (by omega), e9 5 (by omega), e9 6 (by omega)]
            exact ⟨w0, ⟨tf, w1, fun c hc => by rw [e9 _ (by omega)]; exact w1b c hc⟩, fun c hc => by rw [e9 _ (by omega), e9 (8 + 2 * c) (by omega)]; exact ws c hc, w2, w3, w4, w5, w6⟩
      have hxf : xF ad nw no M M17 := xF.of (rs := [10, 11]) hF hrs
      refine W.widen (k := 16) (n := 2582) (by show 0 + 1 + 14 + 1 ≤ 16; omega) (by show 0 + 3 + 1579 + 1000 ≤ 2582; omega) ?_
      exact mm_iret S hr hlocks hR (Or.inr ⟨j, wd, hj, c6, rfl, rfl, hnn, hIn, hxa2, hxf⟩) dX8_split_63
    · have c6 : ¬ (nw < 6) := fun z => c6 ((nI_ltI (a := nw) (b := 6) (by omega) (by omega)).mpr z)
      refine lv_iconst (v := -1) hx hb dX8_split_20 (by decide) ?_
      refine W.widen (k := 16) (n := 2582) (Nat.le_of_ble_eq_true rfl) (Nat.le_of_ble_eq_true rfl) ?_
      have hxa2 := hxa.fr0 hI hZ
      have hxf : xF ad nw no M M4 := fun q e hq _ => hZ.at hq mm_n0
      exact mm_iret S hr hlocks hR (Or.inl ⟨rfl, fun q => c6 q.2, hxa2, hxf⟩) dX8_split_21
  · skip
    refine lv_if_eq (tgt := 20) hx hb dX8_split_5 (by decide) (fun _ => ?_) (fun z => by first | exact absurd z (by decide) | exact absurd (by decide) z)
    refine lv_iconst (v := -1) hx hb dX8_split_20 (by decide) ?_
    refine W.widen (k := 16) (n := 2582) (Nat.le_of_ble_eq_true rfl) (Nat.le_of_ble_eq_true rfl) ?_
    have hxa2 := hxa.fr0 hI hZ
    have hxf : xF ad nw no M M2 := fun q e hq _ => hZ.at hq mm_n0
    exact mm_iret S hr hlocks hR (Or.inl ⟨rfl, fun q => n_x q.1, hxa2, hxf⟩) dX8_split_21
