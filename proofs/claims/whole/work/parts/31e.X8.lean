def updW (w : Nat → Nat → Nat → Int32) (j c : Nat) (g : Nat → Int32) : Nat → Nat → Nat → Int32 := fun k => if k = j then updS (w j) c g else w k
theorem woA.bytes2 {G : mm_G} {M M' : mm_M} {wd : Nat → Nat} {st : Nat → Nat → Int32} {fc fl tn g : Nat → Int32} {c : Nat} {L : List Nat} (h : woA G M wd st fc fl tn) (hc : c < 4) (ff : mm_fr L M M') (hL : ∀ i, i < 15 → i ≠ 8 + 2 * c → wd i ∉ L) (hg : M' (wd (8 + 2 * c)) = some (ia G 84 g)) : woA G M' wd (updS st c g) fc fl tn := by
  obtain ⟨h0, ⟨tf, h1, htf⟩, hs, h2, h3, h4, h5, h6⟩ := h
  refine ⟨ff.at h0 (hL 0 (by omega) (by omega)), ⟨tf, ff.at h1 (hL 1 (by omega) (by omega)), htf⟩, fun k hk => ⟨ff.at (hs k hk).1 (hL _ (by omega) (by omega)), ?_⟩, ff.at h2 (hL 2 (by omega) (by omega)), ff.at h3 (hL 3 (by omega) (by omega)), ff.at h4 (hL 4 (by omega) (by omega)), ff.at h5 (hL 5 (by omega) (by omega)), ff.at h6 (hL 6 (by omega) (by omega))⟩
  by_cases e : k = c
  · subst e
    unfold updS
    rw [if_pos rfl]
    exact hg
  · unfold updS
    rw [if_neg e]
    exact ff.at (hs k hk).2 (hL _ (by omega) (by omega))
theorem updS_s {f : Nat → Nat → Int32} {c : Nat} {g : Nat → Int32} : updS f c g c = g := if_pos rfl
theorem updS_n {f : Nat → Nat → Int32} {c k : Nat} {g : Nat → Int32} (h : k ≠ c) : updS f c g k = f k := if_neg h
theorem updW_s {w : Nat → Nat → Nat → Int32} {j c : Nat} {g : Nat → Int32} : updW w j c g j = updS (w j) c g := if_pos rfl
theorem updW_n {w : Nat → Nat → Nat → Int32} {j c k : Nat} {g : Nat → Int32} (h : k ≠ j) : updW w j c g k = w k := if_neg h

set_option maxHeartbeats 4000000 in
set_option maxRecDepth 100000 in
/-- poke(world, client, i, mask) -/
theorem c_X8_poke (l : Launch) (G : mm_G) (M : mm_M) (sz : Nat) (ad : Nat → Nat) (cl ll : Nat) (chg wl sp : Int32) (co lr : Nat → Int32) (sh : Nat → Nat) (rem : Nat → Nat → Int32) (nw : Nat) (wst : Nat → Nat → Nat → Int32) (wfc wfl wtn : Nat → Nat → Int32) (wln : Nat → Nat → Nat) (no : Nat) (op : Nat → OpT) (dc : Nat → Nat) (x y z v : Int32)  (hxa : xA G M ad cl ll chg wl sp co lr sh rem nw wst wfc wfl wtn wln no op dc) (hI : xI ad nw no) (hN : xN cl ll chg sh nw wfc wfl wtn wln no) (h18 : no = 0 → ad 18 = G.2.2.2.2.1) : mm_i l yX8_poke wsX8_poke ({ frames := 3, cells := 0, slots := 0, locals := 90 } : Room) G ([.ref (ad 0), .int x, .int y, .int z, .int v] : List Value) M sz (fun r M' => (r = 0 ∧ ¬ ((∃ j, j < nw ∧ x = nI j) ∧ (∃ j, j < 4 ∧ y = nI j) ∧ (∃ j, j < 84 ∧ z = nI j) ∧ ∃ j, 1 ≤ j ∧ j < 256 ∧ v = nI j) ∧ xA G M' ad cl ll chg wl sp co lr sh rem nw wst wfc wfl wtn wln no op dc ∧ xF ad nw no M M') ∨ ∃ j c i k, j < nw ∧ c < 4 ∧ i < 84 ∧ 1 ≤ k ∧ k < 256 ∧ x = nI j ∧ y = nI c ∧ z = nI i ∧ v = nI k ∧ r = 1 ∧ xA G M' ad cl ll (nI 1) wl sp co lr sh rem nw (updW wst j c (upd (wst j c) i (wst j c i ^^^ nI k))) wfc wfl wtn wln no op dc ∧ xF ad nw no M M') := by
  refine mm_enter (cc := cX8_poke) (maxL := 5) (ret := (some .boolean)) _ (by decide) rfl (Nat.le_of_ble_eq_true rfl) ?_
  intro p0 e0 s m0 be0 me0 c0 ls S hr hlocks hname hA hC hR hl
  have hx := S.1
  have hb := S.2.1
  have hl : lv_has ls 5 [(0, .ref (ad 0)), (1, .int x), (2, .int y), (3, .int z), (4, .int v)] := hl
  have inRJx4a65c : ∀ w ∈ wsJx4a65c0, w ∈ wsX8_poke := by decide +kernel
  have inRX5 : ∀ w ∈ wsX50, w ∈ wsX8_poke := by decide +kernel
  have inRX7 : ∀ w ∈ wsX70, w ∈ wsX8_poke := by decide +kernel
  have inRX8 : ∀ w ∈ wsX80, w ∈ wsX8_poke := by decide +kernel
  have hF : mm_fr [] M M := mm_fr.rf
  have hR0 := hR
  obtain ⟨hX, hb1, hb2, ⟨dg, hb3⟩, ⟨lmc, lf, hb4a, hb4b, hb4c⟩, ⟨rf, hb5a, hb5b⟩, hb6, ⟨shf, hb7a, hb7b⟩, hb8, hb9, hb10, hb11, ⟨dnf, hb12a, hb12b⟩, ⟨sfc, sfl, hb13⟩, hb14⟩ := id hxa
  have hZ : mm_fr [] M M := mm_fr.rf
  have hnw := hN.2.2.2.2.1
  refine lv_aload_n hx hb dX8_poke_0 rfl (lv_at hl 0 rfl) ?_
  refine lv_iload_n hx hb dX8_poke_1 rfl (lv_at hl 1 rfl) ?_
  refine mm_calli hA hR (va_runV (As := [.int x]) (rest := []) S (c_X8_isWorld l G M _ ad cl ll chg wl sp co lr sh rem nw wst wfc wfl wtn wln no op dc x (hxa.fr0 hI hZ) hI hN h18) (cwV 1 S.2.2.2.2 gX8_poke_X8_isWorld rfl rfl rfl (by decide +kernel) ⟨Nat.le_of_ble_eq_true rfl, Nat.le_of_ble_eq_true rfl⟩) (mm_preV hC hA hR _ hX rfl) rfl rfl hl.1 rfl (lv_room (Nat.le_of_ble_eq_true rfl)) dX8_poke_2 ⟨Nat.le_of_ble_eq_true rfl, Nat.le_of_ble_eq_true rfl⟩) (fun r1 M2 H locs hp hR => ?_)
  obtain ⟨qg, ff⟩ := hp
  have hX := ff.at hX mm_n0
  have hb4a := ff.at hb4a mm_n0
  have hb4b := ff.at hb4b mm_n0
  have hb5a := ff.at hb5a mm_n0
  have hb7a := ff.at hb7a mm_n0
  have hb8 := ff.at hb8 mm_n0
  have hb9 := ff.at hb9 mm_n0
  have hb10 := ff.at hb10 mm_n0
  have hb3 := ff.at hb3 mm_n0
  have hF := hF.tr ff mm_i0
  have hZ := hZ.tr ff mm_i0
  rcases qg with ⟨e1, qg⟩ | ⟨e1, n_x⟩ <;> subst e1
  · skip
    obtain ⟨j, hj, e1⟩ := qg
    subst e1
    refine lv_if_eq (tgt := 30) hx hb dX8_poke_5 (by decide) (fun z => by first | exact absurd z (by decide) | exact absurd (by decide) z) (fun _ => ?_)
    refine lv_iload_n hx hb dX8_poke_8 rfl (lv_at hl 2 rfl) ?_
    refine mm_calli hA hR (va_runS (As := [.int y]) (rest := []) S (c_X8_isClient l G M2 _ y) (va_cwS 1 S.2.2.2.2 gX8_poke_X8_isClient rfl rfl rfl (by decide +kernel) ⟨Nat.le_of_ble_eq_true rfl, Nat.le_of_ble_eq_true rfl⟩) (mm_preS hC hA hR _) rfl rfl hl.1 rfl (lv_room (Nat.le_of_ble_eq_true rfl)) dX8_poke_9 ⟨Nat.le_of_ble_eq_true rfl, Nat.le_of_ble_eq_true rfl⟩) (fun r3 M4 H locs hp hR => ?_)
    obtain ⟨qg, ff⟩ := hp
    have hX := ff.at hX mm_n0
    have hb4a := ff.at hb4a mm_n0
    have hb4b := ff.at hb4b mm_n0
    have hb5a := ff.at hb5a mm_n0
    have hb7a := ff.at hb7a mm_n0
    have hb8 := ff.at hb8 mm_n0
    have hb9 := ff.at hb9 mm_n0
    have hb10 := ff.at hb10 mm_n0
    have hb3 := ff.at hb3 mm_n0
    have hF := hF.tr ff mm_i0
    have hZ := hZ.tr ff mm_i0
    rcases qg with ⟨e1, qg⟩ | ⟨e1, n_y⟩ <;> subst e1
    · skip
      obtain ⟨c, hc, e1⟩ := qg
      subst e1
      refine lv_if_eq (tgt := 30) hx hb dX8_poke_12 (by decide) (fun z => by first | exact absurd z (by decide) | exact absurd (by decide) z) (fun _ => ?_)
      refine lv_iload_n hx hb dX8_poke_15 rfl (lv_at hl 3 rfl) ?_
      refine mm_calli hA hR (va_runS (As := [.int z]) (rest := []) S (c_X8_isStatementByte l G M4 _ z) (va_cwS 1 S.2.2.2.2 gX8_poke_X8_isStatementByte rfl rfl rfl (by decide +kernel) ⟨Nat.le_of_ble_eq_true rfl, Nat.le_of_ble_eq_true rfl⟩) (mm_preS hC hA hR _) rfl rfl hl.1 rfl (lv_room (Nat.le_of_ble_eq_true rfl)) dX8_poke_16 ⟨Nat.le_of_ble_eq_true rfl, Nat.le_of_ble_eq_true rfl⟩) (fun r5 M6 H locs hp hR => ?_)
      obtain ⟨qg, ff⟩ := hp
      have hX := ff.at hX mm_n0
      have hb4a := ff.at hb4a mm_n0
      have hb4b := ff.at hb4b mm_n0
      have hb5a := ff.at hb5a mm_n0
      have hb7a := ff.at hb7a mm_n0
      have hb8 := ff.at hb8 mm_n0
      have hb9 := ff.at hb9 mm_n0
      have hb10 := ff.at hb10 mm_n0
      have hb3 := ff.at hb3 mm_n0
      have hF := hF.tr ff mm_i0
      have hZ := hZ.tr ff mm_i0
      rcases qg with ⟨e1, qg⟩ | ⟨e1, n_z⟩ <;> subst e1
      · skip
        obtain ⟨i, hi, e1⟩ := qg
        subst e1
        refine lv_if_eq (tgt := 30) hx hb dX8_poke_19 (by decide) (fun z => by first | exact absurd z (by decide) | exact absurd (by decide) z) (fun _ => ?_)
        refine lv_iload hx hb dX8_poke_22 (lv_at hl 4 rfl) ?_
        refine mm_calli hA hR (va_runS (As := [.int v]) (rest := []) S (c_X8_isMask l G M6 _ v) (va_cwS 1 S.2.2.2.2 gX8_poke_X8_isMask rfl rfl rfl (by decide +kernel) ⟨Nat.le_of_ble_eq_true rfl, Nat.le_of_ble_eq_true rfl⟩) (mm_preS hC hA hR _) rfl rfl hl.1 rfl (lv_room (Nat.le_of_ble_eq_true rfl)) dX8_poke_24 ⟨Nat.le_of_ble_eq_true rfl, Nat.le_of_ble_eq_true rfl⟩) (fun r7 M8 H locs hp hR => ?_)
        obtain ⟨qg, ff⟩ := hp
        have hX := ff.at hX mm_n0
        have hb4a := ff.at hb4a mm_n0
        have hb4b := ff.at hb4b mm_n0
        have hb5a := ff.at hb5a mm_n0
        have hb7a := ff.at hb7a mm_n0
        have hb8 := ff.at hb8 mm_n0
        have hb9 := ff.at hb9 mm_n0
        have hb10 := ff.at hb10 mm_n0
        have hb3 := ff.at hb3 mm_n0
        have hF := hF.tr ff mm_i0
        have hZ := hZ.tr ff mm_i0
        rcases qg with ⟨e1, qg⟩ | ⟨e1, n_v⟩ <;> subst e1
        · skip
          obtain ⟨jm, hm1, hm2, e1⟩ := qg
          subst e1
          refine lv_if_ne (tgt := 32) hx hb dX8_poke_27 (by decide) (fun _ => ?_) (fun z => by first | exact absurd z (by decide) | exact absurd (by decide) z)
          refine lv_aload_n hx hb dX8_poke_32 rfl (lv_at hl 0 rfl) ?_
          refine mm_get S hC hR (C := RX8) (T := TX8) (N := 14) (ref := "ForkWatch") (v := .ref (ad 10)) 3 hX inRX8 rfl (by decide) (by decide +kernel) (fun _ h9 => h9) rfl dX8_poke_33 ?_
          refine lv_iload_n hx hb dX8_poke_36 rfl (lv_at hl 1 rfl) ?_
          refine mm_callq hA hR (va_runV (As := [.int (nI j)]) (rest := []) S (c_Jx4a65c_get_915e3 l G M8 _ (ad 10) (ad 11) nw 10 j lmc lf hb4a hb4b hj (by omega) (by decide)) (cwV 1 S.2.2.2.2 gX8_poke_Jx4a65c_get_915e3 rfl rfl rfl (by decide +kernel) ⟨Nat.le_of_ble_eq_true rfl, Nat.le_of_ble_eq_true rfl⟩) (mm_preV hC hA hR _ hb4a rfl) rfl rfl hl.1 rfl (lv_room (Nat.le_of_ble_eq_true rfl)) dX8_poke_37 ⟨Nat.le_of_ble_eq_true rfl, Nat.le_of_ble_eq_true rfl⟩) (fun r9 M10 H locs hp hR => ?_)
          obtain ⟨e1, ff⟩ := hp
          rw [hb4c j hj] at e1
          subst e1
          have hX := ff.at hX mm_n0
          have hb4a := ff.at hb4a mm_n0
          have hb4b := ff.at hb4b mm_n0
          have hb5a := ff.at hb5a mm_n0
          have hb7a := ff.at hb7a mm_n0
          have hb8 := ff.at hb8 mm_n0
          have hb9 := ff.at hb9 mm_n0
          have hb10 := ff.at hb10 mm_n0
          have hb3 := ff.at hb3 mm_n0
          have hF := hF.tr ff mm_i0
          have hZ := hZ.tr ff mm_i0
          have hwo := (hb14 j hj).fr0 hZ
          obtain ⟨hw0, ⟨tf, hw1, htf⟩, hst, hw2, hw3, hw4, hw5, hw6⟩ := id hwo
          refine mm_cast (r := (RX7, TX7, 3)) S hC hR hw0 rfl (by decide +kernel) dX8_poke_40 ?_
          obtain ⟨k11a, k11b⟩ := hst c (by omega)
          refine mm_get S hC hR (C := RX7) (T := TX7) (N := 3) (ref := "ForkWatch$World") (v := .ref (xW ad j 1)) 0 hw0 inRX7 rfl (by decide) (by decide +kernel) (fun _ h9 => h9) rfl dX8_poke_43 ?_
          refine lv_iload_n hx hb dX8_poke_46 rfl (lv_at hl 2 rfl) ?_
          refine mm_sald S hC hR hw1 (j := c) (v := .ref (xW ad j (7 + 2 * c))) (by omega) (by omega) (by rw [htf _ (by omega)]; rfl) dX8_poke_47 ?_
          refine mm_get S hC hR (C := RX5) (T := TX5) (N := 1) (ref := "ForkWatch$Statement") (v := .ref (xW ad j (8 + 2 * c))) 0 k11a inRX5 rfl (by decide) (by decide +kernel) (fun _ h9 => h9) rfl dX8_poke_48 ?_
          refine lv_iload_n hx hb dX8_poke_51 rfl (lv_at hl 3 rfl) ?_
          refine lv_dup2_11 hx hb dX8_poke_52 rfl rfl ?_
          refine mm_iald S hC hR k11b (j := i) (by omega) (by omega) dX8_poke_53 ?_
          refine lv_iload hx hb dX8_poke_54 (lv_at hl 4 rfl) ?_
          refine lv_ixor hx hb dX8_poke_56 ?_
          have hF : mm_fr [(ad 0), (xW ad j (8 + 2 * c))] M M10 := hZ.up (fun q h => absurd h List.not_mem_nil)
          refine mm_iast S hC hR k11b (j := i) (by omega) (by omega) dX8_poke_57 (fun H locs M12 g14 f13 hR => ?_)
          have hX := f13.at hX (mm_nc (mm_neoi hX k11b) mm_n0)
          have hb4a := f13.at hb4a (mm_nc (mm_neoi hb4a k11b) mm_n0)
          have hb4b := f13.at hb4b (mm_nc (mm_neoa hb4b k11b) mm_n0)
          have hb5a := f13.at hb5a (mm_nc (mm_nesa hb5a k11b) mm_n0)
          have hb7a := f13.at hb7a (mm_nc (mm_nelen hb7a k11b (by decide)) mm_n0)
          have hb8 := f13.at hb8 (mm_nc (mm_nelen hb8 k11b (by decide)) mm_n0)
          have hb9 := f13.at hb9 (mm_nc (mm_nelen hb9 k11b (by decide)) mm_n0)
          have hb10 := f13.at hb10 (mm_nc (mm_neoi hb10 k11b) mm_n0)
          have hb3 := f13.at hb3 (mm_nc (mm_nelen hb3 k11b (by decide)) mm_n0)
          have hw0 := f13.at hw0 (mm_nc (mm_neoi hw0 k11b) mm_n0)
          have hw1 := f13.at hw1 (mm_nc (mm_nesa hw1 k11b) mm_n0)
          have hw2 := f13.at hw2 (mm_nc (mm_neoi hw2 k11b) mm_n0)
          have hw3 := f13.at hw3 (mm_nc (mm_nelen hw3 k11b (by decide)) mm_n0)
          have hw4 := f13.at hw4 (mm_nc (mm_nelen hw4 k11b (by decide)) mm_n0)
          have hw5 := f13.at hw5 (mm_nc (mm_neoi hw5 k11b) mm_n0)
          have hw6 := f13.at hw6 (mm_nc (mm_nelen hw6 k11b (by decide)) mm_n0)
          have k11a := f13.at k11a (mm_nc (mm_neoi k11a k11b) mm_n0)
          have k11b : M12 (xW ad j (8 + 2 * c)) = some (ia G 84 (upd (wst j c) i (((wst j c) i) ^^^ (nI jm)))) := g14
          have hF := hF.tr f13 (mm_ic 1 rfl mm_i0)
          refine lv_aload_n hx hb dX8_poke_58 rfl (lv_at hl 0 rfl) ?_
          refine lv_iconst (v := nI 1) hx hb dX8_poke_59 (by decide) ?_
          refine mm_put S hC hR (C := RX8) (T := TX8) (N := 14) (ref := "ForkWatch") 11 hX inRX8 rfl tyX8_ok nmX8 (by decide) (by decide +kernel) (fun _ h9 => h9) rfl rfl rfl (Nat.le_of_ble_eq_true rfl) dX8_poke_60 (fun H locs M15 g17 f16 hR => ?_)
          have hb4a := f16.at hb4a (mm_nc (xne0 hI (by decide) (by decide) (by decide)) mm_n0)
          have hb4b := f16.at hb4b (mm_nc (xne0 hI (by decide) (by decide) (by decide)) mm_n0)
          have hb5a := f16.at hb5a (mm_nc (xne0 hI (by decide) (by decide) (by decide)) mm_n0)
          have hb7a := f16.at hb7a (mm_nc (xne0 hI (by decide) (by decide) (by decide)) mm_n0)
          have hb8 := f16.at hb8 (mm_nc (xne0 hI (by decide) (by decide) (by decide)) mm_n0)
          have hb9 := f16.at hb9 (mm_nc (xne0 hI (by decide) (by decide) (by decide)) mm_n0)
          have hb10 := f16.at hb10 (mm_nc (xne0 hI (by decide) (by decide) (by decide)) mm_n0)
          have hb3 := f16.at hb3 (mm_nc (xne0 hI (by decide) (by decide) (by decide)) mm_n0)
          have hw0 := f16.at hw0 (mm_nc (mm_neoo hw0 hX (by decide)) mm_n0)
          have hw1 := f16.at hw1 (mm_nc (Ne.symm (mm_neoi hX hw1)) mm_n0)
          have hw2 := f16.at hw2 (mm_nc (mm_neoo hw2 hX (by decide)) mm_n0)
          have hw3 := f16.at hw3 (mm_nc (Ne.symm (mm_neoi hX hw3)) mm_n0)
          have hw4 := f16.at hw4 (mm_nc (Ne.symm (mm_neoi hX hw4)) mm_n0)
          have hw5 := f16.at hw5 (mm_nc (mm_neoo hw5 hX (by decide)) mm_n0)
          have hw6 := f16.at hw6 (mm_nc (Ne.symm (mm_neoi hX hw6)) mm_n0)
          have k11a := f16.at k11a (mm_nc (mm_neoo k11a hX (by decide)) mm_n0)
          have k11b := f16.at k11b (mm_nc (Ne.symm (mm_neoi hX k11b)) mm_n0)
          have hX : M15 (ad 0) = some (ob 9 [.ref (ad 1), .ref (ad 4), .ref (ad 9), .ref (ad 10), .ref (ad 12), .ref (ad 13), .ref (ad 14), .int (nI cl), .ref (ad 15), .int (nI ll), .ref (ad 16), .int (nI 1), .int wl, .int sp]) := g17
          have hF := hF.tr f16 (mm_ic 0 rfl mm_i0)
          refine lv_iconst (v := nI 1) hx hb dX8_poke_63 (by decide) ?_
          have hrs : ∀ z, z ∈ [0, 100 + 15 * j + (8 + 2 * c)] → xD nw no z := by
            intro z hz
            simp only [List.mem_cons, List.not_mem_nil, or_false] at hz
            unfold xD
            omega
          have fr := xA.fr (rs := [0, 100 + 15 * j + (8 + 2 * c)]) hxa hI hF hrs
          obtain ⟨u0, u1, u2, u3, u4, u5, u6, u7, u8, u9, u10, u11, u12, u13, u14⟩ := fr
          have hxa2 : xA G M15 ad cl ll (nI 1) wl sp co lr sh rem nw (updW wst j c (upd (wst j c) i (wst j c i ^^^ nI jm))) wfc wfl wtn wln no op dc := ⟨hX, u1 (by simp only [List.mem_cons, List.not_mem_nil, or_false]; omega) (by simp only [List.mem_cons, List.not_mem_nil, or_false]; omega) (by simp only [List.mem_cons, List.not_mem_nil, or_false]; omega), u2 (by simp only [List.mem_cons, List.not_mem_nil, or_false]; omega) (by simp only [List.mem_cons, List.not_mem_nil, or_false]; omega) (by simp only [List.mem_cons, List.not_mem_nil, or_false]; omega) (by simp only [List.mem_cons, List.not_mem_nil, or_false]; omega) (by simp only [List.mem_cons, List.not_mem_nil, or_false]; omega), u3 (by simp only [List.mem_cons, List.not_mem_nil, or_false]; omega), u4 (by simp only [List.mem_cons, List.not_mem_nil, or_false]; omega) (by simp only [List.mem_cons, List.not_mem_nil, or_false]; omega), u5 (by simp only [List.mem_cons, List.not_mem_nil, or_false]; omega), fun k hk => u6 k hk (by simp only [List.mem_cons, List.not_mem_nil, or_false]; omega) (by simp only [List.mem_cons, List.not_mem_nil, or_false]; omega), u7 (by simp only [List.mem_cons, List.not_mem_nil, or_false]; omega), u8 (by simp only [List.mem_cons, List.not_mem_nil, or_false]; omega), u9 (by simp only [List.mem_cons, List.not_mem_nil, or_false]; omega), u10 (by simp only [List.mem_cons, List.not_mem_nil, or_false]; omega), u11 (by simp only [List.mem_cons, List.not_mem_nil, or_false]; omega) (by simp only [List.mem_cons, List.not_mem_nil, or_false]; omega) (by intro z hz; simp only [List.mem_cons, List.not_mem_nil, or_false] at hz; omega) (xn18 hC hR0 hxa hI h18 (by intro z hz; simp only [List.mem_cons, List.not_mem_nil, or_false] at hz; omega) hrs), u12 (by simp only [List.mem_cons, List.not_mem_nil, or_false]; omega), u13 (by simp only [List.mem_cons, List.not_mem_nil, or_false]; omega) (by simp only [List.mem_cons, List.not_mem_nil, or_false]; omega) (by simp only [List.mem_cons, List.not_mem_nil, or_false]; omega), fun j2 hj2 => by by_cases e : j2 = j; (subst e; rw [updW_s]; exact (hb14 j2 hj2).bytes2 hc hF (fun i2 h1 h2 => xnin hI (by unfold xD; omega) hrs (by simp only [List.mem_cons, List.not_mem_nil, or_false]; omega)) k11b); (rw [updW_n e]; exact u14 j2 hj2 (by intro z hz; simp only [List.mem_cons, List.not_mem_nil, or_false] at hz; omega))⟩
          have hxf : xF ad nw no M M15 := xF.of (rs := [0, 100 + 15 * j + (8 + 2 * c)]) hF hrs
          exact mm_zret S hr hlocks (by decide) hR (Or.inr ⟨j, c, i, jm, hj, hc, hi, hm1, hm2, rfl, rfl, rfl, rfl, rfl, hxa2, hxf⟩) dX8_poke_64
        · skip
          refine lv_if_ne (tgt := 32) hx hb dX8_poke_27 (by decide) (fun z => by first | exact absurd z (by decide) | exact absurd (by decide) z) (fun _ => ?_)
          refine lv_iconst (v := nI 0) hx hb dX8_poke_30 (by decide) ?_
          have hxa2 := hxa.fr0 hI hZ
          have hxf : xF ad nw no M M8 := fun q e hq _ => hZ.at hq mm_n0
          exact mm_zret S hr hlocks (by decide) hR (Or.inl ⟨rfl, fun q => n_v q.2.2.2, hxa2, hxf⟩) dX8_poke_31
      · skip
        refine lv_if_eq (tgt := 30) hx hb dX8_poke_19 (by decide) (fun _ => ?_) (fun z => by first | exact absurd z (by decide) | exact absurd (by decide) z)
        refine lv_iconst (v := nI 0) hx hb dX8_poke_30 (by decide) ?_
        have hxa2 := hxa.fr0 hI hZ
        have hxf : xF ad nw no M M6 := fun q e hq _ => hZ.at hq mm_n0
        exact mm_zret S hr hlocks (by decide) hR (Or.inl ⟨rfl, fun q => n_z q.2.2.1, hxa2, hxf⟩) dX8_poke_31
    · skip
      refine lv_if_eq (tgt := 30) hx hb dX8_poke_12 (by decide) (fun _ => ?_) (fun z => by first | exact absurd z (by decide) | exact absurd (by decide) z)
      refine lv_iconst (v := nI 0) hx hb dX8_poke_30 (by decide) ?_
      have hxa2 := hxa.fr0 hI hZ
      have hxf : xF ad nw no M M4 := fun q e hq _ => hZ.at hq mm_n0
      exact mm_zret S hr hlocks (by decide) hR (Or.inl ⟨rfl, fun q => n_y q.2.1, hxa2, hxf⟩) dX8_poke_31
  · skip
    refine lv_if_eq (tgt := 30) hx hb dX8_poke_5 (by decide) (fun _ => ?_) (fun z => by first | exact absurd z (by decide) | exact absurd (by decide) z)
    refine lv_iconst (v := nI 0) hx hb dX8_poke_30 (by decide) ?_
    have hxa2 := hxa.fr0 hI hZ
    have hxf : xF ad nw no M M2 := fun q e hq _ => hZ.at hq mm_n0
    exact mm_zret S hr hlocks (by decide) hR (Or.inl ⟨rfl, fun q => n_x q.1, hxa2, hxf⟩) dX8_poke_31

set_option maxHeartbeats 4000000 in
set_option maxRecDepth 100000 in
/-- graft(world, client, from) -/
theorem c_X8_graft (l : Launch) (G : mm_G) (M : mm_M) (sz : Nat) (ad : Nat → Nat) (cl ll : Nat) (chg wl sp : Int32) (co lr : Nat → Int32) (sh : Nat → Nat) (rem : Nat → Nat → Int32) (nw : Nat) (wst : Nat → Nat → Nat → Int32) (wfc wfl wtn : Nat → Nat → Int32) (wln : Nat → Nat → Nat) (no : Nat) (op : Nat → OpT) (dc : Nat → Nat) (x y z : Int32)  (hxa : xA G M ad cl ll chg wl sp co lr sh rem nw wst wfc wfl wtn wln no op dc) (hI : xI ad nw no) (hN : xN cl ll chg sh nw wfc wfl wtn wln no) (h18 : no = 0 → ad 18 = G.2.2.2.2.1) : mm_i l yX8_graft wsX8_graft ({ frames := 3, cells := 0, slots := 0, locals := 90 } : Room) G ([.ref (ad 0), .int x, .int y, .int z] : List Value) M sz (fun r M' => (r = 0 ∧ ¬ ((∃ j, j < nw ∧ x = nI j) ∧ (∃ j, j < 4 ∧ y = nI j) ∧ (∃ j, j < nw ∧ z = nI j)) ∧ xA G M' ad cl ll chg wl sp co lr sh rem nw wst wfc wfl wtn wln no op dc ∧ xF ad nw no M M') ∨ ∃ j c k, j < nw ∧ c < 4 ∧ k < nw ∧ x = nI j ∧ y = nI c ∧ z = nI k ∧ r = 1 ∧ xA G M' ad cl ll (nI 1) wl sp co lr sh rem nw (updW wst j c (va_cpy (wst k c) (wst j c) 0 0 84)) wfc wfl wtn wln no op dc ∧ xF ad nw no M M') := by
  refine mm_enter (cc := cX8_graft) (maxL := 4) (ret := (some .boolean)) _ (by decide) rfl (Nat.le_of_ble_eq_true rfl) ?_
  intro p0 e0 s m0 be0 me0 c0 ls S hr hlocks hname hA hC hR hl
  have hx := S.1
  have hb := S.2.1
  have hl : lv_has ls 4 [(0, .ref (ad 0)), (1, .int x), (2, .int y), (3, .int z)] := hl
  have inRJx4a65c : ∀ w ∈ wsJx4a65c0, w ∈ wsX8_graft := by decide +kernel
  have inRX5 : ∀ w ∈ wsX50, w ∈ wsX8_graft := by decide +kernel
  have inRX7 : ∀ w ∈ wsX70, w ∈ wsX8_graft := by decide +kernel
  have inRX8 : ∀ w ∈ wsX80, w ∈ wsX8_graft := by decide +kernel
  have hF : mm_fr [] M M := mm_fr.rf
  have hR0 := hR
  obtain ⟨hX, hb1, hb2, ⟨dg, hb3⟩, ⟨lmc, lf, hb4a, hb4b, hb4c⟩, ⟨rf, hb5a, hb5b⟩, hb6, ⟨shf, hb7a, hb7b⟩, hb8, hb9, hb10, hb11, ⟨dnf, hb12a, hb12b⟩, ⟨sfc, sfl, hb13⟩, hb14⟩ := id hxa
  have hZ : mm_fr [] M M := mm_fr.rf
  have hnw := hN.2.2.2.2.1
  refine lv_aload_n hx hb dX8_graft_0 rfl (lv_at hl 0 rfl) ?_
  refine lv_iload_n hx hb dX8_graft_1 rfl (lv_at hl 1 rfl) ?_
  refine mm_calli hA hR (va_runV (As := [.int x]) (rest := []) S (c_X8_isWorld l G M _ ad cl ll chg wl sp co lr sh rem nw wst wfc wfl wtn wln no op dc x (hxa.fr0 hI hZ) hI hN h18) (cwV 1 S.2.2.2.2 gX8_graft_X8_isWorld rfl rfl rfl (by decide +kernel) ⟨Nat.le_of_ble_eq_true rfl, Nat.le_of_ble_eq_true rfl⟩) (mm_preV hC hA hR _ hX rfl) rfl rfl hl.1 rfl (lv_room (Nat.le_of_ble_eq_true rfl)) dX8_graft_2 ⟨Nat.le_of_ble_eq_true rfl, Nat.le_of_ble_eq_true rfl⟩) (fun r18 M19 H locs hp hR => ?_)
  obtain ⟨qg, ff⟩ := hp
  have hX := ff.at hX mm_n0
  have hb4a := ff.at hb4a mm_n0
  have hb4b := ff.at hb4b mm_n0
  have hb5a := ff.at hb5a mm_n0
  have hb7a := ff.at hb7a mm_n0
  have hb8 := ff.at hb8 mm_n0
  have hb9 := ff.at hb9 mm_n0
  have hb10 := ff.at hb10 mm_n0
  have hb3 := ff.at hb3 mm_n0
  have hF := hF.tr ff mm_i0
  have hZ := hZ.tr ff mm_i0
  rcases qg with ⟨e1, qg⟩ | ⟨e1, n_x⟩ <;> subst e1
  · skip
    obtain ⟨j, hj, e1⟩ := qg
    subst e1
    refine lv_if_eq (tgt := 23) hx hb dX8_graft_5 (by decide) (fun z => by first | exact absurd z (by decide) | exact absurd (by decide) z) (fun _ => ?_)
    refine lv_iload_n hx hb dX8_graft_8 rfl (lv_at hl 2 rfl) ?_
    refine mm_calli hA hR (va_runS (As := [.int y]) (rest := []) S (c_X8_isClient l G M19 _ y) (va_cwS 1 S.2.2.2.2 gX8_graft_X8_isClient rfl rfl rfl (by decide +kernel) ⟨Nat.le_of_ble_eq_true rfl, Nat.le_of_ble_eq_true rfl⟩) (mm_preS hC hA hR _) rfl rfl hl.1 rfl (lv_room (Nat.le_of_ble_eq_true rfl)) dX8_graft_9 ⟨Nat.le_of_ble_eq_true rfl, Nat.le_of_ble_eq_true rfl⟩) (fun r20 M21 H locs hp hR => ?_)
    obtain ⟨qg, ff⟩ := hp
    have hX := ff.at hX mm_n0
    have hb4a := ff.at hb4a mm_n0
    have hb4b := ff.at hb4b mm_n0
    have hb5a := ff.at hb5a mm_n0
    have hb7a := ff.at hb7a mm_n0
    have hb8 := ff.at hb8 mm_n0
    have hb9 := ff.at hb9 mm_n0
    have hb10 := ff.at hb10 mm_n0
    have hb3 := ff.at hb3 mm_n0
    have hF := hF.tr ff mm_i0
    have hZ := hZ.tr ff mm_i0
    rcases qg with ⟨e1, qg⟩ | ⟨e1, n_y⟩ <;> subst e1
    · skip
      obtain ⟨c, hc, e1⟩ := qg
      subst e1
      refine lv_if_eq (tgt := 23) hx hb dX8_graft_12 (by decide) (fun z => by first | exact absurd z (by decide) | exact absurd (by decide) z) (fun _ => ?_)
      refine lv_aload_n hx hb dX8_graft_15 rfl (lv_at hl 0 rfl) ?_
      refine lv_iload_n hx hb dX8_graft_16 rfl (lv_at hl 3 rfl) ?_
      refine mm_calli hA hR (va_runV (As := [.int z]) (rest := []) S (c_X8_isWorld l G M21 _ ad cl ll chg wl sp co lr sh rem nw wst wfc wfl wtn wln no op dc z (hxa.fr0 hI hZ) hI hN h18) (cwV 1 S.2.2.2.2 gX8_graft_X8_isWorld rfl rfl rfl (by decide +kernel) ⟨Nat.le_of_ble_eq_true rfl, Nat.le_of_ble_eq_true rfl⟩) (mm_preV hC hA hR _ hX rfl) rfl rfl hl.1 rfl (lv_room (Nat.le_of_ble_eq_true rfl)) dX8_graft_17 ⟨Nat.le_of_ble_eq_true rfl, Nat.le_of_ble_eq_true rfl⟩) (fun r22 M23 H locs hp hR => ?_)
      obtain ⟨qg, ff⟩ := hp
      have hX := ff.at hX mm_n0
      have hb4a := ff.at hb4a mm_n0
      have hb4b := ff.at hb4b mm_n0
      have hb5a := ff.at hb5a mm_n0
      have hb7a := ff.at hb7a mm_n0
      have hb8 := ff.at hb8 mm_n0
      have hb9 := ff.at hb9 mm_n0
      have hb10 := ff.at hb10 mm_n0
      have hb3 := ff.at hb3 mm_n0
      have hF := hF.tr ff mm_i0
      have hZ := hZ.tr ff mm_i0
      rcases qg with ⟨e1, qg⟩ | ⟨e1, n_z⟩ <;> subst e1
      · skip
        obtain ⟨k, hk, e1⟩ := qg
        subst e1
        refine lv_if_ne (tgt := 25) hx hb dX8_graft_20 (by decide) (fun _ => ?_) (fun z => by first | exact absurd z (by decide) | exact absurd (by decide) z)
        refine lv_aload_n hx hb dX8_graft_25 rfl (lv_at hl 0 rfl) ?_
        refine mm_get S hC hR (C := RX8) (T := TX8) (N := 14) (ref := "ForkWatch") (v := .ref (ad 10)) 3 hX inRX8 rfl (by decide) (by decide +kernel) (fun _ h9 => h9) rfl dX8_graft_26 ?_
        refine lv_iload_n hx hb dX8_graft_29 rfl (lv_at hl 1 rfl) ?_
        refine mm_callq hA hR (va_runV (As := [.int (nI j)]) (rest := []) S (c_Jx4a65c_get_915e3 l G M23 _ (ad 10) (ad 11) nw 10 j lmc lf hb4a hb4b hj (by omega) (by decide)) (cwV 1 S.2.2.2.2 gX8_graft_Jx4a65c_get_915e3 rfl rfl rfl (by decide +kernel) ⟨Nat.le_of_ble_eq_true rfl, Nat.le_of_ble_eq_true rfl⟩) (mm_preV hC hA hR _ hb4a rfl) rfl rfl hl.1 rfl (lv_room (Nat.le_of_ble_eq_true rfl)) dX8_graft_30 ⟨Nat.le_of_ble_eq_true rfl, Nat.le_of_ble_eq_true rfl⟩) (fun r24 M25 H locs hp hR => ?_)
        obtain ⟨e1, ff⟩ := hp
        rw [hb4c j hj] at e1
        subst e1
        have hX := ff.at hX mm_n0
        have hb4a := ff.at hb4a mm_n0
        have hb4b := ff.at hb4b mm_n0
        have hb5a := ff.at hb5a mm_n0
        have hb7a := ff.at hb7a mm_n0
        have hb8 := ff.at hb8 mm_n0
        have hb9 := ff.at hb9 mm_n0
        have hb10 := ff.at hb10 mm_n0
        have hb3 := ff.at hb3 mm_n0
        have hF := hF.tr ff mm_i0
        have hZ := hZ.tr ff mm_i0
        have hwo := (hb14 j hj).fr0 hZ
        obtain ⟨hw0, ⟨tf, hw1, htf⟩, hst, hw2, hw3, hw4, hw5, hw6⟩ := id hwo
        refine mm_cast (r := (RX7, TX7, 3)) S hC hR hw0 rfl (by decide +kernel) dX8_graft_33 ?_
        obtain ⟨k26a, k26b⟩ := hst c (by omega)
        refine mm_get S hC hR (C := RX7) (T := TX7) (N := 3) (ref := "ForkWatch$World") (v := .ref (xW ad j 1)) 0 hw0 inRX7 rfl (by decide) (by decide +kernel) (fun _ h9 => h9) rfl dX8_graft_36 ?_
        refine lv_iload_n hx hb dX8_graft_39 rfl (lv_at hl 2 rfl) ?_
        refine mm_sald S hC hR hw1 (j := c) (v := .ref (xW ad j (7 + 2 * c))) (by omega) (by omega) (by rw [htf _ (by omega)]; rfl) dX8_graft_40 ?_
        refine lv_aload_n hx hb dX8_graft_41 rfl (lv_at hl 0 rfl) ?_
        refine mm_get S hC hR (C := RX8) (T := TX8) (N := 14) (ref := "ForkWatch") (v := .ref (ad 10)) 3 hX inRX8 rfl (by decide) (by decide +kernel) (fun _ h9 => h9) rfl dX8_graft_42 ?_
        refine lv_iload_n hx hb dX8_graft_45 rfl (lv_at hl 3 rfl) ?_
        refine mm_callq hA hR (va_runV (As := [.int (nI k)]) (rest := [.ref (xW ad j (7 + 2 * c))]) S (c_Jx4a65c_get_915e3 l G M25 _ (ad 10) (ad 11) nw 10 k lmc lf hb4a hb4b hk (by omega) (by decide)) (cwV 1 S.2.2.2.2 gX8_graft_Jx4a65c_get_915e3 rfl rfl rfl (by decide +kernel) ⟨Nat.le_of_ble_eq_true rfl, Nat.le_of_ble_eq_true rfl⟩) (mm_preV hC hA hR _ hb4a rfl) rfl rfl hl.1 rfl (lv_room (Nat.le_of_ble_eq_true rfl)) dX8_graft_46 ⟨Nat.le_of_ble_eq_true rfl, Nat.le_of_ble_eq_true rfl⟩) (fun r27 M28 H locs hp hR => ?_)
        obtain ⟨e1, ff⟩ := hp
        rw [hb4c k hk] at e1
        subst e1
        have hX := ff.at hX mm_n0
        have hb4a := ff.at hb4a mm_n0
        have hb4b := ff.at hb4b mm_n0
        have hb5a := ff.at hb5a mm_n0
        have hb7a := ff.at hb7a mm_n0
        have hb8 := ff.at hb8 mm_n0
        have hb9 := ff.at hb9 mm_n0
        have hb10 := ff.at hb10 mm_n0
        have hb3 := ff.at hb3 mm_n0
        have hw0 := ff.at hw0 mm_n0
        have hw1 := ff.at hw1 mm_n0
        have hw2 := ff.at hw2 mm_n0
        have hw3 := ff.at hw3 mm_n0
        have hw4 := ff.at hw4 mm_n0
        have hw5 := ff.at hw5 mm_n0
        have hw6 := ff.at hw6 mm_n0
        have k26a := ff.at k26a mm_n0
        have k26b := ff.at k26b mm_n0
        have hF := hF.tr ff mm_i0
        have hZ := hZ.tr ff mm_i0
        have hwo' := (hb14 k hk).fr0 hZ
        obtain ⟨hw0', ⟨tf', hw1', htf'⟩, hst', hw2', hw3', hw4', hw5', hw6'⟩ := id hwo'
        refine mm_cast (r := (RX7, TX7, 3)) S hC hR hw0' rfl (by decide +kernel) dX8_graft_49 ?_
        obtain ⟨k29a, k29b⟩ := hst' c (by omega)
        refine mm_get S hC hR (C := RX7) (T := TX7) (N := 3) (ref := "ForkWatch$World") (v := .ref (xW ad k 1)) 0 hw0' inRX7 rfl (by decide) (by decide +kernel) (fun _ h9 => h9) rfl dX8_graft_52 ?_
        refine lv_iload_n hx hb dX8_graft_55 rfl (lv_at hl 2 rfl) ?_
        refine mm_sald S hC hR hw1' (j := c) (v := .ref (xW ad k (7 + 2 * c))) (by omega) (by omega) (by rw [htf' _ (by omega)]; rfl) dX8_graft_56 ?_
        refine mm_callv hA hR (va_runV (As := [.ref (xW ad k (7 + 2 * c))]) (rest := []) S (c_X5_become l G M28 _ (xW ad j (7 + 2 * c)) (xW ad j (8 + 2 * c)) (xW ad k (7 + 2 * c)) (xW ad k (8 + 2 * c)) (wst j c) (wst k c) k26a k26b k29a k29b) (cwV 1 S.2.2.2.2 gX8_graft_X5_become rfl rfl rfl (by decide +kernel) ⟨Nat.le_of_ble_eq_true rfl, Nat.le_of_ble_eq_true rfl⟩) (mm_preV hC hA hR _ k26a rfl) rfl rfl hl.1 rfl (lv_room (Nat.le_of_ble_eq_true rfl)) dX8_graft_57 ⟨Nat.le_of_ble_eq_true rfl, Nat.le_of_ble_eq_true rfl⟩) (fun M31 H locs hp hR => ?_)
        obtain ⟨e1, ff⟩ := hp
        have hF : mm_fr [(ad 0), (xW ad j (8 + 2 * c))] M M28 := hZ.up (fun q h => absurd h List.not_mem_nil)
        have hX := ff.at hX (mm_nc (mm_neoi hX k26b) mm_n0)
        have hb8x : M31 (xW ad j (8 + 2 * c)) = some (ia G 84 (va_cpy (wst k c) (wst j c) 0 0 84)) := e1
        have hF := hF.tr ff (mm_ic 1 rfl mm_i0)
        refine lv_aload_n hx hb dX8_graft_60 rfl (lv_at hl 0 rfl) ?_
        refine lv_iconst (v := nI 1) hx hb dX8_graft_61 (by decide) ?_
        refine mm_put S hC hR (C := RX8) (T := TX8) (N := 14) (ref := "ForkWatch") 11 hX inRX8 rfl tyX8_ok nmX8 (by decide) (by decide +kernel) (fun _ h9 => h9) rfl rfl rfl (Nat.le_of_ble_eq_true rfl) dX8_graft_62 (fun H locs M32 g34 f33 hR => ?_)
        have hb8x := f33.at hb8x (mm_nc (Ne.symm (mm_neoi hX hb8x)) mm_n0)
        have hX : M32 (ad 0) = some (ob 9 [.ref (ad 1), .ref (ad 4), .ref (ad 9), .ref (ad 10), .ref (ad 12), .ref (ad 13), .ref (ad 14), .int (nI cl), .ref (ad 15), .int (nI ll), .ref (ad 16), .int (nI 1), .int wl, .int sp]) := g34
        have hF := hF.tr f33 (mm_ic 0 rfl mm_i0)
        refine lv_iconst (v := nI 1) hx hb dX8_graft_65 (by decide) ?_
        have hrs : ∀ z, z ∈ [0, 100 + 15 * j + (8 + 2 * c)] → xD nw no z := by
          intro z hz
          simp only [List.mem_cons, List.not_mem_nil, or_false] at hz
          unfold xD
          omega
        have fr := xA.fr (rs := [0, 100 + 15 * j + (8 + 2 * c)]) hxa hI hF hrs
        obtain ⟨u0, u1, u2, u3, u4, u5, u6, u7, u8, u9, u10, u11, u12, u13, u14⟩ := fr
        have hxa2 : xA G M32 ad cl ll (nI 1) wl sp co lr sh rem nw (updW wst j c (va_cpy (wst k c) (wst j c) 0 0 84)) wfc wfl wtn wln no op dc := ⟨hX, u1 (by simp only [List.mem_cons, List.not_mem_nil, or_false]; omega) (by simp only [List.mem_cons, List.not_mem_nil, or_false]; omega) (by simp only [List.mem_cons, List.not_mem_nil, or_false]; omega), u2 (by simp only [List.mem_cons, List.not_mem_nil, or_false]; omega) (by simp only [List.mem_cons, List.not_mem_nil, or_false]; omega) (by simp only [List.mem_cons, List.not_mem_nil, or_false]; omega) (by simp only [List.mem_cons, List.not_mem_nil, or_false]; omega) (by simp only [List.mem_cons, List.not_mem_nil, or_false]; omega), u3 (by simp only [List.mem_cons, List.not_mem_nil, or_false]; omega), u4 (by simp only [List.mem_cons, List.not_mem_nil, or_false]; omega) (by simp only [List.mem_cons, List.not_mem_nil, or_false]; omega), u5 (by simp only [List.mem_cons, List.not_mem_nil, or_false]; omega), fun k hk => u6 k hk (by simp only [List.mem_cons, List.not_mem_nil, or_false]; omega) (by simp only [List.mem_cons, List.not_mem_nil, or_false]; omega), u7 (by simp only [List.mem_cons, List.not_mem_nil, or_false]; omega), u8 (by simp only [List.mem_cons, List.not_mem_nil, or_false]; omega), u9 (by simp only [List.mem_cons, List.not_mem_nil, or_false]; omega), u10 (by simp only [List.mem_cons, List.not_mem_nil, or_false]; omega), u11 (by simp only [List.mem_cons, List.not_mem_nil, or_false]; omega) (by simp only [List.mem_cons, List.not_mem_nil, or_false]; omega) (by intro z hz; simp only [List.mem_cons, List.not_mem_nil, or_false] at hz; omega) (xn18 hC hR0 hxa hI h18 (by intro z hz; simp only [List.mem_cons, List.not_mem_nil, or_false] at hz; omega) hrs), u12 (by simp only [List.mem_cons, List.not_mem_nil, or_false]; omega), u13 (by simp only [List.mem_cons, List.not_mem_nil, or_false]; omega) (by simp only [List.mem_cons, List.not_mem_nil, or_false]; omega) (by simp only [List.mem_cons, List.not_mem_nil, or_false]; omega), fun j2 hj2 => by by_cases e : j2 = j; (subst e; rw [updW_s]; exact (hb14 j2 hj2).bytes2 hc hF (fun i2 h1 h2 => xnin hI (by unfold xD; omega) hrs (by simp only [List.mem_cons, List.not_mem_nil, or_false]; omega)) hb8x); (rw [updW_n e]; exact u14 j2 hj2 (by intro z hz; simp only [List.mem_cons, List.not_mem_nil, or_false] at hz; omega))⟩
        have hxf : xF ad nw no M M32 := xF.of (rs := [0, 100 + 15 * j + (8 + 2 * c)]) hF hrs
        exact mm_zret S hr hlocks (by decide) hR (Or.inr ⟨j, c, k, hj, hc, hk, rfl, rfl, rfl, rfl, hxa2, hxf⟩) dX8_graft_66
      · skip
        refine lv_if_ne (tgt := 25) hx hb dX8_graft_20 (by decide) (fun z => by first | exact absurd z (by decide) | exact absurd (by decide) z) (fun _ => ?_)
        refine lv_iconst (v := nI 0) hx hb dX8_graft_23 (by decide) ?_
        have hxa2 := hxa.fr0 hI hZ
        have hxf : xF ad nw no M M23 := fun q e hq _ => hZ.at hq mm_n0
        exact mm_zret S hr hlocks (by decide) hR (Or.inl ⟨rfl, fun q => n_z q.2.2, hxa2, hxf⟩) dX8_graft_24
    · skip
      refine lv_if_eq (tgt := 23) hx hb dX8_graft_12 (by decide) (fun _ => ?_) (fun z => by first | exact absurd z (by decide) | exact absurd (by decide) z)
      refine lv_iconst (v := nI 0) hx hb dX8_graft_23 (by decide) ?_
      have hxa2 := hxa.fr0 hI hZ
      have hxf : xF ad nw no M M21 := fun q e hq _ => hZ.at hq mm_n0
      exact mm_zret S hr hlocks (by decide) hR (Or.inl ⟨rfl, fun q => n_y q.2.1, hxa2, hxf⟩) dX8_graft_24
  · skip
    refine lv_if_eq (tgt := 23) hx hb dX8_graft_5 (by decide) (fun _ => ?_) (fun z => by first | exact absurd z (by decide) | exact absurd (by decide) z)
    refine lv_iconst (v := nI 0) hx hb dX8_graft_23 (by decide) ?_
    have hxa2 := hxa.fr0 hI hZ
    have hxf : xF ad nw no M M19 := fun q e hq _ => hZ.at hq mm_n0
    exact mm_zret S hr hlocks (by decide) hR (Or.inl ⟨rfl, fun q => n_x q.1, hxa2, hxf⟩) dX8_graft_24
